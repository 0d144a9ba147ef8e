theorem dX11_makeChange_0 : decode cX11_makeChange 0 = .ok (.aload_n 0, 1) := by decide +kernel
theorem dX11_makeChange_1 : decode cX11_makeChange 1 = .ok (.getfield 28, 3) := by decide +kernel
theorem dX11_makeChange_4 : decode cX11_makeChange 4 = .ok (.iload_n 1, 1) := by decide +kernel
theorem dX11_makeChange_5 : decode cX11_makeChange 5 = .ok (.ldc_w 355, 3) := by decide +kernel
theorem dX11_makeChange_8 : decode cX11_makeChange 8 = .ok (.invokevirtual 260, 3) := by decide +kernel
theorem dX11_makeChange_11 : decode cX11_makeChange 11 = .ok (.istore_n 2, 1) := by decide +kernel
theorem dX11_makeChange_12 : decode cX11_makeChange 12 = .ok (.aload_n 0, 1) := by decide +kernel
theorem dX11_makeChange_13 : decode cX11_makeChange 13 = .ok (.getfield 28, 3) := by decide +kernel
theorem dX11_makeChange_16 : decode cX11_makeChange 16 = .ok (.iload_n 1, 1) := by decide +kernel
theorem dX11_makeChange_17 : decode cX11_makeChange 17 = .ok (.ldc_w 406, 3) := by decide +kernel
theorem dX11_makeChange_20 : decode cX11_makeChange 20 = .ok (.invokevirtual 260, 3) := by decide +kernel
theorem dX11_makeChange_23 : decode cX11_makeChange 23 = .ok (.istore_n 3, 1) := by decide +kernel
theorem dX11_makeChange_24 : decode cX11_makeChange 24 = .ok (.aload_n 0, 1) := by decide +kernel
theorem dX11_makeChange_25 : decode cX11_makeChange 25 = .ok (.getfield 28, 3) := by decide +kernel
theorem dX11_makeChange_28 : decode cX11_makeChange 28 = .ok (.iload_n 2, 1) := by decide +kernel
theorem dX11_makeChange_29 : decode cX11_makeChange 29 = .ok (.invokevirtual 283, 3) := by decide +kernel
theorem dX11_makeChange_32 : decode cX11_makeChange 32 = .ok (.iconst 3, 1) := by decide +kernel
theorem dX11_makeChange_33 : decode cX11_makeChange 33 = .ok (.if_icmp .eq 5, 3) := by decide +kernel
theorem dX11_makeChange_36 : decode cX11_makeChange 36 = .ok (.iconst 0, 1) := by decide +kernel
theorem dX11_makeChange_37 : decode cX11_makeChange 37 = .ok (.ireturn, 1) := by decide +kernel
theorem dX11_makeChange_38 : decode cX11_makeChange 38 = .ok (.iload_n 3, 1) := by decide +kernel
theorem dX11_makeChange_39 : decode cX11_makeChange 39 = .ok (.ifCond .ge 24, 3) := by decide +kernel
theorem dX11_makeChange_42 : decode cX11_makeChange 42 = .ok (.aload_n 0, 1) := by decide +kernel
theorem dX11_makeChange_43 : decode cX11_makeChange 43 = .ok (.getfield 82, 3) := by decide +kernel
theorem dX11_makeChange_46 : decode cX11_makeChange 46 = .ok (.iconst 0, 1) := by decide +kernel
theorem dX11_makeChange_47 : decode cX11_makeChange 47 = .ok (.aload_n 0, 1) := by decide +kernel
theorem dX11_makeChange_48 : decode cX11_makeChange 48 = .ok (.getfield 82, 3) := by decide +kernel
theorem dX11_makeChange_51 : decode cX11_makeChange 51 = .ok (.getfield 165, 3) := by decide +kernel
theorem dX11_makeChange_54 : decode cX11_makeChange 54 = .ok (.aload_n 0, 1) := by decide +kernel
theorem dX11_makeChange_55 : decode cX11_makeChange 55 = .ok (.getfield 28, 3) := by decide +kernel
theorem dX11_makeChange_58 : decode cX11_makeChange 58 = .ok (.iload_n 2, 1) := by decide +kernel
theorem dX11_makeChange_59 : decode cX11_makeChange 59 = .ok (.invokevirtual 370, 3) := by decide +kernel
theorem dX11_makeChange_62 : decode cX11_makeChange 62 = .ok (.ireturn, 1) := by decide +kernel
theorem dX11_makeChange_63 : decode cX11_makeChange 63 = .ok (.aload_n 0, 1) := by decide +kernel
theorem dX11_makeChange_64 : decode cX11_makeChange 64 = .ok (.aload_n 0, 1) := by decide +kernel
theorem dX11_makeChange_65 : decode cX11_makeChange 65 = .ok (.getfield 28, 3) := by decide +kernel
theorem dX11_makeChange_68 : decode cX11_makeChange 68 = .ok (.iload_n 3, 1) := by decide +kernel
theorem dX11_makeChange_69 : decode cX11_makeChange 69 = .ok (.ldc_w 408, 3) := by decide +kernel
theorem dX11_makeChange_72 : decode cX11_makeChange 72 = .ok (.invokevirtual 260, 3) := by decide +kernel
theorem dX11_makeChange_75 : decode cX11_makeChange 75 = .ok (.aload_n 0, 1) := by decide +kernel
theorem dX11_makeChange_76 : decode cX11_makeChange 76 = .ok (.getfield 82, 3) := by decide +kernel
theorem dX11_makeChange_79 : decode cX11_makeChange 79 = .ok (.invokevirtual 409, 3) := by decide +kernel
theorem dX11_makeChange_82 : decode cX11_makeChange 82 = .ok (.istore 4, 2) := by decide +kernel
theorem dX11_makeChange_84 : decode cX11_makeChange 84 = .ok (.aload_n 0, 1) := by decide +kernel
theorem dX11_makeChange_85 : decode cX11_makeChange 85 = .ok (.aload_n 0, 1) := by decide +kernel
theorem dX11_makeChange_86 : decode cX11_makeChange 86 = .ok (.getfield 28, 3) := by decide +kernel
theorem dX11_makeChange_89 : decode cX11_makeChange 89 = .ok (.iload_n 3, 1) := by decide +kernel
theorem dX11_makeChange_90 : decode cX11_makeChange 90 = .ok (.ldc_w 413, 3) := by decide +kernel
theorem dX11_makeChange_93 : decode cX11_makeChange 93 = .ok (.invokevirtual 260, 3) := by decide +kernel
theorem dX11_makeChange_96 : decode cX11_makeChange 96 = .ok (.aload_n 0, 1) := by decide +kernel
theorem dX11_makeChange_97 : decode cX11_makeChange 97 = .ok (.getfield 82, 3) := by decide +kernel
theorem dX11_makeChange_100 : decode cX11_makeChange 100 = .ok (.invokevirtual 409, 3) := by decide +kernel
theorem dX11_makeChange_103 : decode cX11_makeChange 103 = .ok (.istore 5, 2) := by decide +kernel
theorem dX11_makeChange_105 : decode cX11_makeChange 105 = .ok (.iload 4, 2) := by decide +kernel
theorem dX11_makeChange_107 : decode cX11_makeChange 107 = .ok (.ifCond .lt 33, 3) := by decide +kernel
theorem dX11_makeChange_110 : decode cX11_makeChange 110 = .ok (.iload 5, 2) := by decide +kernel
theorem dX11_makeChange_112 : decode cX11_makeChange 112 = .ok (.iload 4, 2) := by decide +kernel
theorem dX11_makeChange_114 : decode cX11_makeChange 114 = .ok (.if_icmp .lt 26, 3) := by decide +kernel
theorem dX11_makeChange_117 : decode cX11_makeChange 117 = .ok (.aload_n 0, 1) := by decide +kernel
theorem dX11_makeChange_118 : decode cX11_makeChange 118 = .ok (.getfield 82, 3) := by decide +kernel
theorem dX11_makeChange_121 : decode cX11_makeChange 121 = .ok (.iload 4, 2) := by decide +kernel
theorem dX11_makeChange_123 : decode cX11_makeChange 123 = .ok (.iload 5, 2) := by decide +kernel
theorem dX11_makeChange_125 : decode cX11_makeChange 125 = .ok (.aload_n 0, 1) := by decide +kernel
theorem dX11_makeChange_126 : decode cX11_makeChange 126 = .ok (.getfield 28, 3) := by decide +kernel
theorem dX11_makeChange_129 : decode cX11_makeChange 129 = .ok (.iload_n 2, 1) := by decide +kernel
theorem dX11_makeChange_130 : decode cX11_makeChange 130 = .ok (.invokevirtual 370, 3) := by decide +kernel
theorem dX11_makeChange_133 : decode cX11_makeChange 133 = .ok (.ifCond .eq 7, 3) := by decide +kernel
theorem dX11_makeChange_136 : decode cX11_makeChange 136 = .ok (.iconst 1, 1) := by decide +kernel
theorem dX11_makeChange_137 : decode cX11_makeChange 137 = .ok (.goto 4, 3) := by decide +kernel
theorem dX11_makeChange_140 : decode cX11_makeChange 140 = .ok (.iconst 0, 1) := by decide +kernel
theorem dX11_makeChange_141 : decode cX11_makeChange 141 = .ok (.ireturn, 1) := by decide +kernel
def EX11_placeToldE : List (Nat × Nat) := []
def EX11_makeChange : List (Nat × Nat) := [(3, 3), (101, 0)]
def EX11_closeDocumentE : List (Nat × Nat) := [(1, 0), (1, 2), (2, 0), (2, 1), (3, 11), (3, 12), (3, 13), (3, 14), (3, 15), (3, 16), (13, 14), (196, 0), (212, 0), (221, 0), (222, 0), (223, 0)]
set_option maxHeartbeats 4000000 in
set_option maxRecDepth 20000 in
theorem uX11_placeToldE (l : Launch) (dC : Nat → ClassId) (dI : Nat → Nat → Nat) (ca : Nat → ClassId) (base : Nat) (B : jF) (hB : jBok B) (hAp : jAp (dC, dI)) (hB3 : ∀ n G a H, B 3 n G a H ↔ jOb (dC, dI) 3 17 (F3 n G) a H) (hB6 : ∀ n G a H, B 6 n G a H ↔ jOb (dC, dI) 6 12 (F6 n G) a H) (hB13 : ∀ n G a H, B 13 n G a H ↔ jOb (dC, dI) 13 19 (F13 n G) a H) (hB101 : ∀ n G a H, B 101 n G a H ↔ jAr (dC, dI) (ca 1) (fun j z => True) n a H) (hB140 : ∀ n G a H, B 140 n G a H ↔ jAr (dC, dI) (ca 1) (fun j z => True) n a H) (hB141 : ∀ n G a H, B 141 n G a H ↔ jAr (dC, dI) (ca 1) (fun j z => True) n a H) (hB142 : ∀ n G a H, B 142 n G a H ↔ jAr (dC, dI) (ca 1) (fun j z => True) n a H) (hB143 : ∀ n G a H, B 143 n G a H ↔ jAr (dC, dI) (ca 1) (fun j z => True) n a H) (hB144 : ∀ n G a H, B 144 n G a H ↔ jAr (dC, dI) (ca 1) (fun j z => 0 ≤ z.toInt ∧ z.toInt ≤ 3000) n a H) (hB145 : ∀ n G a H, B 145 n G a H ↔ jAr (dC, dI) (ca 1) (fun j z => True) n a H) (hB146 : ∀ n G a H, B 146 n G a H ↔ jAr (dC, dI) (ca 1) (fun j z => True) n a H) (G0 : jT) (H0 : Heap) (r0 : Nat) (a1 : Int32) (r2 : Nat) (n2 : Nat) : Met l yX11_placeTold (jw yX11_placeTold cX11_placeTold 5 (some .int)) ({ frames := 6, cells := 0, slots := 0, locals := 190 }) (va_Pc [.ref r0, .int a1, .ref r2] (fun U => U.heap = H0 ∧ jX B base G0 [] H0 ∧ jG dC dI ca base U ∧ G0 r0 = some (13, 0) ∧ G0 r2 = some (3, n2) ∧ jP (dC, dI) G0 H0 [] ∧ True)) (va_Qi (S := Unit) (fun r u => (-1 ≤ r.toInt ∧ r.toInt ≤ 1500)) (fun u t => jRt (dC, dI) B base G0 EX11_placeToldE H0 [] t.heap) (jA base)) 0 0 (jA base) := by
  refine Met.ofW (cc := cX11_placeTold) (maxL := 5) (ret := (some .int)) (by decide) rfl ?_
  intro p e s m args below meth c s₁ Bd hml hv
  obtain ⟨rfl, hH0, hX, hG, hg_r0, hg_r2, hP0, hp0⟩ := hv
  have hK := hG.1
  have hx := Bd.exec
  have hb := Bd.bytes
  have hr := Bd.returns
  have hts := atoms_spec (ws := (jw yX11_placeTold cX11_placeTold 5 (some .int))) Bd.pre
  have htw : ∀ w ∈ jWl, w.before _ s = true := fun w h => hts w (List.mem_cons_of_mem _ h)
  have hown : s.vm.findClass RX11 = some m.cls := findClass_of_methodNamed Bd.named
  have hlocks := Bd.notSynchronized
  obtain ⟨Q, hQ⟩ : ∃ Q, Q = MQ below (va_Qi (S := Unit) (fun r u => (-1 ≤ r.toInt ∧ r.toInt ≤ 1500)) (fun u t => jRt (dC, dI) B base G0 EX11_placeToldE H0 [] t.heap) (jA base)) ([.ref r0, .int a1, .ref r2] : List Value).toArray s 0 0 (jA base) := ⟨_, rfl⟩
  rw [← hQ]
  have hl := lv_entry ([.ref r0, .int a1, .ref r2]) (n := 5) (Nat.le_of_ble_eq_true rfl)
  rw [lg_entry_eq]
  generalize (lg_sl ([.ref r0, .int a1, .ref r2]) ++ List.replicate (5 - (lg_sl ([.ref r0, .int a1, .ref r2])).length) Slot.unset).toArray = ls at hl ⊢
  have hl : lv_has ls 5 [(0, .ref r0), (1, .int a1), (2, .ref r2)] := hl
  generalize hR : (headSpec (jw yX11_placeTold cX11_placeTold 5 (some .int)) ({ frames := 6, cells := 0, slots := 0, locals := 190 })).room = R
  subst hH0
  have hh : jSt (dC, dI) B base G0 G0 EX11_placeToldE s.heap 0 0 [] [] [] s.heap [] := jSt.start hX hP0 jMc.nil jIs.nil
  clear hX hP0
  have hkm1 : ((-1) : Int32).toInt = (-1) := by decide
  have hk0 : (0 : Int32).toInt = 0 := by decide
  have hk1 : (1 : Int32).toInt = 1 := by decide
  have hk4 : (4 : Int32).toInt = 4 := by decide
  have hly_13_2 := htw (u_lay RX11 TX11 2) (jWc_wsX110 _ (u_in_lay (by decide)))
  have hlk_28 := (htw (.fieldLink RX11 28 "ProofServer" "json" "LProofServer$Json;") (jWr_1 _ (List.mem_of_getElem? (i := 23) rfl)))
  obtain ⟨str415, rstr415, hstr4150⟩ := hG.str (o := RX11) (k := 415) (tx := "line") (List.mem_of_getElem? (i := 917) (by decide +kernel))
  have hstr415 : jStr base str415 4 s s.heap := hstr4150
  obtain ⟨str417, rstr417, hstr4170⟩ := hG.str (o := RX11) (k := 417) (tx := "character") (List.mem_of_getElem? (i := 918) (by decide +kernel))
  have hstr417 : jStr base str417 9 s s.heap := hstr4170
  have hrg_a1 := jb_rng a1
  refine lv_aload_n hx hb dX11_placeTold_0 rfl (lv_at hl 0 rfl) ?_
  obtain ⟨v_1, hv_1, hh_2⟩ := hh.pin (C := RX11) (T := TX11) (N := 19) hB13 rfl (by decide) hg_r0 (i := 2) (by decide) rfl
  clear hh
  obtain ⟨json_3, rfl, hg_json_3⟩ := hv_1
  refine j7_read hx hb hown hK (C := RX11) (T := TX11) (N := 19) rfl hly_13_2 hlk_28 (hh_2.at 0 rfl) dX11_placeTold_1 ?_
  refine lv_iload_n hx hb dX11_placeTold_4 rfl (lv_at hl 1 rfl) ?_
  refine j_ldcSw hx hb hown rstr415 dX11_placeTold_5 ?_
  refine va_calli (A0 := jA base) (H0 := s.heap) (va_runV (As := [.int a1, .ref str415]) (rest := []) ⟨hx, hb, hml, hown, hts⟩ (uX4_member l dC dI ca base B hB hAp hB6 hB140 hB141 hB142 hB143 hB144 hB145 hB146 G0 s.heap json_3 a1 str415 4) (cwV 2 hts (jgV (jWr_23 _ (List.mem_of_getElem? (i := 10) rfl)) (jWr_23 _ (List.mem_of_getElem? (i := 11) rfl)) (jWr_23 _ (List.mem_of_getElem? (i := 12) rfl)) (jWr_1 _ (List.mem_of_getElem? (i := 22) rfl)) (jWr_23 _ (List.mem_of_getElem? (i := 13) rfl))) rfl rfl rfl (by decide +kernel) ⟨by rw [← hR]; exact Nat.le_of_ble_eq_true rfl, by rw [← hR]; exact Nat.le_of_ble_eq_true rfl⟩) ⟨fun a U g mk q => by obtain ⟨q0, q1, q2, qK, q10, q11, q12, q13⟩ := q; exact ⟨q0, q1, q2, jG.calling g mk a qK, (q10.moved (Vm.Alike.refl U.vm)), q11, q12, q13⟩, hh_2.recv (C := RX4) (T := TX4) (N := 12) hB6 rfl (by decide) hg_json_3 hK, fun U hU hW => ⟨rfl, hU, hh_2.2.1, hG.step hW hU hh_2.1, (hstr415.moved hW.alike).kept hh_2.1.2.1, hg_json_3, jP.nil, by first | omega | rfl | assumption | decide | exact Or.inl rfl | exact Or.inr rfl | (simp only; omega)⟩⟩ rfl rfl hl.1 rfl (lv_room (Nat.le_of_ble_eq_true rfl)) dX11_placeTold_8 ⟨Nat.zero_le _, Nat.zero_le _⟩) hh_2.1 (fun q _ h => h) (fun q h => h) (fun r_5 u_4 t_4 H_4 locs_4 ht_4 hvm_4 hr_5 hb_4 hz_4 hk_4 hS_4 => ?_)
  rw [ht_4] at hb_4
  obtain ⟨hb_41, hb_42, hb_43, hb_44, hb_45⟩ := hb_4
  have hh_4 : jSt (dC, dI) B base G0 G0 EX11_placeToldE s.heap 0 0 [(r0, 13, 2, .ref json_3)] [] [] H_4 locs_4 := ((hh_2.call hb_41 hb_42 hb_43 hb_44 hS_4 rfl (L1 := [(r0, 13, 2, .ref json_3)]) [0] rfl rfl (M1 := []) [] rfl rfl (I1 := []) [] rfl rfl).more hb_45)
  clear hh_2 ht_4 hvm_4 hz_4 hk_4 hS_4 hb_41 hb_42 hb_43 hb_44 hb_45
  obtain ⟨hr_5_0, hr_5_1⟩ := hr_5
  refine lv_istore_n (lv' := [(3, .int r_5), (0, .ref r0), (1, .int a1), (2, .ref r2)]) hx hb dX11_placeTold_11 rfl hl (by decide) rfl (fun ls hl => ?_)
  refine lv_aload_n hx hb dX11_placeTold_12 rfl (lv_at hl 1 rfl) ?_
  refine j7_read hx hb hown hK (C := RX11) (T := TX11) (N := 19) rfl hly_13_2 hlk_28 (hh_4.at 0 rfl) dX11_placeTold_13 ?_
  refine lv_iload_n hx hb dX11_placeTold_16 rfl (lv_at hl 2 rfl) ?_
  refine j_ldcSw hx hb hown rstr417 dX11_placeTold_17 ?_
  refine va_calli (A0 := jA base) (H0 := s.heap) (va_runV (As := [.int a1, .ref str417]) (rest := []) ⟨hx, hb, hml, hown, hts⟩ (uX4_member l dC dI ca base B hB hAp hB6 hB140 hB141 hB142 hB143 hB144 hB145 hB146 G0 H_4 json_3 a1 str417 9) (cwV 2 hts (jgV (jWr_23 _ (List.mem_of_getElem? (i := 10) rfl)) (jWr_23 _ (List.mem_of_getElem? (i := 11) rfl)) (jWr_23 _ (List.mem_of_getElem? (i := 12) rfl)) (jWr_1 _ (List.mem_of_getElem? (i := 22) rfl)) (jWr_23 _ (List.mem_of_getElem? (i := 13) rfl))) rfl rfl rfl (by decide +kernel) ⟨by rw [← hR]; exact Nat.le_of_ble_eq_true rfl, by rw [← hR]; exact Nat.le_of_ble_eq_true rfl⟩) ⟨fun a U g mk q => by obtain ⟨q0, q1, q2, qK, q10, q11, q12, q13⟩ := q; exact ⟨q0, q1, q2, jG.calling g mk a qK, (q10.moved (Vm.Alike.refl U.vm)), q11, q12, q13⟩, hh_4.recv (C := RX4) (T := TX4) (N := 12) hB6 rfl (by decide) hg_json_3 hK, fun U hU hW => ⟨rfl, hU, hh_4.2.1, hG.step hW hU hh_4.1, (hstr417.moved hW.alike).kept hh_4.1.2.1, hg_json_3, jP.nil, by first | omega | rfl | assumption | decide | exact Or.inl rfl | exact Or.inr rfl | (simp only; omega)⟩⟩ rfl rfl hl.1 rfl (lv_room (Nat.le_of_ble_eq_true rfl)) dX11_placeTold_20 ⟨Nat.zero_le _, Nat.zero_le _⟩) hh_4.1 (fun q _ h => h) (fun q h => h) (fun r_7 u_6 t_6 H_6 locs_6 ht_6 hvm_6 hr_7 hb_6 hz_6 hk_6 hS_6 => ?_)
  rw [ht_6] at hb_6
  obtain ⟨hb_61, hb_62, hb_63, hb_64, hb_65⟩ := hb_6
  have hh_6 : jSt (dC, dI) B base G0 G0 EX11_placeToldE s.heap 0 0 [(r0, 13, 2, .ref json_3)] [] [] H_6 locs_6 := ((hh_4.call hb_61 hb_62 hb_63 hb_64 hS_6 rfl (L1 := [(r0, 13, 2, .ref json_3)]) [0] rfl rfl (M1 := []) [] rfl rfl (I1 := []) [] rfl rfl).more hb_65)
  clear hh_4 ht_6 hvm_6 hz_6 hk_6 hS_6 hb_61 hb_62 hb_63 hb_64 hb_65
  obtain ⟨hr_7_0, hr_7_1⟩ := hr_7
  refine lv_istore (lv' := [(4, .int r_7), (3, .int r_5), (0, .ref r0), (1, .int a1), (2, .ref r2)]) hx hb dX11_placeTold_23 hl (by decide) rfl (fun ls hl => ?_)
  refine lv_aload_n hx hb dX11_placeTold_25 rfl (lv_at hl 2 rfl) ?_
  refine j7_read hx hb hown hK (C := RX11) (T := TX11) (N := 19) rfl hly_13_2 hlk_28 (hh_6.at 0 rfl) dX11_placeTold_26 ?_
  refine lv_iload_n hx hb dX11_placeTold_29 rfl (lv_at hl 1 rfl) ?_
  obtain ⟨v_10, hv_10, hh_11⟩ := hh_6.pin (C := RX4) (T := TX4) (N := 12) hB6 rfl (by decide) hg_json_3 (i := 7) (by decide) rfl
  obtain ⟨values_12, rfl, hlovalues_12, hhivalues_12⟩ := hv_10
  refine va_calli (A0 := jA base) (H0 := s.heap) (va_runV (As := [.int r_5]) (rest := []) ⟨hx, hb, hml, hown, hts⟩ (uX4_kindOf l dC dI ca base B hB hAp hB6 hB140 G0 H_6 json_3 r_5 values_12) (cwV 1 hts (jgV (jWr_27 _ (List.mem_of_getElem? (i := 5) rfl)) (jWr_23 _ (List.mem_of_getElem? (i := 15) rfl)) (jWr_23 _ (List.mem_of_getElem? (i := 16) rfl)) (jWr_1 _ (List.mem_of_getElem? (i := 22) rfl)) (jWr_23 _ (List.mem_of_getElem? (i := 17) rfl))) rfl rfl rfl (by decide +kernel) ⟨by rw [← hR]; exact Nat.le_of_ble_eq_true rfl, by rw [← hR]; exact Nat.le_of_ble_eq_true rfl⟩) ⟨fun a U g mk q => by obtain ⟨q0, q1, q2, qK, q10, q11, q12⟩ := q; exact ⟨q0, q1, q2, jG.calling g mk a qK, q10, q11, q12⟩, hh_11.recv (C := RX4) (T := TX4) (N := 12) hB6 rfl (by decide) hg_json_3 hK, fun U hU hW => ⟨rfl, hU, hh_11.2.1, hG.step hW hU hh_11.1, hg_json_3, (hh_11.2.2.1.sub (L1 := [(json_3, 6, 7, .int values_12)]) [0] rfl), by first | omega | (refine ⟨?_, ?_⟩ <;> (first | omega | rfl | assumption | decide | exact Or.inl rfl | exact Or.inr rfl | (simp only; omega)))⟩⟩ rfl rfl hl.1 rfl (lv_room (Nat.le_of_ble_eq_true rfl)) dX11_placeTold_30 ⟨Nat.zero_le _, Nat.zero_le _⟩) hh_11.1 (fun q _ h => h) (fun q h => h) (fun r_9 u_8 t_8 H_8 locs_8 ht_8 hvm_8 hr_9 hb_8 hz_8 hk_8 hS_8 => ?_)
  rw [ht_8] at hb_8
  obtain ⟨hb_81, hb_82, hb_83, hb_84, hb_85⟩ := hb_8
  have hh_8 : jSt (dC, dI) B base G0 G0 EX11_placeToldE s.heap 0 0 [(json_3, 6, 7, .int values_12), (r0, 13, 2, .ref json_3)] [] [] H_8 locs_8 := ((hh_11.call hb_81 hb_82 hb_83 hb_84 hS_8 rfl (L1 := [(json_3, 6, 7, .int values_12), (r0, 13, 2, .ref json_3)]) [0, 1] rfl rfl (M1 := []) [] rfl rfl (I1 := []) [] rfl rfl).more hb_85)
  clear hh_11 ht_8 hvm_8 hz_8 hk_8 hS_8 hb_81 hb_82 hb_83 hb_84 hb_85
  refine lv_iconst (v := 4) hx hb dX11_placeTold_33 (by decide) ?_
  refine lv_icmp_ne (tgt := 50) hx hb dX11_placeTold_34 (by decide) (fun c_13 => ?_) (fun c_13 => ?_)
  · skip
    have c_13' : r_9.toInt ≠ 4 := jb_ne (rfl) ((by decide)) c_13
    try clear hr_9
    refine lv_iconst (v := (-1)) hx hb dX11_placeTold_50 (by decide) ?_
    rw [hQ]
    exact W.iret (v := (-1)) hx hb hr (fun t ht hW => ⟨⟨(-1), (), rfl, by first | omega | (refine ⟨?_, ?_⟩ <;> (first | omega | rfl | assumption | decide | exact Or.inl rfl | exact Or.inr rfl | (simp only; omega))), hh_8.rt (M1 := []) [] rfl ht⟩, by rw [ht]; try exact hh_8.1.1, fun q h9 hq => by rw [ht]; try exact hh_8.1.2.1 q h9 hq⟩) hh_8.1.2.2 dX11_placeTold_51
  · skip
    have c_13' : r_9.toInt = 4 := jb_ne_n (rfl) ((by decide)) c_13
    first | (have hr_9q := hr_9.resolve_left (by omega); clear hr_9) | (have hr_9q := hr_9.resolve_right (by omega); clear hr_9) | try clear hr_9
    refine lv_aload_n hx hb dX11_placeTold_37 rfl (lv_at hl 2 rfl) ?_
    refine j7_read hx hb hown hK (C := RX11) (T := TX11) (N := 19) rfl hly_13_2 hlk_28 (hh_8.at 1 rfl) dX11_placeTold_38 ?_
    refine lv_iload hx hb dX11_placeTold_41 (lv_at hl 0 rfl) ?_
    refine va_calli (A0 := jA base) (H0 := s.heap) (va_runV (As := [.int r_7]) (rest := []) ⟨hx, hb, hml, hown, hts⟩ (uX4_kindOf l dC dI ca base B hB hAp hB6 hB140 G0 H_8 json_3 r_7 values_12) (cwV 1 hts (jgV (jWr_27 _ (List.mem_of_getElem? (i := 5) rfl)) (jWr_23 _ (List.mem_of_getElem? (i := 15) rfl)) (jWr_23 _ (List.mem_of_getElem? (i := 16) rfl)) (jWr_1 _ (List.mem_of_getElem? (i := 22) rfl)) (jWr_23 _ (List.mem_of_getElem? (i := 17) rfl))) rfl rfl rfl (by decide +kernel) ⟨by rw [← hR]; exact Nat.le_of_ble_eq_true rfl, by rw [← hR]; exact Nat.le_of_ble_eq_true rfl⟩) ⟨fun a U g mk q => by obtain ⟨q0, q1, q2, qK, q10, q11, q12⟩ := q; exact ⟨q0, q1, q2, jG.calling g mk a qK, q10, q11, q12⟩, hh_8.recv (C := RX4) (T := TX4) (N := 12) hB6 rfl (by decide) hg_json_3 hK, fun U hU hW => ⟨rfl, hU, hh_8.2.1, hG.step hW hU hh_8.1, hg_json_3, (hh_8.2.2.1.sub (L1 := [(json_3, 6, 7, .int values_12)]) [0] rfl), by first | omega | (refine ⟨?_, ?_⟩ <;> (first | omega | rfl | assumption | decide | exact Or.inl rfl | exact Or.inr rfl | (simp only; omega)))⟩⟩ rfl rfl hl.1 rfl (lv_room (Nat.le_of_ble_eq_true rfl)) dX11_placeTold_43 ⟨Nat.zero_le _, Nat.zero_le _⟩) hh_8.1 (fun q _ h => h) (fun q h => h) (fun r_15 u_14 t_14 H_14 locs_14 ht_14 hvm_14 hr_15 hb_14 hz_14 hk_14 hS_14 => ?_)
    rw [ht_14] at hb_14
    obtain ⟨hb_141, hb_142, hb_143, hb_144, hb_145⟩ := hb_14
    have hh_14 : jSt (dC, dI) B base G0 G0 EX11_placeToldE s.heap 0 0 [(json_3, 6, 7, .int values_12), (r0, 13, 2, .ref json_3)] [] [] H_14 locs_14 := ((hh_8.call hb_141 hb_142 hb_143 hb_144 hS_14 rfl (L1 := [(json_3, 6, 7, .int values_12), (r0, 13, 2, .ref json_3)]) [0, 1] rfl rfl (M1 := []) [] rfl rfl (I1 := []) [] rfl rfl).more hb_145)
    clear hh_8 ht_14 hvm_14 hz_14 hk_14 hS_14 hb_141 hb_142 hb_143 hb_144 hb_145
    refine lv_iconst (v := 4) hx hb dX11_placeTold_46 (by decide) ?_
    refine lv_icmp_eq (tgt := 52) hx hb dX11_placeTold_47 (by decide) (fun c_16 => ?_) (fun c_16 => ?_)
    · skip
      have c_16' : r_15.toInt = 4 := jb_eq (rfl) ((by decide)) c_16
      first | (have hr_15q := hr_15.resolve_left (by omega); clear hr_15) | (have hr_15q := hr_15.resolve_right (by omega); clear hr_15) | try clear hr_15
      refine lv_aload_n hx hb dX11_placeTold_52 rfl (lv_at hl 4 rfl) ?_
      refine lv_aload_n hx hb dX11_placeTold_53 rfl (lv_at hl 2 rfl) ?_
      refine j7_read hx hb hown hK (C := RX11) (T := TX11) (N := 19) rfl hly_13_2 hlk_28 (hh_14.at 1 rfl) dX11_placeTold_54 ?_
      refine lv_iload_n hx hb dX11_placeTold_57 rfl (lv_at hl 1 rfl) ?_
      refine va_calli (A0 := jA base) (H0 := s.heap) (va_runV (As := [.int r_5]) (rest := [.ref r2]) ⟨hx, hb, hml, hown, hts⟩ (uX4_valueOf l dC dI ca base B hB hAp hB6 hB141 G0 H_14 json_3 r_5) (cwV 1 hts (jgV (jWr_29 _ (List.mem_of_getElem? (i := 0) rfl)) (jWr_24 _ (List.mem_of_getElem? (i := 12) rfl)) (jWr_24 _ (List.mem_of_getElem? (i := 13) rfl)) (jWr_1 _ (List.mem_of_getElem? (i := 22) rfl)) (jWr_24 _ (List.mem_of_getElem? (i := 14) rfl))) rfl rfl rfl (by decide +kernel) ⟨by rw [← hR]; exact Nat.le_of_ble_eq_true rfl, by rw [← hR]; exact Nat.le_of_ble_eq_true rfl⟩) ⟨fun a U g mk q => by obtain ⟨q0, q1, q2, qK, q10, q11, q12⟩ := q; exact ⟨q0, q1, q2, jG.calling g mk a qK, q10, q11, q12⟩, hh_14.recv (C := RX4) (T := TX4) (N := 12) hB6 rfl (by decide) hg_json_3 hK, fun U hU hW => ⟨rfl, hU, hh_14.2.1, hG.step hW hU hh_14.1, hg_json_3, jP.nil, trivial⟩⟩ rfl rfl hl.1 rfl (lv_room (Nat.le_of_ble_eq_true rfl)) dX11_placeTold_58 ⟨Nat.zero_le _, Nat.zero_le _⟩) hh_14.1 (fun q _ h => h) (fun q h => h) (fun r_18 u_17 t_17 H_17 locs_17 ht_17 hvm_17 hr_18 hb_17 hz_17 hk_17 hS_17 => ?_)
      rw [ht_17] at hb_17
      obtain ⟨hb_171, hb_172, hb_173, hb_174, hb_175⟩ := hb_17
      have hh_17 : jSt (dC, dI) B base G0 G0 EX11_placeToldE s.heap 0 0 [(json_3, 6, 7, .int values_12), (r0, 13, 2, .ref json_3)] [] [] H_17 locs_17 := ((hh_14.call hb_171 hb_172 hb_173 hb_174 hS_17 rfl (L1 := [(json_3, 6, 7, .int values_12), (r0, 13, 2, .ref json_3)]) [0, 1] rfl rfl (M1 := []) [] rfl rfl (I1 := []) [] rfl rfl).more hb_175)
      clear hh_14 ht_17 hvm_17 hz_17 hk_17 hS_17 hb_171 hb_172 hb_173 hb_174 hb_175
      refine lv_aload_n hx hb dX11_placeTold_61 rfl (lv_at hl 2 rfl) ?_
      refine j7_read hx hb hown hK (C := RX11) (T := TX11) (N := 19) rfl hly_13_2 hlk_28 (hh_17.at 1 rfl) dX11_placeTold_62 ?_
      refine lv_iload hx hb dX11_placeTold_65 (lv_at hl 0 rfl) ?_
      refine va_calli (A0 := jA base) (H0 := s.heap) (va_runV (As := [.int r_7]) (rest := [.int r_18, .ref r2]) ⟨hx, hb, hml, hown, hts⟩ (uX4_valueOf l dC dI ca base B hB hAp hB6 hB141 G0 H_17 json_3 r_7) (cwV 1 hts (jgV (jWr_29 _ (List.mem_of_getElem? (i := 0) rfl)) (jWr_24 _ (List.mem_of_getElem? (i := 12) rfl)) (jWr_24 _ (List.mem_of_getElem? (i := 13) rfl)) (jWr_1 _ (List.mem_of_getElem? (i := 22) rfl)) (jWr_24 _ (List.mem_of_getElem? (i := 14) rfl))) rfl rfl rfl (by decide +kernel) ⟨by rw [← hR]; exact Nat.le_of_ble_eq_true rfl, by rw [← hR]; exact Nat.le_of_ble_eq_true rfl⟩) ⟨fun a U g mk q => by obtain ⟨q0, q1, q2, qK, q10, q11, q12⟩ := q; exact ⟨q0, q1, q2, jG.calling g mk a qK, q10, q11, q12⟩, hh_17.recv (C := RX4) (T := TX4) (N := 12) hB6 rfl (by decide) hg_json_3 hK, fun U hU hW => ⟨rfl, hU, hh_17.2.1, hG.step hW hU hh_17.1, hg_json_3, jP.nil, trivial⟩⟩ rfl rfl hl.1 rfl (lv_room (Nat.le_of_ble_eq_true rfl)) dX11_placeTold_67 ⟨Nat.zero_le _, Nat.zero_le _⟩) hh_17.1 (fun q _ h => h) (fun q h => h) (fun r_20 u_19 t_19 H_19 locs_19 ht_19 hvm_19 hr_20 hb_19 hz_19 hk_19 hS_19 => ?_)
      rw [ht_19] at hb_19
      obtain ⟨hb_191, hb_192, hb_193, hb_194, hb_195⟩ := hb_19
      have hh_19 : jSt (dC, dI) B base G0 G0 EX11_placeToldE s.heap 0 0 [(json_3, 6, 7, .int values_12), (r0, 13, 2, .ref json_3)] [] [] H_19 locs_19 := ((hh_17.call hb_191 hb_192 hb_193 hb_194 hS_19 rfl (L1 := [(json_3, 6, 7, .int values_12), (r0, 13, 2, .ref json_3)]) [0, 1] rfl rfl (M1 := []) [] rfl rfl (I1 := []) [] rfl rfl).more hb_195)
      clear hh_17 ht_19 hvm_19 hz_19 hk_19 hS_19 hb_191 hb_192 hb_193 hb_194 hb_195
      refine va_calli (A0 := jA base) (H0 := s.heap) (va_runV (As := [.int r_18, .int r_20]) (rest := []) ⟨hx, hb, hml, hown, hts⟩ (uX1_placeOf l dC dI ca base B hB hAp hB3 hB101 G0 H_19 r2 r_18 r_20 n2) (cwV 2 hts (jgV (jWr_29 _ (List.mem_of_getElem? (i := 1) rfl)) (jWr_29 _ (List.mem_of_getElem? (i := 2) rfl)) (jWr_29 _ (List.mem_of_getElem? (i := 3) rfl)) (jWr_2 _ (List.mem_of_getElem? (i := 21) rfl)) (jWr_29 _ (List.mem_of_getElem? (i := 4) rfl))) rfl rfl rfl (by decide +kernel) ⟨by rw [← hR]; exact Nat.le_of_ble_eq_true rfl, by rw [← hR]; exact Nat.le_of_ble_eq_true rfl⟩) ⟨fun a U g mk q => by obtain ⟨q0, q1, q2, qK, q10, q11, q12⟩ := q; exact ⟨q0, q1, q2, jG.calling g mk a qK, q10, q11, q12⟩, hh_19.recv (C := RX1) (T := TX1) (N := 17) hB3 rfl (by decide) hg_r2 hK, fun U hU hW => ⟨rfl, hU, hh_19.2.1, hG.step hW hU hh_19.1, hg_r2, jP.nil, trivial⟩⟩ rfl rfl hl.1 rfl (lv_room (Nat.le_of_ble_eq_true rfl)) dX11_placeTold_70 ⟨Nat.zero_le _, Nat.zero_le _⟩) hh_19.1 (fun q _ h => h) (fun q h => h) (fun r_22 u_21 t_21 H_21 locs_21 ht_21 hvm_21 hr_22 hb_21 hz_21 hk_21 hS_21 => ?_)
      rw [ht_21] at hb_21
      obtain ⟨hb_211, hb_212, hb_213, hb_214, hb_215⟩ := hb_21
      have hh_21 : jSt (dC, dI) B base G0 G0 EX11_placeToldE s.heap 0 0 [(json_3, 6, 7, .int values_12), (r0, 13, 2, .ref json_3)] [] [] H_21 locs_21 := ((hh_19.call hb_211 hb_212 hb_213 hb_214 hS_21 rfl (L1 := [(json_3, 6, 7, .int values_12), (r0, 13, 2, .ref json_3)]) [0, 1] rfl rfl (M1 := []) [] rfl rfl (I1 := []) [] rfl rfl).more hb_215)
      clear hh_19 ht_21 hvm_21 hz_21 hk_21 hS_21 hb_211 hb_212 hb_213 hb_214 hb_215
      obtain ⟨hr_22_0, hr_22_1⟩ := hr_22
      rw [hQ]
      exact W.iret (v := r_22) hx hb hr (fun t ht hW => ⟨⟨r_22, (), rfl, by first | omega | (refine ⟨?_, ?_⟩ <;> (first | omega | rfl | assumption | decide | exact Or.inl rfl | exact Or.inr rfl | (simp only; omega))), hh_21.rt (M1 := []) [] rfl ht⟩, by rw [ht]; try exact hh_21.1.1, fun q h9 hq => by rw [ht]; try exact hh_21.1.2.1 q h9 hq⟩) hh_21.1.2.2 dX11_placeTold_73
    · skip
      have c_16' : r_15.toInt ≠ 4 := jb_eq_n (rfl) ((by decide)) c_16
      try clear hr_15
      refine lv_iconst (v := (-1)) hx hb dX11_placeTold_50 (by decide) ?_
      rw [hQ]
      exact W.iret (v := (-1)) hx hb hr (fun t ht hW => ⟨⟨(-1), (), rfl, by first | omega | (refine ⟨?_, ?_⟩ <;> (first | omega | rfl | assumption | decide | exact Or.inl rfl | exact Or.inr rfl | (simp only; omega))), hh_14.rt (M1 := []) [] rfl ht⟩, by rw [ht]; try exact hh_14.1.1, fun q h9 hq => by rw [ht]; try exact hh_14.1.2.1 q h9 hq⟩) hh_14.1.2.2 dX11_placeTold_51
set_option maxHeartbeats 4000000 in
set_option maxRecDepth 20000 in
theorem uX11_makeChange (l : Launch) (dC : Nat → ClassId) (dI : Nat → Nat → Nat) (ca : Nat → ClassId) (base : Nat) (B : jF) (hB : jBok B) (hAp : jAp (dC, dI)) (hB3 : ∀ n G a H, B 3 n G a H ↔ jOb (dC, dI) 3 17 (F3 n G) a H) (hB6 : ∀ n G a H, B 6 n G a H ↔ jOb (dC, dI) 6 12 (F6 n G) a H) (hB13 : ∀ n G a H, B 13 n G a H ↔ jOb (dC, dI) 13 19 (F13 n G) a H) (hB101 : ∀ n G a H, B 101 n G a H ↔ jAr (dC, dI) (ca 1) (fun j z => True) n a H) (hB140 : ∀ n G a H, B 140 n G a H ↔ jAr (dC, dI) (ca 1) (fun j z => True) n a H) (hB141 : ∀ n G a H, B 141 n G a H ↔ jAr (dC, dI) (ca 1) (fun j z => True) n a H) (hB142 : ∀ n G a H, B 142 n G a H ↔ jAr (dC, dI) (ca 1) (fun j z => True) n a H) (hB143 : ∀ n G a H, B 143 n G a H ↔ jAr (dC, dI) (ca 1) (fun j z => True) n a H) (hB144 : ∀ n G a H, B 144 n G a H ↔ jAr (dC, dI) (ca 1) (fun j z => 0 ≤ z.toInt ∧ z.toInt ≤ 3000) n a H) (hB145 : ∀ n G a H, B 145 n G a H ↔ jAr (dC, dI) (ca 1) (fun j z => True) n a H) (hB146 : ∀ n G a H, B 146 n G a H ↔ jAr (dC, dI) (ca 1) (fun j z => True) n a H) (G0 : jT) (H0 : Heap) (r0 : Nat) (a1 : Int32) (js : Nat) (pv : Int32) (pu : Int32) (wk : Nat) (wi : Nat) (wz : Nat) (jks : Nat) (fk : Nat → Int32) (fi : Nat → Int32) (fz : Nat → Int32) (fs : Nat → Int32) : Met l yX11_makeChange (jw yX11_makeChange cX11_makeChange 6 (some .boolean)) ({ frames := 7, cells := 0, slots := 0, locals := 214 }) (va_Pc [.ref r0, .int a1] (fun U => U.heap = H0 ∧ jX B base G0 [] H0 ∧ jG dC dI ca base U ∧ G0 r0 = some (13, 0) ∧ G0 js = some (6, 0) ∧ G0 wk = some (140, 1502) ∧ G0 wi = some (141, 1502) ∧ G0 wz = some (142, 1502) ∧ G0 jks = some (145, 1502) ∧ jP (dC, dI) G0 H0 [(r0, 13, 2, .ref js), (js, 6, 7, .int pv), (js, 6, 8, .int pu), (js, 6, 0, .ref wk), (js, 6, 1, .ref wi), (js, 6, 2, .ref wz), (js, 6, 5, .ref jks)] ∧ jMc (dC, dI) G0 H0 [(wk, 140, 1502, ca 1, fk), (wi, 141, 1502, ca 1, fi), (wz, 142, 1502, ca 1, fz), (jks, 145, 1502, ca 1, fs)] ∧ 0 ≤ pv.toInt ∧ pv.toInt ≤ 1502 ∧ 0 ≤ pu.toInt ∧ pu.toInt ≤ 3000 ∧ jJq fk fi fz pv.toInt ∧ jJu fk fz pv.toInt pu.toInt)) (va_Qi (S := Unit) (fun r u => (r = 0 ∨ r = 1) ∧ (r.toInt = 0 ∨ (∃ t : Int, 0 ≤ t ∧ t < pv.toInt ∧ jSo fs t = 4 ∧ jSo fk t = 3))) (fun u t => jRt (dC, dI) B base G0 EX11_makeChange H0 [] t.heap) (jA base)) 0 0 (jA base) := by
  refine Met.ofW (cc := cX11_makeChange) (maxL := 6) (ret := (some .boolean)) (by decide) rfl ?_
  intro p e s m args below meth c s₁ Bd hml hv
  obtain ⟨rfl, hH0, hX, hG, hg_r0, hg_js, hg_wk, hg_wi, hg_wz, hg_jks, hP0, hM0, hp0, hp1, hp2, hp3, hp4, hp5⟩ := hv
  have hK := hG.1
  have hx := Bd.exec
  have hb := Bd.bytes
  have hr := Bd.returns
  have hts := atoms_spec (ws := (jw yX11_makeChange cX11_makeChange 6 (some .boolean))) Bd.pre
  have htw : ∀ w ∈ jWl, w.before _ s = true := fun w h => hts w (List.mem_cons_of_mem _ h)
  have hown : s.vm.findClass RX11 = some m.cls := findClass_of_methodNamed Bd.named
  have hlocks := Bd.notSynchronized
  obtain ⟨Q, hQ⟩ : ∃ Q, Q = MQ below (va_Qi (S := Unit) (fun r u => (r = 0 ∨ r = 1) ∧ (r.toInt = 0 ∨ (∃ t : Int, 0 ≤ t ∧ t < pv.toInt ∧ jSo fs t = 4 ∧ jSo fk t = 3))) (fun u t => jRt (dC, dI) B base G0 EX11_makeChange H0 [] t.heap) (jA base)) ([.ref r0, .int a1] : List Value).toArray s 0 0 (jA base) := ⟨_, rfl⟩
  rw [← hQ]
  have hl := lv_entry ([.ref r0, .int a1]) (n := 6) (Nat.le_of_ble_eq_true rfl)
  rw [lg_entry_eq]
  generalize (lg_sl ([.ref r0, .int a1]) ++ List.replicate (6 - (lg_sl ([.ref r0, .int a1])).length) Slot.unset).toArray = ls at hl ⊢
  have hl : lv_has ls 6 [(0, .ref r0), (1, .int a1)] := hl
  generalize hR : (headSpec (jw yX11_makeChange cX11_makeChange 6 (some .boolean)) ({ frames := 7, cells := 0, slots := 0, locals := 214 })).room = R
  subst hH0
  have hh : jSt (dC, dI) B base G0 G0 EX11_makeChange s.heap 0 0 [(r0, 13, 2, .ref js), (js, 6, 7, .int pv), (js, 6, 8, .int pu), (js, 6, 0, .ref wk), (js, 6, 1, .ref wi), (js, 6, 2, .ref wz), (js, 6, 5, .ref jks)] [(wk, 140, 1502, ca 1, fk), (wi, 141, 1502, ca 1, fi), (wz, 142, 1502, ca 1, fz), (jks, 145, 1502, ca 1, fs)] [] s.heap [] := jSt.start hX hP0 hM0 jIs.nil
  clear hX hP0
  have hk0 : (0 : Int32).toInt = 0 := by decide
  have hk1 : (1 : Int32).toInt = 1 := by decide
  have hk3 : (3 : Int32).toInt = 3 := by decide
  have hly_3_3 := htw (u_lay RX1 TX1 3) (jWc_wsX10 _ (u_in_lay (by decide)))
  have hly_13_2 := htw (u_lay RX11 TX11 2) (jWc_wsX110 _ (u_in_lay (by decide)))
  have hly_13_15 := htw (u_lay RX11 TX11 15) (jWc_wsX110 _ (u_in_lay (by decide)))
  have hlk_28 := (htw (.fieldLink RX11 28 "ProofServer" "json" "LProofServer$Json;") (jWr_1 _ (List.mem_of_getElem? (i := 23) rfl)))
  obtain ⟨str355, rstr355, hstr3550⟩ := hG.str (o := RX11) (k := 355) (tx := "text") (List.mem_of_getElem? (i := 1102) (by decide +kernel))
  have hstr355 : jStr base str355 4 s s.heap := hstr3550
  obtain ⟨str406, rstr406, hstr4060⟩ := hG.str (o := RX11) (k := 406) (tx := "range") (List.mem_of_getElem? (i := 1269) (by decide +kernel))
  have hstr406 : jStr base str406 5 s s.heap := hstr4060
  have hlk_82 := (htw (.fieldLink RX11 82 "ProofServer" "spare" "LProofServer$Document;") (jWr_2 _ (List.mem_of_getElem? (i := 22) rfl)))
  have hlk_165 := (htw (.fieldLink RX11 165 "ProofServer$Document" "length" "I") (jWr_41 _ (List.mem_of_getElem? (i := 20) rfl)))
  obtain ⟨str408, rstr408, hstr4080⟩ := hG.str (o := RX11) (k := 408) (tx := "start") (List.mem_of_getElem? (i := 1270) (by decide +kernel))
  have hstr408 : jStr base str408 5 s s.heap := hstr4080
  obtain ⟨str413, rstr413, hstr4130⟩ := hG.str (o := RX11) (k := 413) (tx := "end") (List.mem_of_getElem? (i := 1271) (by decide +kernel))
  have hstr413 : jStr base str413 3 s s.heap := hstr4130
  have hrg_a1 := jb_rng a1
  refine lv_aload_n hx hb dX11_makeChange_0 rfl (lv_at hl 0 rfl) ?_
  refine j7_read hx hb hown hK (C := RX11) (T := TX11) (N := 19) rfl hly_13_2 hlk_28 (hh.at 0 rfl) dX11_makeChange_1 ?_
  refine lv_iload_n hx hb dX11_makeChange_4 rfl (lv_at hl 1 rfl) ?_
  refine j_ldcSw hx hb hown rstr355 dX11_makeChange_5 ?_
  refine va_calli (A0 := jA base) (H0 := s.heap) (va_runV (As := [.int a1, .ref str355]) (rest := []) ⟨hx, hb, hml, hown, hts⟩ (uX4_memberQ l dC dI ca base B hB hAp hB6 hB140 hB141 hB142 hB143 hB144 hB145 hB146 G0 s.heap js a1 str355 4 pv wk wi wz jks fk fi fz fs) (cwV 2 hts (jgV (jWr_23 _ (List.mem_of_getElem? (i := 10) rfl)) (jWr_23 _ (List.mem_of_getElem? (i := 11) rfl)) (jWr_23 _ (List.mem_of_getElem? (i := 12) rfl)) (jWr_1 _ (List.mem_of_getElem? (i := 22) rfl)) (jWr_23 _ (List.mem_of_getElem? (i := 13) rfl))) rfl rfl rfl (by decide +kernel) ⟨by rw [← hR]; exact Nat.le_of_ble_eq_true rfl, by rw [← hR]; exact Nat.le_of_ble_eq_true rfl⟩) ⟨fun a U g mk q => by obtain ⟨q0, q1, q2, qK, q10, q11, q12, q13, q14, q15, q16, q17, q18⟩ := q; exact ⟨q0, q1, q2, jG.calling g mk a qK, (q10.moved (Vm.Alike.refl U.vm)), q11, q12, q13, q14, q15, q16, q17, q18⟩, hh.recv (C := RX4) (T := TX4) (N := 12) hB6 rfl (by decide) hg_js hK, fun U hU hW => ⟨rfl, hU, hh.2.1, hG.step hW hU hh.1, (hstr355.moved hW.alike).kept hh.1.2.1, hg_js, hg_wk, hg_wi, hg_wz, hg_jks, (hh.2.2.1.sub (L1 := [(js, 6, 7, .int pv), (js, 6, 0, .ref wk), (js, 6, 1, .ref wi), (js, 6, 2, .ref wz), (js, 6, 5, .ref jks)]) [1, 3, 4, 5, 6] rfl), (hh.2.2.2.2.2.2.2.1.sub (L1 := [(wk, 140, 1502, ca 1, fk), (wi, 141, 1502, ca 1, fi), (wz, 142, 1502, ca 1, fz), (jks, 145, 1502, ca 1, fs)]) [0, 1, 2, 3] rfl), by first | omega | (refine ⟨?_, ?_, ?_⟩ <;> (first | omega | rfl | assumption | decide | exact Or.inl rfl | exact Or.inr rfl | (simp only; omega)))⟩⟩ rfl rfl hl.1 rfl (lv_room (Nat.le_of_ble_eq_true rfl)) dX11_makeChange_8 ⟨Nat.zero_le _, Nat.zero_le _⟩) hh.1 (fun q _ h => h) (fun q h => h) (fun r_2 u_1 t_1 H_1 locs_1 ht_1 hvm_1 hr_2 hb_1 hz_1 hk_1 hS_1 => ?_)
  rw [ht_1] at hb_1
  obtain ⟨hb_1, hbF_1⟩ := hb_1
  obtain ⟨hb_11, hb_12, hb_13, hb_14, hb_15⟩ := hb_1
  have hh_1 : jSt (dC, dI) B base G0 G0 EX11_makeChange s.heap 0 0 [(r0, 13, 2, .ref js), (js, 6, 7, .int pv), (js, 6, 8, .int pu), (js, 6, 0, .ref wk), (js, 6, 1, .ref wi), (js, 6, 2, .ref wz), (js, 6, 5, .ref jks)] [(wk, 140, 1502, ca 1, fk), (wi, 141, 1502, ca 1, fi), (wz, 142, 1502, ca 1, fz), (jks, 145, 1502, ca 1, fs)] [] H_1 locs_1 := ((hh.call hb_11 hb_12 hb_13 hb_14 hS_1 rfl (L1 := [(r0, 13, 2, .ref js), (js, 6, 7, .int pv), (js, 6, 8, .int pu), (js, 6, 0, .ref wk), (js, 6, 1, .ref wi), (js, 6, 2, .ref wz), (js, 6, 5, .ref jks)]) [0, 1, 2, 3, 4, 5, 6] rfl rfl (M1 := [(wk, 140, 1502, ca 1, fk), (wi, 141, 1502, ca 1, fi), (wz, 142, 1502, ca 1, fz), (jks, 145, 1502, ca 1, fs)]) [0, 1, 2, 3] rfl rfl (I1 := []) [] rfl rfl).more hb_15)
  clear hh ht_1 hvm_1 hz_1 hk_1 hS_1 hb_11 hb_12 hb_13 hb_14 hb_15
  obtain ⟨hr_2_0, hr_2_1, hr_2_2⟩ := hr_2
  refine lv_istore_n (lv' := [(2, .int r_2), (0, .ref r0), (1, .int a1)]) hx hb dX11_makeChange_11 rfl hl (by decide) rfl (fun ls hl => ?_)
  refine lv_aload_n hx hb dX11_makeChange_12 rfl (lv_at hl 1 rfl) ?_
  refine j7_read hx hb hown hK (C := RX11) (T := TX11) (N := 19) rfl hly_13_2 hlk_28 (hh_1.at 0 rfl) dX11_makeChange_13 ?_
  refine lv_iload_n hx hb dX11_makeChange_16 rfl (lv_at hl 2 rfl) ?_
  refine j_ldcSw hx hb hown rstr406 dX11_makeChange_17 ?_
  refine va_calli (A0 := jA base) (H0 := s.heap) (va_runV (As := [.int a1, .ref str406]) (rest := []) ⟨hx, hb, hml, hown, hts⟩ (uX4_memberQ l dC dI ca base B hB hAp hB6 hB140 hB141 hB142 hB143 hB144 hB145 hB146 G0 H_1 js a1 str406 5 pv wk wi wz jks fk fi fz fs) (cwV 2 hts (jgV (jWr_23 _ (List.mem_of_getElem? (i := 10) rfl)) (jWr_23 _ (List.mem_of_getElem? (i := 11) rfl)) (jWr_23 _ (List.mem_of_getElem? (i := 12) rfl)) (jWr_1 _ (List.mem_of_getElem? (i := 22) rfl)) (jWr_23 _ (List.mem_of_getElem? (i := 13) rfl))) rfl rfl rfl (by decide +kernel) ⟨by rw [← hR]; exact Nat.le_of_ble_eq_true rfl, by rw [← hR]; exact Nat.le_of_ble_eq_true rfl⟩) ⟨fun a U g mk q => by obtain ⟨q0, q1, q2, qK, q10, q11, q12, q13, q14, q15, q16, q17, q18⟩ := q; exact ⟨q0, q1, q2, jG.calling g mk a qK, (q10.moved (Vm.Alike.refl U.vm)), q11, q12, q13, q14, q15, q16, q17, q18⟩, hh_1.recv (C := RX4) (T := TX4) (N := 12) hB6 rfl (by decide) hg_js hK, fun U hU hW => ⟨rfl, hU, hh_1.2.1, hG.step hW hU hh_1.1, (hstr406.moved hW.alike).kept hh_1.1.2.1, hg_js, hg_wk, hg_wi, hg_wz, hg_jks, (hh_1.2.2.1.sub (L1 := [(js, 6, 7, .int pv), (js, 6, 0, .ref wk), (js, 6, 1, .ref wi), (js, 6, 2, .ref wz), (js, 6, 5, .ref jks)]) [1, 3, 4, 5, 6] rfl), (hh_1.2.2.2.2.2.2.2.1.sub (L1 := [(wk, 140, 1502, ca 1, fk), (wi, 141, 1502, ca 1, fi), (wz, 142, 1502, ca 1, fz), (jks, 145, 1502, ca 1, fs)]) [0, 1, 2, 3] rfl), by first | omega | (refine ⟨?_, ?_, ?_⟩ <;> (first | omega | rfl | assumption | decide | exact Or.inl rfl | exact Or.inr rfl | (simp only; omega)))⟩⟩ rfl rfl hl.1 rfl (lv_room (Nat.le_of_ble_eq_true rfl)) dX11_makeChange_20 ⟨Nat.zero_le _, Nat.zero_le _⟩) hh_1.1 (fun q _ h => h) (fun q h => h) (fun r_4 u_3 t_3 H_3 locs_3 ht_3 hvm_3 hr_4 hb_3 hz_3 hk_3 hS_3 => ?_)
  rw [ht_3] at hb_3
  obtain ⟨hb_3, hbF_3⟩ := hb_3
  obtain ⟨hb_31, hb_32, hb_33, hb_34, hb_35⟩ := hb_3
  have hh_3 : jSt (dC, dI) B base G0 G0 EX11_makeChange s.heap 0 0 [(r0, 13, 2, .ref js), (js, 6, 7, .int pv), (js, 6, 8, .int pu), (js, 6, 0, .ref wk), (js, 6, 1, .ref wi), (js, 6, 2, .ref wz), (js, 6, 5, .ref jks)] [(wk, 140, 1502, ca 1, fk), (wi, 141, 1502, ca 1, fi), (wz, 142, 1502, ca 1, fz), (jks, 145, 1502, ca 1, fs)] [] H_3 locs_3 := ((hh_1.call hb_31 hb_32 hb_33 hb_34 hS_3 rfl (L1 := [(r0, 13, 2, .ref js), (js, 6, 7, .int pv), (js, 6, 8, .int pu), (js, 6, 0, .ref wk), (js, 6, 1, .ref wi), (js, 6, 2, .ref wz), (js, 6, 5, .ref jks)]) [0, 1, 2, 3, 4, 5, 6] rfl rfl (M1 := [(wk, 140, 1502, ca 1, fk), (wi, 141, 1502, ca 1, fi), (wz, 142, 1502, ca 1, fz), (jks, 145, 1502, ca 1, fs)]) [0, 1, 2, 3] rfl rfl (I1 := []) [] rfl rfl).more hb_35)
  clear hh_1 ht_3 hvm_3 hz_3 hk_3 hS_3 hb_31 hb_32 hb_33 hb_34 hb_35
  obtain ⟨hr_4_0, hr_4_1, hr_4_2⟩ := hr_4
  refine lv_istore_n (lv' := [(3, .int r_4), (2, .int r_2), (0, .ref r0), (1, .int a1)]) hx hb dX11_makeChange_23 rfl hl (by decide) rfl (fun ls hl => ?_)
  refine lv_aload_n hx hb dX11_makeChange_24 rfl (lv_at hl 2 rfl) ?_
  refine j7_read hx hb hown hK (C := RX11) (T := TX11) (N := 19) rfl hly_13_2 hlk_28 (hh_3.at 0 rfl) dX11_makeChange_25 ?_
  refine lv_iload_n hx hb dX11_makeChange_28 rfl (lv_at hl 1 rfl) ?_
  refine va_calli (A0 := jA base) (H0 := s.heap) (va_runV (As := [.int r_2]) (rest := []) ⟨hx, hb, hml, hown, hts⟩ (uX4_kindOfW l dC dI ca base B hB hAp hB6 hB140 G0 H_3 js r_2 pv wk wi wz fk fi fz) (cwV 1 hts (jgV (jWr_27 _ (List.mem_of_getElem? (i := 5) rfl)) (jWr_23 _ (List.mem_of_getElem? (i := 15) rfl)) (jWr_23 _ (List.mem_of_getElem? (i := 16) rfl)) (jWr_1 _ (List.mem_of_getElem? (i := 22) rfl)) (jWr_23 _ (List.mem_of_getElem? (i := 17) rfl))) rfl rfl rfl (by decide +kernel) ⟨by rw [← hR]; exact Nat.le_of_ble_eq_true rfl, by rw [← hR]; exact Nat.le_of_ble_eq_true rfl⟩) ⟨fun a U g mk q => by obtain ⟨q0, q1, q2, qK, q10, q11, q12, q13, q14, q15, q16⟩ := q; exact ⟨q0, q1, q2, jG.calling g mk a qK, q10, q11, q12, q13, q14, q15, q16⟩, hh_3.recv (C := RX4) (T := TX4) (N := 12) hB6 rfl (by decide) hg_js hK, fun U hU hW => ⟨rfl, hU, hh_3.2.1, hG.step hW hU hh_3.1, hg_js, hg_wk, hg_wi, hg_wz, (hh_3.2.2.1.sub (L1 := [(js, 6, 7, .int pv), (js, 6, 0, .ref wk), (js, 6, 1, .ref wi), (js, 6, 2, .ref wz)]) [1, 3, 4, 5] rfl), (hh_3.2.2.2.2.2.2.2.1.sub (L1 := [(wk, 140, 1502, ca 1, fk), (wi, 141, 1502, ca 1, fi), (wz, 142, 1502, ca 1, fz)]) [0, 1, 2] rfl), by first | omega | (refine ⟨?_, ?_⟩ <;> (first | omega | rfl | assumption | decide | exact Or.inl rfl | exact Or.inr rfl | (simp only; omega)))⟩⟩ rfl rfl hl.1 rfl (lv_room (Nat.le_of_ble_eq_true rfl)) dX11_makeChange_29 ⟨Nat.zero_le _, Nat.zero_le _⟩) hh_3.1 (fun q _ h => h) (fun q h => h) (fun r_6 u_5 t_5 H_5 locs_5 ht_5 hvm_5 hr_6 hb_5 hz_5 hk_5 hS_5 => ?_)
  rw [ht_5] at hb_5
  obtain ⟨hb_5, hbF_5⟩ := hb_5
  obtain ⟨hb_51, hb_52, hb_53, hb_54, hb_55⟩ := hb_5
  have hh_5 : jSt (dC, dI) B base G0 G0 EX11_makeChange s.heap 0 0 [(r0, 13, 2, .ref js), (js, 6, 7, .int pv), (js, 6, 8, .int pu), (js, 6, 0, .ref wk), (js, 6, 1, .ref wi), (js, 6, 2, .ref wz), (js, 6, 5, .ref jks)] [(wk, 140, 1502, ca 1, fk), (wi, 141, 1502, ca 1, fi), (wz, 142, 1502, ca 1, fz), (jks, 145, 1502, ca 1, fs)] [] H_5 locs_5 := ((hh_3.call hb_51 hb_52 hb_53 hb_54 hS_5 rfl (L1 := [(r0, 13, 2, .ref js), (js, 6, 7, .int pv), (js, 6, 8, .int pu), (js, 6, 0, .ref wk), (js, 6, 1, .ref wi), (js, 6, 2, .ref wz), (js, 6, 5, .ref jks)]) [0, 1, 2, 3, 4, 5, 6] rfl rfl (M1 := [(wk, 140, 1502, ca 1, fk), (wi, 141, 1502, ca 1, fi), (wz, 142, 1502, ca 1, fz), (jks, 145, 1502, ca 1, fs)]) [0, 1, 2, 3] rfl rfl (I1 := []) [] rfl rfl).more hb_55)
  clear hh_3 ht_5 hvm_5 hz_5 hk_5 hS_5 hb_51 hb_52 hb_53 hb_54 hb_55
  refine lv_iconst (v := 3) hx hb dX11_makeChange_32 (by decide) ?_
  refine lv_icmp_eq (tgt := 38) hx hb dX11_makeChange_33 (by decide) (fun c_7 => ?_) (fun c_7 => ?_)
  · skip
    have c_7' : r_6.toInt = 3 := jb_eq (rfl) ((by decide)) c_7
    first | (have hr_2_2q := hr_2_2.resolve_left (by omega); clear hr_2_2) | (have hr_2_2q := hr_2_2.resolve_right (by omega); clear hr_2_2) | skip
    first | (have hr_6q := hr_6.resolve_left (by omega); clear hr_6) | (have hr_6q := hr_6.resolve_right (by omega); clear hr_6) | try clear hr_6
    refine lv_iload_n hx hb dX11_makeChange_38 rfl (lv_at hl 0 rfl) ?_
    refine lv_if_ge (tgt := 63) hx hb dX11_makeChange_39 (by decide) (fun c_8 => ?_) (fun c_8 => ?_)
    · skip
      have c_8' : r_4.toInt ≥ 0 := jb_ge (rfl) ((by decide)) c_8
      first | (have hr_2_2q := hr_2_2.resolve_left (by omega); clear hr_2_2) | (have hr_2_2q := hr_2_2.resolve_right (by omega); clear hr_2_2) | skip
      first | (have hr_4_2q := hr_4_2.resolve_left (by omega); clear hr_4_2) | (have hr_4_2q := hr_4_2.resolve_right (by omega); clear hr_4_2) | skip
      refine lv_aload_n hx hb dX11_makeChange_63 rfl (lv_at hl 2 rfl) ?_
      refine lv_aload_n hx hb dX11_makeChange_64 rfl (lv_at hl 2 rfl) ?_
      refine j7_read hx hb hown hK (C := RX11) (T := TX11) (N := 19) rfl hly_13_2 hlk_28 (hh_5.at 0 rfl) dX11_makeChange_65 ?_
      refine lv_iload_n hx hb dX11_makeChange_68 rfl (lv_at hl 0 rfl) ?_
      refine j_ldcSw hx hb hown rstr408 dX11_makeChange_69 ?_
      refine va_calli (A0 := jA base) (H0 := s.heap) (va_runV (As := [.int r_4, .ref str408]) (rest := [.ref r0]) ⟨hx, hb, hml, hown, hts⟩ (uX4_memberQ l dC dI ca base B hB hAp hB6 hB140 hB141 hB142 hB143 hB144 hB145 hB146 G0 H_5 js r_4 str408 5 pv wk wi wz jks fk fi fz fs) (cwV 2 hts (jgV (jWr_23 _ (List.mem_of_getElem? (i := 10) rfl)) (jWr_23 _ (List.mem_of_getElem? (i := 11) rfl)) (jWr_23 _ (List.mem_of_getElem? (i := 12) rfl)) (jWr_1 _ (List.mem_of_getElem? (i := 22) rfl)) (jWr_23 _ (List.mem_of_getElem? (i := 13) rfl))) rfl rfl rfl (by decide +kernel) ⟨by rw [← hR]; exact Nat.le_of_ble_eq_true rfl, by rw [← hR]; exact Nat.le_of_ble_eq_true rfl⟩) ⟨fun a U g mk q => by obtain ⟨q0, q1, q2, qK, q10, q11, q12, q13, q14, q15, q16, q17, q18⟩ := q; exact ⟨q0, q1, q2, jG.calling g mk a qK, (q10.moved (Vm.Alike.refl U.vm)), q11, q12, q13, q14, q15, q16, q17, q18⟩, hh_5.recv (C := RX4) (T := TX4) (N := 12) hB6 rfl (by decide) hg_js hK, fun U hU hW => ⟨rfl, hU, hh_5.2.1, hG.step hW hU hh_5.1, (hstr408.moved hW.alike).kept hh_5.1.2.1, hg_js, hg_wk, hg_wi, hg_wz, hg_jks, (hh_5.2.2.1.sub (L1 := [(js, 6, 7, .int pv), (js, 6, 0, .ref wk), (js, 6, 1, .ref wi), (js, 6, 2, .ref wz), (js, 6, 5, .ref jks)]) [1, 3, 4, 5, 6] rfl), (hh_5.2.2.2.2.2.2.2.1.sub (L1 := [(wk, 140, 1502, ca 1, fk), (wi, 141, 1502, ca 1, fi), (wz, 142, 1502, ca 1, fz), (jks, 145, 1502, ca 1, fs)]) [0, 1, 2, 3] rfl), by first | omega | (refine ⟨?_, ?_, ?_⟩ <;> (first | omega | rfl | assumption | decide | exact Or.inl rfl | exact Or.inr rfl | (simp only; omega)))⟩⟩ rfl rfl hl.1 rfl (lv_room (Nat.le_of_ble_eq_true rfl)) dX11_makeChange_72 ⟨Nat.zero_le _, Nat.zero_le _⟩) hh_5.1 (fun q _ h => h) (fun q h => h) (fun r_10 u_9 t_9 H_9 locs_9 ht_9 hvm_9 hr_10 hb_9 hz_9 hk_9 hS_9 => ?_)
      rw [ht_9] at hb_9
      obtain ⟨hb_9, hbF_9⟩ := hb_9
      obtain ⟨hb_91, hb_92, hb_93, hb_94, hb_95⟩ := hb_9
      have hh_9 : jSt (dC, dI) B base G0 G0 EX11_makeChange s.heap 0 0 [(r0, 13, 2, .ref js), (js, 6, 7, .int pv), (js, 6, 8, .int pu), (js, 6, 0, .ref wk), (js, 6, 1, .ref wi), (js, 6, 2, .ref wz), (js, 6, 5, .ref jks)] [(wk, 140, 1502, ca 1, fk), (wi, 141, 1502, ca 1, fi), (wz, 142, 1502, ca 1, fz), (jks, 145, 1502, ca 1, fs)] [] H_9 locs_9 := ((hh_5.call hb_91 hb_92 hb_93 hb_94 hS_9 rfl (L1 := [(r0, 13, 2, .ref js), (js, 6, 7, .int pv), (js, 6, 8, .int pu), (js, 6, 0, .ref wk), (js, 6, 1, .ref wi), (js, 6, 2, .ref wz), (js, 6, 5, .ref jks)]) [0, 1, 2, 3, 4, 5, 6] rfl rfl (M1 := [(wk, 140, 1502, ca 1, fk), (wi, 141, 1502, ca 1, fi), (wz, 142, 1502, ca 1, fz), (jks, 145, 1502, ca 1, fs)]) [0, 1, 2, 3] rfl rfl (I1 := []) [] rfl rfl).more hb_95)
      clear hh_5 ht_9 hvm_9 hz_9 hk_9 hS_9 hb_91 hb_92 hb_93 hb_94 hb_95
      obtain ⟨hr_10_0, hr_10_1, hr_10_2⟩ := hr_10
      refine lv_aload_n hx hb dX11_makeChange_75 rfl (lv_at hl 2 rfl) ?_
      obtain ⟨v_11, hv_11, hh_12⟩ := hh_9.pin (C := RX11) (T := TX11) (N := 19) hB13 rfl (by decide) hg_r0 (i := 15) (by decide) rfl
      clear hh_9
      obtain ⟨spare_13, rfl, hg_spare_13⟩ := hv_11
      refine j7_read hx hb hown hK (C := RX11) (T := TX11) (N := 19) rfl hly_13_15 hlk_82 (hh_12.at 0 rfl) dX11_makeChange_76 ?_
      refine va_calli (A0 := jA base) (H0 := s.heap) (va_runV (As := [.int r_10, .ref spare_13]) (rest := []) ⟨hx, hb, hml, hown, hts⟩ (uX11_placeToldE l dC dI ca base B hB hAp hB3 hB6 hB13 hB101 hB140 hB141 hB142 hB143 hB144 hB145 hB146 G0 H_9 r0 r_10 spare_13 1) (cwV 2 hts (jgV (jWr_28 _ (List.mem_of_getElem? (i := 20) rfl)) (jWr_28 _ (List.mem_of_getElem? (i := 21) rfl)) (jWr_28 _ (List.mem_of_getElem? (i := 22) rfl)) (jWr_1 _ (List.mem_of_getElem? (i := 2) rfl)) (jWr_28 _ (List.mem_of_getElem? (i := 23) rfl))) rfl rfl rfl (by decide +kernel) ⟨by rw [← hR]; exact Nat.le_of_ble_eq_true rfl, by rw [← hR]; exact Nat.le_of_ble_eq_true rfl⟩) ⟨fun a U g mk q => by obtain ⟨q0, q1, q2, qK, q10, q11, q12, q13⟩ := q; exact ⟨q0, q1, q2, jG.calling g mk a qK, q10, q11, q12, q13⟩, hh_12.recv (C := RX11) (T := TX11) (N := 19) hB13 rfl (by decide) hg_r0 hK, fun U hU hW => ⟨rfl, hU, hh_12.2.1, hG.step hW hU hh_12.1, hg_r0, hg_spare_13, jP.nil, trivial⟩⟩ rfl rfl hl.1 rfl (lv_room (Nat.le_of_ble_eq_true rfl)) dX11_makeChange_79 ⟨Nat.zero_le _, Nat.zero_le _⟩) hh_12.1 (fun q _ h => h) (fun q h => h) (fun r_15 u_14 t_14 H_14 locs_14 ht_14 hvm_14 hr_15 hb_14 hz_14 hk_14 hS_14 => ?_)
      rw [ht_14] at hb_14
      obtain ⟨hb_141, hb_142, hb_143, hb_144, hb_145⟩ := hb_14
      have hh_14 : jSt (dC, dI) B base G0 G0 EX11_makeChange s.heap 0 0 [(r0, 13, 15, .ref spare_13), (r0, 13, 2, .ref js), (js, 6, 7, .int pv), (js, 6, 8, .int pu), (js, 6, 0, .ref wk), (js, 6, 1, .ref wi), (js, 6, 2, .ref wz), (js, 6, 5, .ref jks)] [(wk, 140, 1502, ca 1, fk), (wi, 141, 1502, ca 1, fi), (wz, 142, 1502, ca 1, fz), (jks, 145, 1502, ca 1, fs)] [] H_14 locs_14 := ((hh_12.call hb_141 hb_142 hb_143 hb_144 hS_14 rfl (L1 := [(r0, 13, 15, .ref spare_13), (r0, 13, 2, .ref js), (js, 6, 7, .int pv), (js, 6, 8, .int pu), (js, 6, 0, .ref wk), (js, 6, 1, .ref wi), (js, 6, 2, .ref wz), (js, 6, 5, .ref jks)]) [0, 1, 2, 3, 4, 5, 6, 7] rfl rfl (M1 := [(wk, 140, 1502, ca 1, fk), (wi, 141, 1502, ca 1, fi), (wz, 142, 1502, ca 1, fz), (jks, 145, 1502, ca 1, fs)]) [0, 1, 2, 3] rfl rfl (I1 := []) [] rfl rfl).more hb_145)
      clear hh_12 ht_14 hvm_14 hz_14 hk_14 hS_14 hb_141 hb_142 hb_143 hb_144 hb_145
      obtain ⟨hr_15_0, hr_15_1⟩ := hr_15
      refine lv_istore (lv' := [(4, .int r_15), (3, .int r_4), (2, .int r_2), (0, .ref r0), (1, .int a1)]) hx hb dX11_makeChange_82 hl (by decide) rfl (fun ls hl => ?_)
      refine lv_aload_n hx hb dX11_makeChange_84 rfl (lv_at hl 3 rfl) ?_
      refine lv_aload_n hx hb dX11_makeChange_85 rfl (lv_at hl 3 rfl) ?_
      refine j7_read hx hb hown hK (C := RX11) (T := TX11) (N := 19) rfl hly_13_2 hlk_28 (hh_14.at 1 rfl) dX11_makeChange_86 ?_
      refine lv_iload_n hx hb dX11_makeChange_89 rfl (lv_at hl 1 rfl) ?_
      refine j_ldcSw hx hb hown rstr413 dX11_makeChange_90 ?_
      refine va_calli (A0 := jA base) (H0 := s.heap) (va_runV (As := [.int r_4, .ref str413]) (rest := [.ref r0]) ⟨hx, hb, hml, hown, hts⟩ (uX4_memberQ l dC dI ca base B hB hAp hB6 hB140 hB141 hB142 hB143 hB144 hB145 hB146 G0 H_14 js r_4 str413 3 pv wk wi wz jks fk fi fz fs) (cwV 2 hts (jgV (jWr_23 _ (List.mem_of_getElem? (i := 10) rfl)) (jWr_23 _ (List.mem_of_getElem? (i := 11) rfl)) (jWr_23 _ (List.mem_of_getElem? (i := 12) rfl)) (jWr_1 _ (List.mem_of_getElem? (i := 22) rfl)) (jWr_23 _ (List.mem_of_getElem? (i := 13) rfl))) rfl rfl rfl (by decide +kernel) ⟨by rw [← hR]; exact Nat.le_of_ble_eq_true rfl, by rw [← hR]; exact Nat.le_of_ble_eq_true rfl⟩) ⟨fun a U g mk q => by obtain ⟨q0, q1, q2, qK, q10, q11, q12, q13, q14, q15, q16, q17, q18⟩ := q; exact ⟨q0, q1, q2, jG.calling g mk a qK, (q10.moved (Vm.Alike.refl U.vm)), q11, q12, q13, q14, q15, q16, q17, q18⟩, hh_14.recv (C := RX4) (T := TX4) (N := 12) hB6 rfl (by decide) hg_js hK, fun U hU hW => ⟨rfl, hU, hh_14.2.1, hG.step hW hU hh_14.1, (hstr413.moved hW.alike).kept hh_14.1.2.1, hg_js, hg_wk, hg_wi, hg_wz, hg_jks, (hh_14.2.2.1.sub (L1 := [(js, 6, 7, .int pv), (js, 6, 0, .ref wk), (js, 6, 1, .ref wi), (js, 6, 2, .ref wz), (js, 6, 5, .ref jks)]) [2, 4, 5, 6, 7] rfl), (hh_14.2.2.2.2.2.2.2.1.sub (L1 := [(wk, 140, 1502, ca 1, fk), (wi, 141, 1502, ca 1, fi), (wz, 142, 1502, ca 1, fz), (jks, 145, 1502, ca 1, fs)]) [0, 1, 2, 3] rfl), by first | omega | (refine ⟨?_, ?_, ?_⟩ <;> (first | omega | rfl | assumption | decide | exact Or.inl rfl | exact Or.inr rfl | (simp only; omega)))⟩⟩ rfl rfl hl.1 rfl (lv_room (Nat.le_of_ble_eq_true rfl)) dX11_makeChange_93 ⟨Nat.zero_le _, Nat.zero_le _⟩) hh_14.1 (fun q _ h => h) (fun q h => h) (fun r_17 u_16 t_16 H_16 locs_16 ht_16 hvm_16 hr_17 hb_16 hz_16 hk_16 hS_16 => ?_)
      rw [ht_16] at hb_16
      obtain ⟨hb_16, hbF_16⟩ := hb_16
      obtain ⟨hb_161, hb_162, hb_163, hb_164, hb_165⟩ := hb_16
      have hh_16 : jSt (dC, dI) B base G0 G0 EX11_makeChange s.heap 0 0 [(r0, 13, 15, .ref spare_13), (r0, 13, 2, .ref js), (js, 6, 7, .int pv), (js, 6, 8, .int pu), (js, 6, 0, .ref wk), (js, 6, 1, .ref wi), (js, 6, 2, .ref wz), (js, 6, 5, .ref jks)] [(wk, 140, 1502, ca 1, fk), (wi, 141, 1502, ca 1, fi), (wz, 142, 1502, ca 1, fz), (jks, 145, 1502, ca 1, fs)] [] H_16 locs_16 := ((hh_14.call hb_161 hb_162 hb_163 hb_164 hS_16 rfl (L1 := [(r0, 13, 15, .ref spare_13), (r0, 13, 2, .ref js), (js, 6, 7, .int pv), (js, 6, 8, .int pu), (js, 6, 0, .ref wk), (js, 6, 1, .ref wi), (js, 6, 2, .ref wz), (js, 6, 5, .ref jks)]) [0, 1, 2, 3, 4, 5, 6, 7] rfl rfl (M1 := [(wk, 140, 1502, ca 1, fk), (wi, 141, 1502, ca 1, fi), (wz, 142, 1502, ca 1, fz), (jks, 145, 1502, ca 1, fs)]) [0, 1, 2, 3] rfl rfl (I1 := []) [] rfl rfl).more hb_165)
      clear hh_14 ht_16 hvm_16 hz_16 hk_16 hS_16 hb_161 hb_162 hb_163 hb_164 hb_165
      obtain ⟨hr_17_0, hr_17_1, hr_17_2⟩ := hr_17
      refine lv_aload_n hx hb dX11_makeChange_96 rfl (lv_at hl 3 rfl) ?_
      refine j7_read hx hb hown hK (C := RX11) (T := TX11) (N := 19) rfl hly_13_15 hlk_82 (hh_16.at 0 rfl) dX11_makeChange_97 ?_
      refine va_calli (A0 := jA base) (H0 := s.heap) (va_runV (As := [.int r_17, .ref spare_13]) (rest := []) ⟨hx, hb, hml, hown, hts⟩ (uX11_placeToldE l dC dI ca base B hB hAp hB3 hB6 hB13 hB101 hB140 hB141 hB142 hB143 hB144 hB145 hB146 G0 H_16 r0 r_17 spare_13 1) (cwV 2 hts (jgV (jWr_28 _ (List.mem_of_getElem? (i := 20) rfl)) (jWr_28 _ (List.mem_of_getElem? (i := 21) rfl)) (jWr_28 _ (List.mem_of_getElem? (i := 22) rfl)) (jWr_1 _ (List.mem_of_getElem? (i := 2) rfl)) (jWr_28 _ (List.mem_of_getElem? (i := 23) rfl))) rfl rfl rfl (by decide +kernel) ⟨by rw [← hR]; exact Nat.le_of_ble_eq_true rfl, by rw [← hR]; exact Nat.le_of_ble_eq_true rfl⟩) ⟨fun a U g mk q => by obtain ⟨q0, q1, q2, qK, q10, q11, q12, q13⟩ := q; exact ⟨q0, q1, q2, jG.calling g mk a qK, q10, q11, q12, q13⟩, hh_16.recv (C := RX11) (T := TX11) (N := 19) hB13 rfl (by decide) hg_r0 hK, fun U hU hW => ⟨rfl, hU, hh_16.2.1, hG.step hW hU hh_16.1, hg_r0, hg_spare_13, jP.nil, trivial⟩⟩ rfl rfl hl.1 rfl (lv_room (Nat.le_of_ble_eq_true rfl)) dX11_makeChange_100 ⟨Nat.zero_le _, Nat.zero_le _⟩) hh_16.1 (fun q _ h => h) (fun q h => h) (fun r_19 u_18 t_18 H_18 locs_18 ht_18 hvm_18 hr_19 hb_18 hz_18 hk_18 hS_18 => ?_)
      rw [ht_18] at hb_18
      obtain ⟨hb_181, hb_182, hb_183, hb_184, hb_185⟩ := hb_18
      have hh_18 : jSt (dC, dI) B base G0 G0 EX11_makeChange s.heap 0 0 [(r0, 13, 15, .ref spare_13), (r0, 13, 2, .ref js), (js, 6, 7, .int pv), (js, 6, 8, .int pu), (js, 6, 0, .ref wk), (js, 6, 1, .ref wi), (js, 6, 2, .ref wz), (js, 6, 5, .ref jks)] [(wk, 140, 1502, ca 1, fk), (wi, 141, 1502, ca 1, fi), (wz, 142, 1502, ca 1, fz), (jks, 145, 1502, ca 1, fs)] [] H_18 locs_18 := ((hh_16.call hb_181 hb_182 hb_183 hb_184 hS_18 rfl (L1 := [(r0, 13, 15, .ref spare_13), (r0, 13, 2, .ref js), (js, 6, 7, .int pv), (js, 6, 8, .int pu), (js, 6, 0, .ref wk), (js, 6, 1, .ref wi), (js, 6, 2, .ref wz), (js, 6, 5, .ref jks)]) [0, 1, 2, 3, 4, 5, 6, 7] rfl rfl (M1 := [(wk, 140, 1502, ca 1, fk), (wi, 141, 1502, ca 1, fi), (wz, 142, 1502, ca 1, fz), (jks, 145, 1502, ca 1, fs)]) [0, 1, 2, 3] rfl rfl (I1 := []) [] rfl rfl).more hb_185)
      clear hh_16 ht_18 hvm_18 hz_18 hk_18 hS_18 hb_181 hb_182 hb_183 hb_184 hb_185
      obtain ⟨hr_19_0, hr_19_1⟩ := hr_19
      refine lv_istore (lv' := [(5, .int r_19), (4, .int r_15), (3, .int r_4), (2, .int r_2), (0, .ref r0), (1, .int a1)]) hx hb dX11_makeChange_103 hl (by decide) rfl (fun ls hl => ?_)
      refine lv_iload hx hb dX11_makeChange_105 (lv_at hl 1 rfl) ?_
      refine lv_if_lt (tgt := 140) hx hb dX11_makeChange_107 (by decide) (fun c_20 => ?_) (fun c_20 => ?_)
      · skip
        have c_20' : r_15.toInt < 0 := jb_lt (rfl) ((by decide)) c_20
        first | (have hr_10_2q := hr_10_2.resolve_left (by omega); clear hr_10_2) | (have hr_10_2q := hr_10_2.resolve_right (by omega); clear hr_10_2) | try clear hr_10_2
        refine lv_iconst (v := 0) hx hb dX11_makeChange_140 (by decide) ?_
        rw [hQ]
        exact W.zret (v := 0) hx hb hr (jb_nz (Or.inl rfl)) (fun t ht hW => ⟨⟨0, (), rfl, ⟨(Or.inl rfl), Or.inr ⟨r_2.toInt, by omega, by omega, by omega, by omega⟩⟩, hh_18.rt (M1 := []) [] rfl ht⟩, by rw [ht]; try exact hh_18.1.1, fun q h9 hq => by rw [ht]; try exact hh_18.1.2.1 q h9 hq⟩) hh_18.1.2.2 dX11_makeChange_141
      · skip
        have c_20' : r_15.toInt ≥ 0 := jb_lt_n (rfl) ((by decide)) c_20
        first | (have hr_10_2q := hr_10_2.resolve_left (by omega); clear hr_10_2) | (have hr_10_2q := hr_10_2.resolve_right (by omega); clear hr_10_2) | try clear hr_10_2
        refine lv_iload hx hb dX11_makeChange_110 (lv_at hl 0 rfl) ?_
        refine lv_iload hx hb dX11_makeChange_112 (lv_at hl 1 rfl) ?_
        refine lv_icmp_lt (tgt := 140) hx hb dX11_makeChange_114 (by decide) (fun c_21 => ?_) (fun c_21 => ?_)
        · skip
          have c_21' : r_19.toInt < r_15.toInt := jb_lt (rfl) (rfl) c_21
          first | (have hr_17_2q := hr_17_2.resolve_left (by omega); clear hr_17_2) | (have hr_17_2q := hr_17_2.resolve_right (by omega); clear hr_17_2) | try clear hr_17_2
          refine lv_iconst (v := 0) hx hb dX11_makeChange_140 (by decide) ?_
          rw [hQ]
          exact W.zret (v := 0) hx hb hr (jb_nz (Or.inl rfl)) (fun t ht hW => ⟨⟨0, (), rfl, ⟨(Or.inl rfl), Or.inr ⟨r_2.toInt, by omega, by omega, by omega, by omega⟩⟩, hh_18.rt (M1 := []) [] rfl ht⟩, by rw [ht]; try exact hh_18.1.1, fun q h9 hq => by rw [ht]; try exact hh_18.1.2.1 q h9 hq⟩) hh_18.1.2.2 dX11_makeChange_141
        · skip
          have c_21' : r_19.toInt ≥ r_15.toInt := jb_lt_n (rfl) (rfl) c_21
          first | (have hr_17_2q := hr_17_2.resolve_left (by omega); clear hr_17_2) | (have hr_17_2q := hr_17_2.resolve_right (by omega); clear hr_17_2) | try clear hr_17_2
          refine lv_aload_n hx hb dX11_makeChange_117 rfl (lv_at hl 4 rfl) ?_
          refine j7_read hx hb hown hK (C := RX11) (T := TX11) (N := 19) rfl hly_13_15 hlk_82 (hh_18.at 0 rfl) dX11_makeChange_118 ?_
          refine lv_iload hx hb dX11_makeChange_121 (lv_at hl 1 rfl) ?_
          refine lv_iload hx hb dX11_makeChange_123 (lv_at hl 0 rfl) ?_
          refine lv_aload_n hx hb dX11_makeChange_125 rfl (lv_at hl 4 rfl) ?_
          refine j7_read hx hb hown hK (C := RX11) (T := TX11) (N := 19) rfl hly_13_2 hlk_28 (hh_18.at 1 rfl) dX11_makeChange_126 ?_
          refine lv_iload_n hx hb dX11_makeChange_129 rfl (lv_at hl 3 rfl) ?_
          refine va_calli (A0 := jA base) (H0 := s.heap) (va_runV (As := [.int r_15, .int r_19, .ref js, .int r_2]) (rest := []) ⟨hx, hb, hml, hown, hts⟩ (uX1_replace l dC dI ca base B hB hAp hB3 hB6 hB101 hB140 hB141 hB142 hB146 G0 H_18 spare_13 r_15 r_19 js r_2 1) (cwV 4 hts (jgV (jWr_35 _ (List.mem_of_getElem? (i := 19) rfl)) (jWr_35 _ (List.mem_of_getElem? (i := 20) rfl)) (jWr_35 _ (List.mem_of_getElem? (i := 21) rfl)) (jWr_2 _ (List.mem_of_getElem? (i := 21) rfl)) (jWr_35 _ (List.mem_of_getElem? (i := 22) rfl))) rfl rfl rfl (by decide +kernel) ⟨by rw [← hR]; exact Nat.le_of_ble_eq_true rfl, by rw [← hR]; exact Nat.le_of_ble_eq_true rfl⟩) ⟨fun a U g mk q => by obtain ⟨q0, q1, q2, qK, q10, q11, q12, q13⟩ := q; exact ⟨q0, q1, q2, jG.calling g mk a qK, q10, q11, q12, q13⟩, hh_18.recv (C := RX1) (T := TX1) (N := 17) hB3 rfl (by decide) hg_spare_13 hK, fun U hU hW => ⟨rfl, hU, hh_18.2.1, hG.step hW hU hh_18.1, hg_spare_13, hg_js, jP.nil, by first | omega | (refine ⟨?_, ?_, ?_, ?_⟩ <;> (first | omega | rfl | assumption | decide | exact Or.inl rfl | exact Or.inr rfl | (simp only; omega)))⟩⟩ rfl rfl hl.1 rfl (lv_room (Nat.le_of_ble_eq_true rfl)) dX11_makeChange_130 ⟨Nat.zero_le _, Nat.zero_le _⟩) hh_18.1 (fun q _ h => h) (fun q h => h) (fun r_23 u_22 t_22 H_22 locs_22 ht_22 hvm_22 hr_23 hb_22 hz_22 hk_22 hS_22 => ?_)
          rw [ht_22] at hb_22
          obtain ⟨hb_221, hb_222, hb_223, hb_224, hb_225⟩ := hb_22
          have hh_22 : jSt (dC, dI) B base G0 G0 EX11_makeChange s.heap 0 0 [(r0, 13, 15, .ref spare_13), (r0, 13, 2, .ref js), (js, 6, 7, .int pv), (js, 6, 8, .int pu), (js, 6, 0, .ref wk), (js, 6, 1, .ref wi), (js, 6, 2, .ref wz), (js, 6, 5, .ref jks)] [(wk, 140, 1502, ca 1, fk), (wi, 141, 1502, ca 1, fi), (wz, 142, 1502, ca 1, fz), (jks, 145, 1502, ca 1, fs)] [] H_22 locs_22 := ((hh_18.call hb_221 hb_222 hb_223 hb_224 hS_22 rfl (L1 := [(r0, 13, 15, .ref spare_13), (r0, 13, 2, .ref js), (js, 6, 7, .int pv), (js, 6, 8, .int pu), (js, 6, 0, .ref wk), (js, 6, 1, .ref wi), (js, 6, 2, .ref wz), (js, 6, 5, .ref jks)]) [0, 1, 2, 3, 4, 5, 6, 7] rfl rfl (M1 := [(wk, 140, 1502, ca 1, fk), (wi, 141, 1502, ca 1, fi), (wz, 142, 1502, ca 1, fz), (jks, 145, 1502, ca 1, fs)]) [0, 1, 2, 3] rfl rfl (I1 := []) [] rfl rfl).more hb_225)
          clear hh_18 ht_22 hvm_22 hz_22 hk_22 hS_22 hb_221 hb_222 hb_223 hb_224 hb_225
          obtain ⟨hr_23b, hr_23p⟩ := hr_23
          have hr_23' := jb_01 hr_23b
          refine lv_if_eq (tgt := 140) hx hb dX11_makeChange_133 (by decide) (fun c_24 => ?_) (fun c_24 => ?_)
          · skip
            have c_24' : r_23.toInt = 0 := jb_eq (rfl) ((by decide)) c_24
            first | (have hr_2_2q := hr_2_2.resolve_left (by omega); clear hr_2_2) | (have hr_2_2q := hr_2_2.resolve_right (by omega); clear hr_2_2) | skip
            refine lv_iconst (v := 0) hx hb dX11_makeChange_140 (by decide) ?_
            rw [hQ]
            exact W.zret (v := 0) hx hb hr (jb_nz (Or.inl rfl)) (fun t ht hW => ⟨⟨0, (), rfl, ⟨(Or.inl rfl), Or.inr ⟨r_2.toInt, by omega, by omega, by omega, by omega⟩⟩, hh_22.rt (M1 := []) [] rfl ht⟩, by rw [ht]; try exact hh_22.1.1, fun q h9 hq => by rw [ht]; try exact hh_22.1.2.1 q h9 hq⟩) hh_22.1.2.2 dX11_makeChange_141
          · skip
            have c_24' : r_23.toInt ≠ 0 := jb_eq_n (rfl) ((by decide)) c_24
            first | (have hr_2_2q := hr_2_2.resolve_left (by omega); clear hr_2_2) | (have hr_2_2q := hr_2_2.resolve_right (by omega); clear hr_2_2) | skip
            refine lv_iconst (v := 1) hx hb dX11_makeChange_136 (by decide) ?_
            refine lv_goto (tgt := 141) hx hb dX11_makeChange_137 (by decide) ?_
            rw [hQ]
            exact W.zret (v := 1) hx hb hr (jb_nz (Or.inr rfl)) (fun t ht hW => ⟨⟨1, (), rfl, ⟨(Or.inr rfl), Or.inr ⟨r_2.toInt, by omega, by omega, by omega, by omega⟩⟩, hh_22.rt (M1 := []) [] rfl ht⟩, by rw [ht]; try exact hh_22.1.1, fun q h9 hq => by rw [ht]; try exact hh_22.1.2.1 q h9 hq⟩) hh_22.1.2.2 dX11_makeChange_141
    · skip
      have c_8' : r_4.toInt < 0 := jb_ge_n (rfl) ((by decide)) c_8
      first | (have hr_2_2q := hr_2_2.resolve_left (by omega); clear hr_2_2) | (have hr_2_2q := hr_2_2.resolve_right (by omega); clear hr_2_2) | skip
      first | (have hr_4_2q := hr_4_2.resolve_left (by omega); clear hr_4_2) | (have hr_4_2q := hr_4_2.resolve_right (by omega); clear hr_4_2) | skip
      refine lv_aload_n hx hb dX11_makeChange_42 rfl (lv_at hl 2 rfl) ?_
      obtain ⟨v_25, hv_25, hh_26⟩ := hh_5.pin (C := RX11) (T := TX11) (N := 19) hB13 rfl (by decide) hg_r0 (i := 15) (by decide) rfl
      clear hh_5
      obtain ⟨spare_27, rfl, hg_spare_27⟩ := hv_25
      refine j7_read hx hb hown hK (C := RX11) (T := TX11) (N := 19) rfl hly_13_15 hlk_82 (hh_26.at 0 rfl) dX11_makeChange_43 ?_
      refine lv_iconst (v := 0) hx hb dX11_makeChange_46 (by decide) ?_
      refine lv_aload_n hx hb dX11_makeChange_47 rfl (lv_at hl 2 rfl) ?_
      refine j7_read hx hb hown hK (C := RX11) (T := TX11) (N := 19) rfl hly_13_15 hlk_82 (hh_26.at 0 rfl) dX11_makeChange_48 ?_
      obtain ⟨v_28, hv_28, hh_29⟩ := hh_26.pin (C := RX1) (T := TX1) (N := 17) hB3 rfl (by decide) hg_spare_27 (i := 3) (by decide) rfl
      clear hh_26
      obtain ⟨length_30, rfl, hlolength_30, hhilength_30⟩ := hv_28
      refine j7_read hx hb hown hK (C := RX1) (T := TX1) (N := 17) rfl hly_3_3 hlk_165 (hh_29.at 0 rfl) dX11_makeChange_51 ?_
      refine lv_aload_n hx hb dX11_makeChange_54 rfl (lv_at hl 2 rfl) ?_
      refine j7_read hx hb hown hK (C := RX11) (T := TX11) (N := 19) rfl hly_13_2 hlk_28 (hh_29.at 2 rfl) dX11_makeChange_55 ?_
      refine lv_iload_n hx hb dX11_makeChange_58 rfl (lv_at hl 1 rfl) ?_
      refine va_calli (A0 := jA base) (H0 := s.heap) (va_runV (As := [.int 0, .int length_30, .ref js, .int r_2]) (rest := []) ⟨hx, hb, hml, hown, hts⟩ (uX1_replace l dC dI ca base B hB hAp hB3 hB6 hB101 hB140 hB141 hB142 hB146 G0 H_5 spare_27 0 length_30 js r_2 1) (cwV 4 hts (jgV (jWr_35 _ (List.mem_of_getElem? (i := 19) rfl)) (jWr_35 _ (List.mem_of_getElem? (i := 20) rfl)) (jWr_35 _ (List.mem_of_getElem? (i := 21) rfl)) (jWr_2 _ (List.mem_of_getElem? (i := 21) rfl)) (jWr_35 _ (List.mem_of_getElem? (i := 22) rfl))) rfl rfl rfl (by decide +kernel) ⟨by rw [← hR]; exact Nat.le_of_ble_eq_true rfl, by rw [← hR]; exact Nat.le_of_ble_eq_true rfl⟩) ⟨fun a U g mk q => by obtain ⟨q0, q1, q2, qK, q10, q11, q12, q13⟩ := q; exact ⟨q0, q1, q2, jG.calling g mk a qK, q10, q11, q12, q13⟩, hh_29.recv (C := RX1) (T := TX1) (N := 17) hB3 rfl (by decide) hg_spare_27 hK, fun U hU hW => ⟨rfl, hU, hh_29.2.1, hG.step hW hU hh_29.1, hg_spare_27, hg_js, jP.nil, by first | omega | (refine ⟨?_, ?_, ?_, ?_⟩ <;> (first | omega | rfl | assumption | decide | exact Or.inl rfl | exact Or.inr rfl | (simp only; omega)))⟩⟩ rfl rfl hl.1 rfl (lv_room (Nat.le_of_ble_eq_true rfl)) dX11_makeChange_59 ⟨Nat.zero_le _, Nat.zero_le _⟩) hh_29.1 (fun q _ h => h) (fun q h => h) (fun r_32 u_31 t_31 H_31 locs_31 ht_31 hvm_31 hr_32 hb_31 hz_31 hk_31 hS_31 => ?_)
      rw [ht_31] at hb_31
      obtain ⟨hb_311, hb_312, hb_313, hb_314, hb_315⟩ := hb_31
      have hh_31 : jSt (dC, dI) B base G0 G0 EX11_makeChange s.heap 0 0 [(r0, 13, 15, .ref spare_27), (r0, 13, 2, .ref js), (js, 6, 7, .int pv), (js, 6, 8, .int pu), (js, 6, 0, .ref wk), (js, 6, 1, .ref wi), (js, 6, 2, .ref wz), (js, 6, 5, .ref jks)] [(wk, 140, 1502, ca 1, fk), (wi, 141, 1502, ca 1, fi), (wz, 142, 1502, ca 1, fz), (jks, 145, 1502, ca 1, fs)] [] H_31 locs_31 := ((hh_29.call hb_311 hb_312 hb_313 hb_314 hS_31 rfl (L1 := [(r0, 13, 15, .ref spare_27), (r0, 13, 2, .ref js), (js, 6, 7, .int pv), (js, 6, 8, .int pu), (js, 6, 0, .ref wk), (js, 6, 1, .ref wi), (js, 6, 2, .ref wz), (js, 6, 5, .ref jks)]) [1, 2, 3, 4, 5, 6, 7, 8] rfl rfl (M1 := [(wk, 140, 1502, ca 1, fk), (wi, 141, 1502, ca 1, fi), (wz, 142, 1502, ca 1, fz), (jks, 145, 1502, ca 1, fs)]) [0, 1, 2, 3] rfl rfl (I1 := []) [] rfl rfl).more hb_315)
      clear hh_29 ht_31 hvm_31 hz_31 hk_31 hS_31 hb_311 hb_312 hb_313 hb_314 hb_315
      obtain ⟨hr_32b, hr_32p⟩ := hr_32
      have hr_32' := jb_01 hr_32b
      rw [hQ]
      exact W.zret (v := r_32) hx hb hr (jb_nz (hr_32b)) (fun t ht hW => ⟨⟨r_32, (), rfl, ⟨(hr_32b), Or.inr ⟨r_2.toInt, by omega, by omega, by omega, by omega⟩⟩, hh_31.rt (M1 := []) [] rfl ht⟩, by rw [ht]; try exact hh_31.1.1, fun q h9 hq => by rw [ht]; try exact hh_31.1.2.1 q h9 hq⟩) hh_31.1.2.2 dX11_makeChange_62
  · skip
    have c_7' : r_6.toInt ≠ 3 := jb_eq_n (rfl) ((by decide)) c_7
    try clear hr_6
    refine lv_iconst (v := 0) hx hb dX11_makeChange_36 (by decide) ?_
    rw [hQ]
    exact W.zret (v := 0) hx hb hr (jb_nz (Or.inl rfl)) (fun t ht hW => ⟨⟨0, (), rfl, ⟨(Or.inl rfl), Or.inl (by first | rfl | decide)⟩, hh_5.rt (M1 := []) [] rfl ht⟩, by rw [ht]; try exact hh_5.1.1, fun q h9 hq => by rw [ht]; try exact hh_5.1.2.1 q h9 hq⟩) hh_5.1.2.2 dX11_makeChange_37
set_option maxHeartbeats 4000000 in
set_option maxRecDepth 20000 in
theorem uX11_closeDocumentE (l : Launch) (dC : Nat → ClassId) (dI : Nat → Nat → Nat) (ca : Nat → ClassId) (base : Nat) (B : jF) (hB : jBok B) (hAp : jAp (dC, dI)) (hB1 : ∀ n G a H, B 1 n G a H ↔ jOb (dC, dI) 1 3 (F1 n G) a H) (hB2 : ∀ n G a H, B 2 n G a H ↔ jOb (dC, dI) 2 2 (F2 n G) a H) (hB3 : ∀ n G a H, B 3 n G a H ↔ jOb (dC, dI) 3 17 (F3 n G) a H) (hB4 : ∀ n G a H, B 4 n G a H ↔ jOb (dC, dI) 4 12 (F4 n G) a H) (hB6 : ∀ n G a H, B 6 n G a H ↔ jOb (dC, dI) 6 12 (F6 n G) a H) (hB10 : ∀ n G a H, B 10 n G a H ↔ jOb (dC, dI) 10 5 (F10 n G) a H) (hB11 : ∀ n G a H, B 11 n G a H ↔ jOb (dC, dI) 11 9 (F11 n G) a H) (hB13 : ∀ n G a H, B 13 n G a H ↔ jOb (dC, dI) 13 19 (F13 n G) a H) (hB101 : ∀ n G a H, B 101 n G a H ↔ jAr (dC, dI) (ca 1) (fun j z => True) n a H) (hB140 : ∀ n G a H, B 140 n G a H ↔ jAr (dC, dI) (ca 1) (fun j z => True) n a H) (hB141 : ∀ n G a H, B 141 n G a H ↔ jAr (dC, dI) (ca 1) (fun j z => True) n a H) (hB142 : ∀ n G a H, B 142 n G a H ↔ jAr (dC, dI) (ca 1) (fun j z => True) n a H) (hB143 : ∀ n G a H, B 143 n G a H ↔ jAr (dC, dI) (ca 1) (fun j z => True) n a H) (hB144 : ∀ n G a H, B 144 n G a H ↔ jAr (dC, dI) (ca 1) (fun j z => 0 ≤ z.toInt ∧ z.toInt ≤ 3000) n a H) (hB145 : ∀ n G a H, B 145 n G a H ↔ jAr (dC, dI) (ca 1) (fun j z => True) n a H) (hB146 : ∀ n G a H, B 146 n G a H ↔ jAr (dC, dI) (ca 1) (fun j z => True) n a H) (hB171 : ∀ n G a H, B 171 n G a H ↔ jAr (dC, dI) (ca 1) (fun j z => 0 ≤ z.toInt ∧ z.toInt ≤ 1500) n a H) (hB172 : ∀ n G a H, B 172 n G a H ↔ jAr (dC, dI) (ca 1) (fun j z => 0 ≤ z.toInt ∧ z.toInt ≤ 1500) n a H) (hB196 : ∀ n G a H, B 196 n G a H ↔ jAr (dC, dI) (ca 0) (fun j z => jBf j z) n a H) (hB210 : ∀ n G a H, B 210 n G a H ↔ jAq (dC, dI) (ca 6) (jQn 11 0) n G a H) (hB212 : ∀ n G a H, B 212 n G a H ↔ jAq (dC, dI) (ca 5) (jQn 3 0) n G a H) (hB221 : ∀ n G a H, B 221 n G a H ↔ jAq (dC, dI) (ca 9) (jQn 3 0) n G a H) (hB222 : ∀ n G a H, B 222 n G a H ↔ jAq (dC, dI) (ca 9) (jQn 10 0) n G a H) (G0 : jT) (H0 : Heap) (r0 : Nat) (bo : Nat) (pc : Int32) (pa : Nat) (n_pa : Nat) (ou : Nat) (op : Nat) (sz : Int32) (ph : Nat) (LC LS : Nat) : Met l yX11_closeDocument (jw yX11_closeDocument cX11_closeDocument 3 none) ({ frames := 8, cells := LC - H0.size, slots := LS - jTot H0, locals := 231 }) (va_Pc [.ref r0] (fun U => U.heap = H0 ∧ jX B base G0 [] H0 ∧ jG dC dI ca base U ∧ jK2 dC dI ca U ∧ jK5 dC dI ca U ∧ jK7 dC dI ca base U ∧ G0 r0 = some (13, 0) ∧ G0 bo = some (2, 0) ∧ G0 pa = some (196, n_pa) ∧ G0 ou = some (2, 20000) ∧ G0 op = some (1, 1) ∧ jP (dC, dI) G0 H0 [(r0, 13, 4, .ref bo), (bo, 2, 1, .int pc), (bo, 2, 0, .ref pa), (r0, 13, 3, .ref ou), (r0, 13, 7, .ref op), (op, 1, 2, .int sz)] ∧ jIs (dC, dI) G0 H0 [(jFy, jYb dC dI G0), (jFl, jLs dC dI ca G0 3 none), (jFdo, jDcc dC dI ca G0 none ph)] ∧ H0.size + (1048576 - n_pa) / 16 + 1 ≤ LC ∧ jTot H0 + 2 * (1048576 - n_pa) ≤ LS ∧ 0 ≤ pc.toInt ∧ pc.toInt ≤ n_pa ∧ 16 ≤ n_pa ∧ n_pa ≤ 1048576 ∧ jPw n_pa ∧ 0 ≤ sz.toInt ∧ sz.toInt ≤ 40)) (va_Qv (S := Int32 × Nat × Nat × Nat × jT) (fun u => 0 ≤ u.1.toInt ∧ u.1.toInt ≤ u.2.2.1 ∧ n_pa ≤ u.2.2.1 ∧ u.2.2.1 ≤ 1048576 ∧ jPw u.2.2.1 ∧ u.2.2.2.1 ≤ ph + 1516) (fun u t => jRa (dC, dI) B base G0 u.2.2.2.2 EX11_closeDocumentE H0 ((u.2.2.1 - n_pa) / 16) (2 * (u.2.2.1 - n_pa)) [(bo, 2, 1, .int u.1), (bo, 2, 0, .ref u.2.1)] t.heap ∧ u.2.2.2.2 u.2.1 = some (196, u.2.2.1) ∧ (jNk [0, 1, 2, 3, 4, 5, 6, 7, 8, 9, 10, 11, 12, 13, 14, 15, 16]) G0 u.2.2.2.2 ∧ jOl (dC, dI) G0 2 [bo, ou] H0 t.heap ∧ jIs (dC, dI) u.2.2.2.2 t.heap [(jFy, jYb dC dI u.2.2.2.2), (jFl, jLs dC dI ca u.2.2.2.2 3 none), (jFdo, jDcc dC dI ca u.2.2.2.2 none (u.2.2.2.1))]) (jA base)) (LC - H0.size) (LS - jTot H0) (jA base) := by
  refine Met.ofW (cc := cX11_closeDocument) (maxL := 3) (ret := none) (by decide) rfl ?_
  intro p e s m args below meth c s₁ Bd hml hv
  obtain ⟨rfl, hH0, hX, hG, hK2, hK5, hK7, hg_r0, hg_bo, hg_pa, hg_ou, hg_op, hP0, hI0, hLC0, hLS0, hp0, hp1, hp2, hp3, hp4, hp5, hp6⟩ := hv
  have hK := hG.1
  have hx := Bd.exec
  have hb := Bd.bytes
  have hr := Bd.returns
  have hts := atoms_spec (ws := (jw yX11_closeDocument cX11_closeDocument 3 none)) Bd.pre
  have htw : ∀ w ∈ jWl, w.before _ s = true := fun w h => hts w (List.mem_cons_of_mem _ h)
  have hown : s.vm.findClass RX11 = some m.cls := findClass_of_methodNamed Bd.named
  have hlocks := Bd.notSynchronized
  obtain ⟨Q, hQ⟩ : ∃ Q, Q = MQ below (va_Qv (S := Int32 × Nat × Nat × Nat × jT) (fun u => 0 ≤ u.1.toInt ∧ u.1.toInt ≤ u.2.2.1 ∧ n_pa ≤ u.2.2.1 ∧ u.2.2.1 ≤ 1048576 ∧ jPw u.2.2.1 ∧ u.2.2.2.1 ≤ ph + 1516) (fun u t => jRa (dC, dI) B base G0 u.2.2.2.2 EX11_closeDocumentE H0 ((u.2.2.1 - n_pa) / 16) (2 * (u.2.2.1 - n_pa)) [(bo, 2, 1, .int u.1), (bo, 2, 0, .ref u.2.1)] t.heap ∧ u.2.2.2.2 u.2.1 = some (196, u.2.2.1) ∧ (jNk [0, 1, 2, 3, 4, 5, 6, 7, 8, 9, 10, 11, 12, 13, 14, 15, 16]) G0 u.2.2.2.2 ∧ jOl (dC, dI) G0 2 [bo, ou] H0 t.heap ∧ jIs (dC, dI) u.2.2.2.2 t.heap [(jFy, jYb dC dI u.2.2.2.2), (jFl, jLs dC dI ca u.2.2.2.2 3 none), (jFdo, jDcc dC dI ca u.2.2.2.2 none (u.2.2.2.1))]) (jA base)) ([.ref r0] : List Value).toArray s (LC - H0.size) (LS - jTot H0) (jA base) := ⟨_, rfl⟩
  rw [← hQ]
  have hl := lv_entry ([.ref r0]) (n := 3) (Nat.le_of_ble_eq_true rfl)
  rw [lg_entry_eq]
  generalize (lg_sl ([.ref r0]) ++ List.replicate (3 - (lg_sl ([.ref r0])).length) Slot.unset).toArray = ls at hl ⊢
  have hl : lv_has ls 3 [(0, .ref r0)] := hl
  generalize hR : (headSpec (jw yX11_closeDocument cX11_closeDocument 3 none) ({ frames := 8, cells := LC - H0.size, slots := LS - jTot H0, locals := 231 })).room = R
  subst hH0
  have hh : jSt (dC, dI) B base G0 G0 EX11_closeDocumentE s.heap 0 0 [(r0, 13, 4, .ref bo), (bo, 2, 1, .int pc), (bo, 2, 0, .ref pa), (r0, 13, 3, .ref ou), (r0, 13, 7, .ref op), (op, 1, 2, .int sz)] [] [(jFy, jYb dC dI G0), (jFl, jLs dC dI ca G0 3 none), (jFdo, jDcc dC dI ca G0 none ph)] s.heap [] := jSt.start hX hP0 jMc.nil hI0
  clear hX hP0
  have hk0 : (0 : Int32).toInt = 0 := by decide
  have hk1 : (1 : Int32).toInt = 1 := by decide
  have hly_13_7 := htw (u_lay RX11 TX11 7) (jWc_wsX110 _ (u_in_lay (by decide)))
  have hlk_61 := (htw (.fieldLink RX11 61 "ProofServer" "open" "Ljava/util/List;") (jWr_2 _ (List.mem_of_getElem? (i := 14) rfl)))
  have hbs : base ≤ s.heap.size := Nat.le_of_lt (Nat.lt_of_le_of_lt (hh.ab hg_r0).1 (hh.ab hg_r0).2)
  have hRc : R.cells = LC - s.heap.size := by rw [← hR]; rfl
  have hRs : R.slots = LS - jTot s.heap := by rw [← hR]; rfl
  have hh_1 := hh.addI (jOl.ie (dC := dC) (dI := dI) (G0 := G0) (k := 2) (rs := [bo, ou]) (H0 := s.heap) (F := [(2, 0), (2, 1)]) (C := RX0) (T := TX0) (N := 2) rfl (by decide) hh.2.2.2.2.1 (jOl.rf))
  clear hh
  refine lv_aload_n hx hb dX11_closeDocument_0 rfl (lv_at hl 0 rfl) ?_
  have hsz_2 := hh_1.2.2.2.2.2.1
  have htt_2 := hh_1.2.2.2.2.2.2.1
  refine W.room (fun hrc_2 hrs_2 => ?_)
  refine j_callx (A0 := jA base) (H0 := s.heap) (va_runV (As := []) (rest := []) ⟨hx, hb, hml, hown, hts⟩ (uX11_addressed l dC dI ca base B hB hAp hB1 hB3 hB6 hB13 hB101 hB140 hB141 hB142 hB143 hB144 hB145 hB146 hB221 G0 s.heap r0) (cwV 0 hts (jgV (jWr_27 _ (List.mem_of_getElem? (i := 16) rfl)) (jWr_27 _ (List.mem_of_getElem? (i := 17) rfl)) (jWr_27 _ (List.mem_of_getElem? (i := 18) rfl)) (jWr_1 _ (List.mem_of_getElem? (i := 2) rfl)) (jWr_27 _ (List.mem_of_getElem? (i := 19) rfl))) rfl rfl rfl (by decide +kernel) ⟨by rw [← hR]; exact Nat.le_of_ble_eq_true rfl, by rw [← hR]; exact Nat.le_of_ble_eq_true rfl⟩) ⟨fun a U g mk q => by obtain ⟨q0, q1, q2, qK, q10, q11, q12, q13, q14⟩ := q; exact ⟨q0, q1, q2, jG.calling g mk a qK, (jK7.calling g mk a q10), q11, q12, q13, q14⟩, hh_1.recv (C := RX11) (T := TX11) (N := 19) hB13 rfl (by decide) hg_r0 hK, fun U hU hW => ⟨rfl, hU, hh_1.2.1, hG.step hW hU hh_1.1, (hK7.step hW hU hh_1.1), hg_r0, jP.nil, (hh_1.2.2.2.2.2.2.2.2.sub (L1 := [(jFl, jLs dC dI ca G0 3 none)]) [2] rfl), trivial⟩⟩ rfl rfl hl.1 rfl (lv_room (Nat.le_of_ble_eq_true rfl)) dX11_closeDocument_1 ⟨by rw [hRc]; show _ + 0 ≤ _; omega, by rw [hRs]; show _ + 0 ≤ _; omega⟩) hh_1.1 (fun q _ h => h) (fun q h => h) (fun r_3 u_2 t_2 H_2 locs_2 ht_2 hvm_2 hr_3 hb_2 hz_2 hk_2 hS_2 => ?_)
  rw [ht_2] at hb_2
  obtain ⟨hb_2, hbE_2⟩ := hb_2
  obtain ⟨hb_21, hb_22, hb_23, hb_24, hb_25⟩ := hb_2
  have hh_2 : jSt (dC, dI) B base G0 G0 EX11_closeDocumentE s.heap 0 0 [(r0, 13, 4, .ref bo), (bo, 2, 1, .int pc), (bo, 2, 0, .ref pa), (r0, 13, 3, .ref ou), (r0, 13, 7, .ref op), (op, 1, 2, .int sz)] [] [(jFl, jLs dC dI ca G0 3 none), ([(2, 0), (2, 1)], jOl (dC, dI) G0 2 [bo, ou] s.heap), (jFy, jYb dC dI G0), (jFdo, jDcc dC dI ca G0 none ph)] H_2 locs_2 := (((hh_1.call hb_21 hb_22 hb_23 hb_24 hS_2 rfl (L1 := [(r0, 13, 4, .ref bo), (bo, 2, 1, .int pc), (bo, 2, 0, .ref pa), (r0, 13, 3, .ref ou), (r0, 13, 7, .ref op), (op, 1, 2, .int sz)]) [0, 1, 2, 3, 4, 5] rfl rfl (M1 := []) [] rfl rfl (I1 := [([(2, 0), (2, 1)], jOl (dC, dI) G0 2 [bo, ou] s.heap), (jFy, jYb dC dI G0), (jFdo, jDcc dC dI ca G0 none ph)]) [0, 1, 3] rfl rfl).more hb_25)).addIs hbE_2
  clear hh_1 ht_2 hvm_2 hz_2 hk_2 hS_2 hb_21 hb_22 hb_23 hb_24 hb_25
  clear  hbE_2
  rcases hr_3 with rfl | ⟨ret_4, rfl, hg_ret_4⟩
  · skip
    refine j7_nst_n (lv' := [(1, .null), (0, .ref r0)]) hx hb dX11_closeDocument_4 rfl hl (by decide) rfl (fun ls hl => ?_)
    refine lv_aload_n hx hb dX11_closeDocument_5 rfl (lv_at hl 1 rfl) ?_
    refine j7_nld_n hx hb dX11_closeDocument_6 rfl (lv_at hl 0 rfl) ?_
    have hsz_5 := hh_2.2.2.2.2.2.1
    have htt_5 := hh_2.2.2.2.2.2.2.1
    refine W.room (fun hrc_5 hrs_5 => ?_)
    refine va_calli (A0 := jA base) (H0 := s.heap) (va_runV (As := [.null]) (rest := []) ⟨hx, hb, hml, hown, hts⟩ (uX11_numberOfZ l dC dI ca base B hB hAp hB1 hB3 hB13 hB221 G0 H_2 r0) (cwV 1 hts (jgV (jWr_43 _ (List.mem_of_getElem? (i := 14) rfl)) (jWr_43 _ (List.mem_of_getElem? (i := 15) rfl)) (jWr_43 _ (List.mem_of_getElem? (i := 16) rfl)) (jWr_1 _ (List.mem_of_getElem? (i := 2) rfl)) (jWr_43 _ (List.mem_of_getElem? (i := 17) rfl))) rfl rfl rfl (by decide +kernel) ⟨by rw [← hR]; exact Nat.le_of_ble_eq_true rfl, by rw [← hR]; exact Nat.le_of_ble_eq_true rfl⟩) ⟨fun a U g mk q => by obtain ⟨q0, q1, q2, qK, q10, q11, q12, q13, q14⟩ := q; exact ⟨q0, q1, q2, jG.calling g mk a qK, (jK7.calling g mk a q10), q11, q12, q13, q14⟩, hh_2.recv (C := RX11) (T := TX11) (N := 19) hB13 rfl (by decide) hg_r0 hK, fun U hU hW => ⟨rfl, hU, hh_2.2.1, hG.step hW hU hh_2.1, (hK7.step hW hU hh_2.1), hg_r0, jP.nil, (hh_2.2.2.2.2.2.2.2.2.sub (L1 := [(jFl, jLs dC dI ca G0 3 none)]) [0] rfl), trivial⟩⟩ rfl rfl hl.1 rfl (lv_room (Nat.le_of_ble_eq_true rfl)) dX11_closeDocument_7 ⟨by rw [hRc]; show _ + 0 ≤ _; omega, by rw [hRs]; show _ + 0 ≤ _; omega⟩) hh_2.1 (fun q _ h => h) (fun q h => h) (fun r_6 u_5 t_5 H_5 locs_5 ht_5 hvm_5 hr_6 hb_5 hz_5 hk_5 hS_5 => ?_)
    rw [ht_5] at hb_5
    obtain ⟨hb_5, hbE_5⟩ := hb_5
    obtain ⟨hb_51, hb_52, hb_53, hb_54, hb_55⟩ := hb_5
    have hh_5 : jSt (dC, dI) B base G0 G0 EX11_closeDocumentE s.heap 0 0 [(r0, 13, 4, .ref bo), (bo, 2, 1, .int pc), (bo, 2, 0, .ref pa), (r0, 13, 3, .ref ou), (r0, 13, 7, .ref op), (op, 1, 2, .int sz)] [] [(jFl, jLs dC dI ca G0 3 none), ([(2, 0), (2, 1)], jOl (dC, dI) G0 2 [bo, ou] s.heap), (jFy, jYb dC dI G0), (jFdo, jDcc dC dI ca G0 none ph)] H_5 locs_5 := (((hh_2.call hb_51 hb_52 hb_53 hb_54 hS_5 rfl (L1 := [(r0, 13, 4, .ref bo), (bo, 2, 1, .int pc), (bo, 2, 0, .ref pa), (r0, 13, 3, .ref ou), (r0, 13, 7, .ref op), (op, 1, 2, .int sz)]) [0, 1, 2, 3, 4, 5] rfl rfl (M1 := []) [] rfl rfl (I1 := [([(2, 0), (2, 1)], jOl (dC, dI) G0 2 [bo, ou] s.heap), (jFy, jYb dC dI G0), (jFdo, jDcc dC dI ca G0 none ph)]) [1, 2, 3] rfl rfl).more hb_55)).addIs hbE_5
    clear hh_2 ht_5 hvm_5 hz_5 hk_5 hS_5 hb_51 hb_52 hb_53 hb_54 hb_55
    clear  hbE_5
    refine lv_istore_n (lv' := [(2, .int r_6), (1, .null), (0, .ref r0)]) hx hb dX11_closeDocument_10 rfl hl (by decide) rfl (fun ls hl => ?_)
    refine j7_nld_n hx hb dX11_closeDocument_11 rfl (lv_at hl 1 rfl) ?_
    refine lv_ifnullN (tgt := 19) hx hb dX11_closeDocument_12 (by decide) ?_
    have hsz_7 := hh_5.2.2.2.2.2.1
    have htt_7 := hh_5.2.2.2.2.2.2.1
    refine W.room (fun hrc_7 hrs_7 => ?_)
    refine W.widen (k := LC - s.heap.size) (n := LS - jTot s.heap) (by omega) (by omega) ?_
    rw [hQ]
    exact W.vret hx hb hr (fun t ht hW => ⟨⟨(pc, pa, n_pa, ph, G0), rfl, by (try dsimp only); exact ⟨(by first | omega | rfl | assumption | fail), (by first | omega | rfl | assumption | fail), (by first | omega | rfl | assumption | fail), (by first | omega | rfl | assumption | fail), (by first | assumption | fail | omega), (by first | omega | rfl | assumption | fail)⟩, ⟨hh_5.ra (by first | omega | (simp only; omega)) (by first | omega | (simp only; omega)) (M1 := [(bo, 2, 1, .int pc), (bo, 2, 0, .ref pa)]) [1, 2] rfl ht, hg_pa, jNk.rf, by rw [ht]; exact hh_5.iv 1 rfl, by rw [ht]; exact hh_5.2.2.2.2.2.2.2.2.sub (L1 := [(jFy, jYb dC dI G0), (jFl, jLs dC dI ca G0 3 none), (jFdo, jDcc dC dI ca G0 none ph)]) [2, 0, 3] rfl⟩⟩, by rw [ht]; try exact hh_5.1.1, fun q h9 hq => by rw [ht]; try exact hh_5.1.2.1 q h9 hq⟩) hh_5.1.2.2 dX11_closeDocument_19
  · skip
    refine lv_astore_n (lv' := [(1, .ref ret_4), (0, .ref r0)]) hx hb dX11_closeDocument_4 rfl hl (by decide) rfl (fun ls hl => ?_)
    refine lv_aload_n hx hb dX11_closeDocument_5 rfl (lv_at hl 1 rfl) ?_
    refine lv_aload_n hx hb dX11_closeDocument_6 rfl (lv_at hl 0 rfl) ?_
    have hsz_8 := hh_2.2.2.2.2.2.1
    have htt_8 := hh_2.2.2.2.2.2.2.1
    refine W.room (fun hrc_8 hrs_8 => ?_)
    refine va_calli (A0 := jA base) (H0 := s.heap) (va_runV (As := [.ref ret_4]) (rest := []) ⟨hx, hb, hml, hown, hts⟩ (uX11_numberOf l dC dI ca base B hB hAp hB1 hB3 hB13 hB221 G0 H_2 r0 ret_4 op sz) (cwV 1 hts (jgV (jWr_43 _ (List.mem_of_getElem? (i := 14) rfl)) (jWr_43 _ (List.mem_of_getElem? (i := 15) rfl)) (jWr_43 _ (List.mem_of_getElem? (i := 16) rfl)) (jWr_1 _ (List.mem_of_getElem? (i := 2) rfl)) (jWr_43 _ (List.mem_of_getElem? (i := 17) rfl))) rfl rfl rfl (by decide +kernel) ⟨by rw [← hR]; exact Nat.le_of_ble_eq_true rfl, by rw [← hR]; exact Nat.le_of_ble_eq_true rfl⟩) ⟨fun a U g mk q => by obtain ⟨q0, q1, q2, qK, q10, q11, q12, q13, q14, q15, q16⟩ := q; exact ⟨q0, q1, q2, jG.calling g mk a qK, (jK7.calling g mk a q10), q11, q12, q13, q14, q15, q16⟩, hh_2.recv (C := RX11) (T := TX11) (N := 19) hB13 rfl (by decide) hg_r0 hK, fun U hU hW => ⟨rfl, hU, hh_2.2.1, hG.step hW hU hh_2.1, (hK7.step hW hU hh_2.1), hg_r0, hg_ret_4, hg_op, (hh_2.2.2.1.sub (L1 := [(r0, 13, 7, .ref op), (op, 1, 2, .int sz)]) [4, 5] rfl), (hh_2.2.2.2.2.2.2.2.2.sub (L1 := [(jFl, jLs dC dI ca G0 3 none)]) [0] rfl), ⟨(by first | omega | rfl | assumption | fail), (by first | omega | rfl | assumption | fail)⟩⟩⟩ rfl rfl hl.1 rfl (lv_room (Nat.le_of_ble_eq_true rfl)) dX11_closeDocument_7 ⟨by rw [hRc]; show _ + 0 ≤ _; omega, by rw [hRs]; show _ + 0 ≤ _; omega⟩) hh_2.1 (fun q _ h => h) (fun q h => h) (fun r_9 u_8 t_8 H_8 locs_8 ht_8 hvm_8 hr_9 hb_8 hz_8 hk_8 hS_8 => ?_)
    rw [ht_8] at hb_8
    obtain ⟨hb_8, hbE_8⟩ := hb_8
    obtain ⟨hb_81, hb_82, hb_83, hb_84, hb_85⟩ := hb_8
    have hh_8 : jSt (dC, dI) B base G0 G0 EX11_closeDocumentE s.heap 0 0 [(r0, 13, 4, .ref bo), (bo, 2, 1, .int pc), (bo, 2, 0, .ref pa), (r0, 13, 3, .ref ou), (r0, 13, 7, .ref op), (op, 1, 2, .int sz)] [] [(jFl, jLs dC dI ca G0 3 none), ([(2, 0), (2, 1)], jOl (dC, dI) G0 2 [bo, ou] s.heap), (jFy, jYb dC dI G0), (jFdo, jDcc dC dI ca G0 none ph)] H_8 locs_8 := (((hh_2.call hb_81 hb_82 hb_83 hb_84 hS_8 rfl (L1 := [(r0, 13, 4, .ref bo), (bo, 2, 1, .int pc), (bo, 2, 0, .ref pa), (r0, 13, 3, .ref ou), (r0, 13, 7, .ref op), (op, 1, 2, .int sz)]) [0, 1, 2, 3, 4, 5] rfl rfl (M1 := []) [] rfl rfl (I1 := [([(2, 0), (2, 1)], jOl (dC, dI) G0 2 [bo, ou] s.heap), (jFy, jYb dC dI G0), (jFdo, jDcc dC dI ca G0 none ph)]) [1, 2, 3] rfl rfl).more hb_85)).addIs hbE_8
    clear hh_2 ht_8 hvm_8 hz_8 hk_8 hS_8 hb_81 hb_82 hb_83 hb_84 hb_85
    clear  hbE_8
    obtain ⟨hr_9_0, hr_9_1⟩ := hr_9
    refine lv_istore_n (lv' := [(2, .int r_9), (1, .ref ret_4), (0, .ref r0)]) hx hb dX11_closeDocument_10 rfl hl (by decide) rfl (fun ls hl => ?_)
    refine lv_aload_n hx hb dX11_closeDocument_11 rfl (lv_at hl 1 rfl) ?_
    refine lv_ifnull hx hb dX11_closeDocument_12 ?_
    refine lv_iload_n hx hb dX11_closeDocument_15 rfl (lv_at hl 0 rfl) ?_
    refine lv_if_ge (tgt := 20) hx hb dX11_closeDocument_16 (by decide) (fun c_10 => ?_) (fun c_10 => ?_)
    · skip
      have c_10' : r_9.toInt ≥ 0 := jb_ge (rfl) ((by decide)) c_10
      first | (have hr_9_1q := hr_9_1.resolve_left (by omega); clear hr_9_1) | (have hr_9_1q := hr_9_1.resolve_right (by omega); clear hr_9_1) | skip
      obtain ⟨yb_11, ye_11, w_11, pho_11, fb_11, fe_11, ps_11, pk_11, vc_11, hgb_11, hge_11, h5_11, h6_11, hd_11, hpq_11, hE_11, hpl_11, hpw_11⟩ := jDcc.opn (hh_8.iv 3 rfl) hg_ret_4
      have hpw_11 := hpw_11 rfl
      have hh_13 := hh_8.sub (L1 := [(r0, 13, 4, .ref bo), (bo, 2, 1, .int pc), (bo, 2, 0, .ref pa), (r0, 13, 3, .ref ou), (r0, 13, 7, .ref op), (op, 1, 2, .int sz)]) [0, 1, 2, 3, 4, 5] rfl (M1 := []) [] rfl (I1 := [(jFl, jLs dC dI ca G0 3 none), ([(2, 0), (2, 1)], jOl (dC, dI) G0 2 [bo, ou] s.heap), (jFy, jYb dC dI G0)]) [0, 1, 2] rfl
      clear hh_8
      have hh_14 := (hh_13.more (P1 := [(ret_4, 3, 4, .int ps_11), (ret_4, 3, 10, .int pk_11), (ret_4, 3, 5, .ref yb_11), (ret_4, 3, 6, .ref ye_11)]) (jP.cons hg_ret_4 (hd_11.1 _ (List.mem_of_getElem? (i := 0) rfl)).2 (jP.cons hg_ret_4 (hd_11.1 _ (List.mem_of_getElem? (i := 1) rfl)).2 (jP.cons hg_ret_4 h5_11 (jP.cons hg_ret_4 h6_11 jP.nil))))).moreM hd_11.2.1
      have hh_15 := hh_14.addI (jDcc.ie hE_11)
      clear hh_14
      have hps_11 := hd_11.2.2.2
      have hsn_11 := hd_11.2.2.1
      obtain ⟨v_16, hv_16, hh_11⟩ := hh_15.pin (C := RX1) (T := TX1) (N := 17) hB3 rfl (by decide) hg_ret_4 (i := 11) (by decide) rfl
      have hvq_11 : vc_11 = v_16 := jf.uniq (hd_11.1 _ (List.mem_of_getElem? (i := 2) rfl)).2 (hh_11.at 0 rfl)
      subst hvq_11
      clear hh_15
      rcases hv_16 with rfl | ⟨chk_17, nchk_17, rfl, hg_chk_17, hlen_chk_17⟩
      · have hpo_11 := jPo.nul (hpq_11 rfl)
        refine lv_aload_n hx hb dX11_closeDocument_20 rfl (lv_at hl 2 rfl) ?_
        refine lv_aload_n hx hb dX11_closeDocument_21 rfl (lv_at hl 1 rfl) ?_
        have hsz_19 := hh_11.2.2.2.2.2.1
        have htt_19 := hh_11.2.2.2.2.2.2.1
        refine W.room (fun hrc_19 hrs_19 => ?_)
        refine va_callv (A0 := jA base) (H0 := s.heap) (va_runV (As := [.ref ret_4]) (rest := []) ⟨hx, hb, hml, hown, hts⟩ (uX11_releaseE l dC dI ca base B hB hAp hB3 hB11 hB13 hB101 hB212 G0 H_8 r0 ret_4 yb_11 ye_11 (pho_11)) (cwV 1 hts (jgV (jWr_43 _ (List.mem_of_getElem? (i := 3) rfl)) (jWr_43 _ (List.mem_of_getElem? (i := 4) rfl)) (jWr_43 _ (List.mem_of_getElem? (i := 5) rfl)) (jWr_1 _ (List.mem_of_getElem? (i := 2) rfl)) (jWr_43 _ (List.mem_of_getElem? (i := 6) rfl))) rfl rfl rfl (by decide +kernel) ⟨by rw [← hR]; exact Nat.le_of_ble_eq_true rfl, by rw [← hR]; exact Nat.le_of_ble_eq_true rfl⟩) ⟨fun a U g mk q => by obtain ⟨q0, q1, q2, qK, q10, q11, q12, q13, q14, q15, q16, q17⟩ := q; exact ⟨q0, q1, q2, jG.calling g mk a qK, (va_K.moved (Vm.Alike.refl U.vm) q10), q11, q12, q13, q14, q15, q16, q17⟩, hh_11.recv (C := RX11) (T := TX11) (N := 19) hB13 rfl (by decide) hg_r0 hK, fun U hU hW => ⟨rfl, hU, hh_11.2.1, hG.step hW hU hh_11.1, va_K.moved hW.alike hK2, hg_r0, hg_ret_4, hgb_11, hge_11, (hh_11.2.2.1.sub (L1 := [(ret_4, 3, 5, .ref yb_11), (ret_4, 3, 6, .ref ye_11)]) [3, 4] rfl), (hh_11.2.2.2.2.2.2.2.2.sub (L1 := [(jFdo, jDcc dC dI ca G0 (some ret_4) pho_11)]) [0] rfl), trivial⟩⟩ rfl rfl hl.1 rfl (lv_room (Nat.le_of_ble_eq_true rfl)) dX11_closeDocument_22 ⟨by rw [hRc]; show _ + 0 ≤ _; omega, by rw [hRs]; show _ + 0 ≤ _; omega⟩) hh_11.1 (fun q _ h => h) (fun q h => h) (fun u_19 t_19 H_19 locs_19 ht_19 hvm_19 hr_20 hb_19 hz_19 hk_19 hS_19 => ?_)
        rw [ht_19] at hb_19
        obtain ⟨hb_19, hbE_19⟩ := hb_19
        obtain ⟨hb_191, hb_192, hb_193, hb_194, hb_195⟩ := hb_19
        have hh_19 : jSt (dC, dI) B base G0 G0 EX11_closeDocumentE s.heap 0 0 [(ret_4, 3, 11, .null), (ret_4, 3, 4, .int ps_11), (ret_4, 3, 10, .int pk_11), (ret_4, 3, 5, .ref yb_11), (ret_4, 3, 6, .ref ye_11), (r0, 13, 4, .ref bo), (bo, 2, 1, .int pc), (bo, 2, 0, .ref pa), (r0, 13, 3, .ref ou), (r0, 13, 7, .ref op), (op, 1, 2, .int sz)] [(yb_11, 171, 40, ca 1, fb_11), (ye_11, 172, 40, ca 1, fe_11)] [(jFdo, jDcc dC dI ca G0 (some ret_4) pho_11), (jFl, jLs dC dI ca G0 3 none), ([(2, 0), (2, 1)], jOl (dC, dI) G0 2 [bo, ou] s.heap), (jFy, jYb dC dI G0)] H_19 locs_19 := (((hh_11.call hb_191 hb_192 hb_193 hb_194 hS_19 rfl (L1 := [(ret_4, 3, 4, .int ps_11), (ret_4, 3, 10, .int pk_11), (ret_4, 3, 5, .ref yb_11), (ret_4, 3, 6, .ref ye_11), (r0, 13, 4, .ref bo), (bo, 2, 1, .int pc), (bo, 2, 0, .ref pa), (r0, 13, 3, .ref ou), (r0, 13, 7, .ref op), (op, 1, 2, .int sz)]) [1, 2, 3, 4, 5, 6, 7, 8, 9, 10] rfl rfl (M1 := [(yb_11, 171, 40, ca 1, fb_11), (ye_11, 172, 40, ca 1, fe_11)]) [0, 1] rfl rfl (I1 := [(jFl, jLs dC dI ca G0 3 none), ([(2, 0), (2, 1)], jOl (dC, dI) G0 2 [bo, ou] s.heap), (jFy, jYb dC dI G0)]) [1, 2, 3] rfl rfl).more hb_195)).addIs hbE_19
        clear hh_11 ht_19 hvm_19 hz_19 hk_19 hS_19 hb_191 hb_192 hb_193 hb_194 hb_195
        clear  hbE_19
        obtain ⟨phn_21, hphn_21⟩ : ∃ q : Nat, q = pho_11 + (575 * (ps_11.toInt - pk_11.toInt) + (1500 - jEd fe_11 pk_11.toInt)).toNat := ⟨_, rfl⟩
        have hF_21 := jDcc.full (ph1 := phn_21) (hh_19.iv 0 rfl) hg_ret_4 (hh_19.at 3 rfl) (hh_19.at 4 rfl) ⟨(hh_19.2.2.1.sub (L1 := [(ret_4, 3, 4, .int ps_11), (ret_4, 3, 10, .int pk_11), (ret_4, 3, 11, .null)]) [1, 2, 0] rfl), (hh_19.2.2.2.2.2.2.2.1.sub (L1 := [(yb_11, 171, 40, ca 1, fb_11), (ye_11, 172, 40, ca 1, fe_11)]) [0, 1] rfl), hsn_11, by omega⟩ (w := (575 * (ps_11.toInt - pk_11.toInt) + (1500 - jEd fe_11 pk_11.toInt)).toNat) (fun _ => jPo.mkN (by omega)) (by omega) (fun _ => by omega)
        have hh_22 := hh_19.sub (L1 := [(ret_4, 3, 11, .null), (ret_4, 3, 4, .int ps_11), (ret_4, 3, 10, .int pk_11), (ret_4, 3, 5, .ref yb_11), (ret_4, 3, 6, .ref ye_11), (r0, 13, 4, .ref bo), (bo, 2, 1, .int pc), (bo, 2, 0, .ref pa), (r0, 13, 3, .ref ou), (r0, 13, 7, .ref op), (op, 1, 2, .int sz)]) [0, 1, 2, 3, 4, 5, 6, 7, 8, 9, 10] rfl (M1 := [(yb_11, 171, 40, ca 1, fb_11), (ye_11, 172, 40, ca 1, fe_11)]) [0, 1] rfl (I1 := [(jFl, jLs dC dI ca G0 3 none), ([(2, 0), (2, 1)], jOl (dC, dI) G0 2 [bo, ou] s.heap), (jFy, jYb dC dI G0)]) [1, 2, 3] rfl
        clear hh_19
        have hh_23 := hh_22.addI (jDcc.ie hF_21)
        clear hh_22
        refine lv_aload_n hx hb dX11_closeDocument_25 rfl (lv_at hl 2 rfl) ?_
        refine lv_aload_n hx hb dX11_closeDocument_26 rfl (lv_at hl 1 rfl) ?_
        have hsz_24 := hh_23.2.2.2.2.2.1
        have htt_24 := hh_23.2.2.2.2.2.2.1
        refine W.room (fun hrc_24 hrs_24 => ?_)
        refine va_callv (A0 := jA base) (H0 := s.heap) (va_runV (As := [.ref ret_4]) (rest := []) ⟨hx, hb, hml, hown, hts⟩ (uX11_dismiss l dC dI ca base B hB hAp hB1 hB2 hB3 hB4 hB10 hB13 hB196 hB222 G0 H_19 r0 ret_4 bo pc pa n_pa ou op sz LC LS) (cwV 1 hts (jgV (jWr_42 _ (List.mem_of_getElem? (i := 1) rfl)) (jWr_42 _ (List.mem_of_getElem? (i := 2) rfl)) (jWr_42 _ (List.mem_of_getElem? (i := 3) rfl)) (jWr_1 _ (List.mem_of_getElem? (i := 2) rfl)) (jWr_42 _ (List.mem_of_getElem? (i := 4) rfl))) rfl rfl rfl (by decide +kernel) ⟨by rw [← hR]; exact Nat.le_of_ble_eq_true rfl, by rw [← hR]; exact Nat.le_of_ble_eq_true rfl⟩) ⟨fun a U g mk q => by obtain ⟨q0, q1, q2, qK, q10, q11, q12, q13, q14, q15, q16, q17, q18, q19, q20⟩ := q; exact ⟨q0, q1, q2, jG.calling g mk a qK, (jK5.moved (Vm.Alike.refl U.vm) q10), (jK7.calling g mk a q11), q12, q13, q14, q15, q16, q17, q18, q19, q20⟩, hh_23.recv (C := RX11) (T := TX11) (N := 19) hB13 rfl (by decide) hg_r0 hK, fun U hU hW => ⟨rfl, hU, hh_23.2.1, hG.step hW hU hh_23.1, jK5.moved hW.alike hK5, (hK7.step hW hU hh_23.1), hg_r0, hg_ret_4, hg_bo, hg_pa, hg_ou, hg_op, (hh_23.2.2.1.sub (L1 := [(r0, 13, 4, .ref bo), (bo, 2, 1, .int pc), (bo, 2, 0, .ref pa), (r0, 13, 3, .ref ou), (r0, 13, 7, .ref op), (op, 1, 2, .int sz)]) [5, 6, 7, 8, 9, 10] rfl), (hh_23.2.2.2.2.2.2.2.2.sub (L1 := [(jFy, jYb dC dI G0), (jFl, jLs dC dI ca G0 3 none)]) [3, 1] rfl), (by omega), (by omega), ⟨(by first | omega | rfl | assumption | fail), (by first | omega | rfl | assumption | fail), (by first | omega | rfl | assumption | fail), (by first | omega | rfl | assumption | fail), (by first | assumption | fail | omega)⟩⟩⟩ rfl rfl hl.1 rfl (lv_room (Nat.le_of_ble_eq_true rfl)) dX11_closeDocument_27 ⟨by rw [hRc]; omega, by rw [hRs]; omega⟩) hh_23.1 (fun q _ h => h) (fun q h => h) (fun u_24 t_24 H_24 locs_24 ht_24 hvm_24 hr_25 hb_24 hz_24 hk_24 hS_24 => ?_)
        obtain ⟨qc_24, qz_24, qa_24, m_qa_24, G_24⟩ := u_24
        rw [ht_24] at hb_24
        simp only at hb_24
        obtain ⟨⟨hb_241, hb_242, hb_243, hb_244, hb_245, hb_246⟩, hgq_24_0, hN_24, hbO_24, hbE_24⟩ := hb_24
        have hh_24 : jSt (dC, dI) B base G0 G_24 EX11_closeDocumentE s.heap (0 + ((m_qa_24 - n_pa) / 16)) (0 + (2 * (m_qa_24 - n_pa))) [(bo, 2, 1, .int qc_24), (op, 1, 2, .int qz_24), (bo, 2, 0, .ref qa_24), (ret_4, 3, 11, .null), (ret_4, 3, 4, .int ps_11), (ret_4, 3, 10, .int pk_11), (ret_4, 3, 5, .ref yb_11), (ret_4, 3, 6, .ref ye_11), (r0, 13, 4, .ref bo), (r0, 13, 3, .ref ou), (r0, 13, 7, .ref op)] [(yb_11, 171, 40, ca 1, fb_11), (ye_11, 172, 40, ca 1, fe_11)] [(jFdo, jDcc dC dI ca G0 none phn_21)] H_24 locs_24 := (hh_23.callG hb_241 hb_242 hb_243 hb_244 hb_245 hS_24 rfl (L1 := [(ret_4, 3, 11, .null), (ret_4, 3, 4, .int ps_11), (ret_4, 3, 10, .int pk_11), (ret_4, 3, 5, .ref yb_11), (ret_4, 3, 6, .ref ye_11), (r0, 13, 4, .ref bo), (r0, 13, 3, .ref ou), (r0, 13, 7, .ref op)]) [0, 1, 2, 3, 4, 5, 8, 9] rfl rfl (M1 := [(yb_11, 171, 40, ca 1, fb_11), (ye_11, 172, 40, ca 1, fe_11)]) [0, 1] rfl rfl (I1 := [(jFdo, jDcc dC dI ca G0 none phn_21)]) [0] rfl rfl).more hb_246
        have hNn_24 : (jNk [0, 1, 2, 3, 4, 5, 6, 7, 8, 9, 10, 11, 12, 13, 14, 15, 16]) G0 G_24 := (jNk.rf).tr hN_24
        have hg_26 := hb_242 _ _ hg_ret_4
        have hg_27 := hb_242 _ _ hg_r0
        have hg_28 := hb_242 _ _ hgb_11
        have hg_29 := hb_242 _ _ hge_11
        have hg_30 := hb_242 _ _ hg_bo
        have hg_31 := hb_242 _ _ hg_ou
        have hg_32 := hb_242 _ _ hg_op
        have hd_33 := jDcc.grow (hh_24.iv 0 rfl) hb_242 hN_24 (by decide)
        have hh_34 := hh_24.sub (L1 := [(bo, 2, 1, .int qc_24), (op, 1, 2, .int qz_24), (bo, 2, 0, .ref qa_24), (ret_4, 3, 11, .null), (ret_4, 3, 4, .int ps_11), (ret_4, 3, 10, .int pk_11), (ret_4, 3, 5, .ref yb_11), (ret_4, 3, 6, .ref ye_11), (r0, 13, 4, .ref bo), (r0, 13, 3, .ref ou), (r0, 13, 7, .ref op)]) [0, 1, 2, 3, 4, 5, 6, 7, 8, 9, 10] rfl (M1 := [(yb_11, 171, 40, ca 1, fb_11), (ye_11, 172, 40, ca 1, fe_11)]) [0, 1] rfl (I1 := []) [] rfl
        clear hh_24
        have hh_35 := hh_34.addI (jDcc.ie hd_33)
        clear hh_34
        have hh_36 := hh_35.addIs hbE_24
        have hd_37 := jOl.trL (hh_23.iv 2 rfl) hh_23.2.2.2.2.1 hbO_24 (by simp)
        have hh_38 := hh_36.addI (jOl.ie (dC := dC) (dI := dI) (G0 := G0) (k := 2) (rs := [bo, ou]) (H0 := s.heap) (F := [(2, 0), (2, 1)]) (C := RX0) (T := TX0) (N := 2) rfl (by decide) hh_36.2.2.2.2.1 (hd_37))
        clear hh_36
        try simp only at hr_25
        obtain ⟨hr_25_0, hr_25_1, hr_25_2, hr_25_3, hr_25_4, hr_25_5⟩ := hr_25
        have hh_39 := hh_38.wk (zc1 := (m_qa_24 - n_pa) / 16) (zs1 := 2 * (m_qa_24 - n_pa)) (by omega) (by omega)
        clear hh_38
        try clear hsz_24 htt_24 hrc_24 hrs_24
        try clear hb_244 hb_245
        refine lv_aload_n hx hb dX11_closeDocument_30 rfl (lv_at hl 2 rfl) ?_
        refine j7_read hx hb hown hK (C := RX11) (T := TX11) (N := 19) rfl hly_13_7 hlk_61 (hh_39.at 10 rfl) dX11_closeDocument_31 ?_
        refine lv_iload_n hx hb dX11_closeDocument_34 rfl (lv_at hl 0 rfl) ?_
        have hsz_40 := hh_39.2.2.2.2.2.1
        have htt_40 := hh_39.2.2.2.2.2.2.1
        refine W.room (fun hrc_40 hrs_40 => ?_)
        refine j_callFx (A0 := jA base) (H0 := s.heap) (va_runF (hK.1 1 _ rfl).2 (As := [.int r_9]) (rest := []) ⟨hx, hb, hml, hown, hts⟩ (uJx4a65c_remove_915e3L1 l dC dI ca base B hB hAp hB1 hB3 hB221 G_24 H_24 op r_9 qz_24) (va_cwF 1 hts (jgF (jWr_42 _ (List.mem_of_getElem? (i := 7) rfl)) (jWr_42 _ (List.mem_of_getElem? (i := 8) rfl)) (jWr_42 _ (List.mem_of_getElem? (i := 9) rfl)) (jWr_2 _ (List.mem_of_getElem? (i := 13) rfl)) (jWr_42 _ (List.mem_of_getElem? (i := 10) rfl))) rfl rfl rfl hK7.2.2.2.2.2.1.2.2.2 ⟨by decide, by decide, by decide +kernel⟩ ⟨by rw [← hR]; exact Nat.le_of_ble_eq_true rfl, by rw [← hR]; exact Nat.le_of_ble_eq_true rfl⟩) ⟨fun a U g mk q => by obtain ⟨q0, q1, q2, qK, q10, q11, q12, q13, q14⟩ := q; exact ⟨q0, q1, q2, jG.calling g mk a qK, (jK7.calling g mk a q10), q11, q12, q13, q14⟩, hh_39.recv (C := RJx4a65c) (T := TJx4a65c) (N := 3) hB1 rfl (by decide) hg_32 hK, fun U hU hW => ⟨rfl, hU, hh_39.2.1, hG.step hW hU hh_39.1, (hK7.step hW hU hh_39.1), hg_32, (hh_39.2.2.1.sub (L1 := [(op, 1, 2, .int qz_24)]) [1] rfl), (hh_39.2.2.2.2.2.2.2.2.sub (L1 := [(jFl, jLs dC dI ca G_24 3 none)]) [2] rfl), ⟨(by first | omega | rfl | assumption | fail), (by first | omega | rfl | assumption | fail)⟩⟩⟩ rfl rfl hl.1 rfl (lv_room (Nat.le_of_ble_eq_true rfl)) dX11_closeDocument_35 ⟨by rw [hRc]; show _ + 0 ≤ _; omega, by rw [hRs]; show _ + 0 ≤ _; omega⟩) hh_39.1 (fun q _ h => h) (fun q h => h) (fun r_41 u_40 t_40 H_40 locs_40 ht_40 hvm_40 hr_41 hb_40 hz_40 hk_40 hS_40 => ?_)
        obtain ⟨qz_40, rfl⟩ : ∃ z, z = u_40 := ⟨_, rfl⟩
        rw [ht_40] at hb_40
        obtain ⟨hb_40, hbE_40⟩ := hb_40
        obtain ⟨hb_40, hbO_40⟩ := hb_40
        obtain ⟨hb_401, hb_402, hb_403, hb_404, hb_405⟩ := hb_40
        have hh_40 : jSt (dC, dI) B base G0 G_24 EX11_closeDocumentE s.heap ((m_qa_24 - n_pa) / 16) (2 * (m_qa_24 - n_pa)) [(op, 1, 2, .int qz_40), (bo, 2, 1, .int qc_24), (bo, 2, 0, .ref qa_24), (ret_4, 3, 11, .null), (ret_4, 3, 4, .int ps_11), (ret_4, 3, 10, .int pk_11), (ret_4, 3, 5, .ref yb_11), (ret_4, 3, 6, .ref ye_11), (r0, 13, 4, .ref bo), (r0, 13, 3, .ref ou), (r0, 13, 7, .ref op)] [(yb_11, 171, 40, ca 1, fb_11), (ye_11, 172, 40, ca 1, fe_11)] [(jFl, jLs dC dI ca G_24 3 none), ([(2, 0), (2, 1)], jOl (dC, dI) G0 2 [bo, ou] s.heap), (jFy, jYb dC dI G_24), (jFdo, jDcc dC dI ca G_24 none phn_21)] H_40 locs_40 := (((hh_39.call hb_401 hb_402 hb_403 hb_404 hS_40 rfl (L1 := [(bo, 2, 1, .int qc_24), (bo, 2, 0, .ref qa_24), (ret_4, 3, 11, .null), (ret_4, 3, 4, .int ps_11), (ret_4, 3, 10, .int pk_11), (ret_4, 3, 5, .ref yb_11), (ret_4, 3, 6, .ref ye_11), (r0, 13, 4, .ref bo), (r0, 13, 3, .ref ou), (r0, 13, 7, .ref op)]) [0, 2, 3, 4, 5, 6, 7, 8, 9, 10] rfl rfl (M1 := [(yb_11, 171, 40, ca 1, fb_11), (ye_11, 172, 40, ca 1, fe_11)]) [0, 1] rfl rfl (I1 := [([(2, 0), (2, 1)], jOl (dC, dI) G0 2 [bo, ou] s.heap), (jFy, jYb dC dI G_24), (jFdo, jDcc dC dI ca G_24 none phn_21)]) [0, 1, 3] rfl rfl).more hb_405)).addIs hbE_40
        clear hh_39 ht_40 hvm_40 hz_40 hk_40 hS_40 hb_401 hb_402 hb_403 hb_404 hb_405
        clear  hbE_40
        obtain ⟨hr_41, hr_41p⟩ := hr_41
        obtain ⟨ret_42, rfl, hg_ret_42⟩ := hr_41
        refine lv_pop hx hb dX11_closeDocument_40 rfl ?_
        refine lv_aload_n hx hb dX11_closeDocument_41 rfl (lv_at hl 2 rfl) ?_
        refine lv_aload_n hx hb dX11_closeDocument_42 rfl (lv_at hl 1 rfl) ?_
        refine lv_iconst (v := 0) hx hb dX11_closeDocument_43 (by decide) ?_
        have hsz_43 := hh_40.2.2.2.2.2.1
        have htt_43 := hh_40.2.2.2.2.2.2.1
        refine W.room (fun hrc_43 hrs_43 => ?_)
        refine va_callv (A0 := jA base) (H0 := s.heap) (va_runV (As := [.ref ret_4, .int 0]) (rest := []) ⟨hx, hb, hml, hown, hts⟩ (uX11_publish l dC dI ca base B hB hAp hB2 hB3 hB4 hB11 hB13 hB101 hB171 hB172 hB196 hB210 G_24 H_40 r0 ret_4 0 bo qc_24 qa_24 m_qa_24 ou LC LS) (cwV 2 hts (jgV (jWr_39 _ (List.mem_of_getElem? (i := 19) rfl)) (jWr_39 _ (List.mem_of_getElem? (i := 20) rfl)) (jWr_39 _ (List.mem_of_getElem? (i := 21) rfl)) (jWr_1 _ (List.mem_of_getElem? (i := 2) rfl)) (jWr_39 _ (List.mem_of_getElem? (i := 22) rfl))) rfl rfl rfl (by decide +kernel) ⟨by rw [← hR]; exact Nat.le_of_ble_eq_true rfl, by rw [← hR]; exact Nat.le_of_ble_eq_true rfl⟩) ⟨fun a U g mk q => by obtain ⟨q0, q1, q2, qK, q10, q11, q12, q13, q14, q15, q16, q17, q18, q19⟩ := q; exact ⟨q0, q1, q2, jG.calling g mk a qK, (va_K.moved (Vm.Alike.refl U.vm) q10), q11, q12, q13, q14, q15, q16, q17, q18, q19⟩, hh_40.recv (C := RX11) (T := TX11) (N := 19) hB13 rfl (by decide) hg_27 hK, fun U hU hW => ⟨rfl, hU, hh_40.2.1, hG.step hW hU hh_40.1, va_K.moved hW.alike hK2, hg_26, hg_27, (Or.inl rfl), hg_30, hgq_24_0, hg_31, (hh_40.2.2.1.sub (L1 := [(r0, 13, 4, .ref bo), (bo, 2, 1, .int qc_24), (bo, 2, 0, .ref qa_24), (r0, 13, 3, .ref ou)]) [8, 1, 2, 9] rfl), (hh_40.2.2.2.2.2.2.2.2.sub (L1 := [(jFy, jYb dC dI G_24)]) [2] rfl), (by omega), (by omega), ⟨(by first | omega | rfl | assumption | fail), (by first | omega | rfl | assumption | fail), (by first | omega | rfl | assumption | fail), (by first | omega | rfl | assumption | fail), (by first | assumption | fail | omega)⟩⟩⟩ rfl rfl hl.1 rfl (lv_room (Nat.le_of_ble_eq_true rfl)) dX11_closeDocument_44 ⟨by rw [hRc]; omega, by rw [hRs]; omega⟩) hh_40.1 (fun q _ h => h) (fun q h => h) (fun u_43 t_43 H_43 locs_43 ht_43 hvm_43 hr_44 hb_43 hz_43 hk_43 hS_43 => ?_)
        obtain ⟨qc_43, qa_43, m_qa_43, G_43⟩ := u_43
        rw [ht_43] at hb_43
        simp only at hb_43
        obtain ⟨⟨hb_431, hb_432, hb_433, hb_434, hb_435, hb_436⟩, hgq_43_0, hN_43, hbO_43, hbE_43⟩ := hb_43
        have hh_43 : jSt (dC, dI) B base G0 G_43 EX11_closeDocumentE s.heap (((m_qa_24 - n_pa) / 16) + ((m_qa_43 - m_qa_24) / 16)) ((2 * (m_qa_24 - n_pa)) + (2 * (m_qa_43 - m_qa_24))) [(bo, 2, 1, .int qc_43), (bo, 2, 0, .ref qa_43), (op, 1, 2, .int qz_40), (ret_4, 3, 11, .null), (ret_4, 3, 4, .int ps_11), (ret_4, 3, 10, .int pk_11), (ret_4, 3, 5, .ref yb_11), (ret_4, 3, 6, .ref ye_11), (r0, 13, 4, .ref bo), (r0, 13, 3, .ref ou), (r0, 13, 7, .ref op)] [(yb_11, 171, 40, ca 1, fb_11), (ye_11, 172, 40, ca 1, fe_11)] [(jFl, jLs dC dI ca G_24 3 none), (jFdo, jDcc dC dI ca G_24 none phn_21)] H_43 locs_43 := (hh_40.callG hb_431 hb_432 hb_433 hb_434 hb_435 hS_43 rfl (L1 := [(op, 1, 2, .int qz_40), (ret_4, 3, 11, .null), (ret_4, 3, 4, .int ps_11), (ret_4, 3, 10, .int pk_11), (ret_4, 3, 5, .ref yb_11), (ret_4, 3, 6, .ref ye_11), (r0, 13, 4, .ref bo), (r0, 13, 3, .ref ou), (r0, 13, 7, .ref op)]) [0, 3, 4, 5, 6, 7, 8, 9, 10] rfl rfl (M1 := [(yb_11, 171, 40, ca 1, fb_11), (ye_11, 172, 40, ca 1, fe_11)]) [0, 1] rfl rfl (I1 := [(jFl, jLs dC dI ca G_24 3 none), (jFdo, jDcc dC dI ca G_24 none phn_21)]) [0, 3] rfl rfl).more hb_436
        have hNn_43 : (jNk [0, 1, 2, 3, 4, 5, 6, 7, 8, 9, 10, 11, 12, 13, 14, 15, 16]) G0 G_43 := (hNn_24).tr hN_43
        have hg_45 := hb_432 _ _ hg_26
        have hg_46 := hb_432 _ _ hg_27
        have hg_47 := hb_432 _ _ hg_28
        have hg_48 := hb_432 _ _ hg_29
        have hg_49 := hb_432 _ _ hg_30
        have hg_50 := hb_432 _ _ hg_31
        have hg_51 := hb_432 _ _ hg_32
        have hd_52 := jLs.grow (hh_43.iv 0 rfl) hb_432 hN_43 (by decide)
        have hh_53 := hh_43.sub (L1 := [(bo, 2, 1, .int qc_43), (bo, 2, 0, .ref qa_43), (op, 1, 2, .int qz_40), (ret_4, 3, 11, .null), (ret_4, 3, 4, .int ps_11), (ret_4, 3, 10, .int pk_11), (ret_4, 3, 5, .ref yb_11), (ret_4, 3, 6, .ref ye_11), (r0, 13, 4, .ref bo), (r0, 13, 3, .ref ou), (r0, 13, 7, .ref op)]) [0, 1, 2, 3, 4, 5, 6, 7, 8, 9, 10] rfl (M1 := [(yb_11, 171, 40, ca 1, fb_11), (ye_11, 172, 40, ca 1, fe_11)]) [0, 1] rfl (I1 := [(jFdo, jDcc dC dI ca G_24 none phn_21)]) [1] rfl
        clear hh_43
        have hh_54 := hh_53.addI (jLs.ie hd_52)
        clear hh_53
        have hd_55 := jDcc.grow (hh_54.iv 1 rfl) hb_432 hN_43 (by decide)
        have hh_56 := hh_54.sub (L1 := [(bo, 2, 1, .int qc_43), (bo, 2, 0, .ref qa_43), (op, 1, 2, .int qz_40), (ret_4, 3, 11, .null), (ret_4, 3, 4, .int ps_11), (ret_4, 3, 10, .int pk_11), (ret_4, 3, 5, .ref yb_11), (ret_4, 3, 6, .ref ye_11), (r0, 13, 4, .ref bo), (r0, 13, 3, .ref ou), (r0, 13, 7, .ref op)]) [0, 1, 2, 3, 4, 5, 6, 7, 8, 9, 10] rfl (M1 := [(yb_11, 171, 40, ca 1, fb_11), (ye_11, 172, 40, ca 1, fe_11)]) [0, 1] rfl (I1 := [(jFl, jLs dC dI ca G_43 3 none)]) [0] rfl
        clear hh_54
        have hh_57 := hh_56.addI (jDcc.ie hd_55)
        clear hh_56
        have hh_58 := hh_57.addIs hbE_43
        have hd_59 := jOl.trL (hh_40.iv 1 rfl) hh_40.2.2.2.2.1 hbO_43 (by simp)
        have hh_60 := hh_58.addI (jOl.ie (dC := dC) (dI := dI) (G0 := G0) (k := 2) (rs := [bo, ou]) (H0 := s.heap) (F := [(2, 0), (2, 1)]) (C := RX0) (T := TX0) (N := 2) rfl (by decide) hh_58.2.2.2.2.1 (hd_59))
        clear hh_58
        try simp only at hr_44
        obtain ⟨hr_44_0, hr_44_1, hr_44_2, hr_44_3, hr_44_4⟩ := hr_44
        have hh_61 := hh_60.wk (zc1 := (m_qa_43 - n_pa) / 16) (zs1 := 2 * (m_qa_43 - n_pa)) (by omega) (by omega)
        clear hh_60
        try clear hsz_43 htt_43 hrc_43 hrs_43
        try clear hb_434 hb_435
        have hsz_62 := hh_61.2.2.2.2.2.1
        have htt_62 := hh_61.2.2.2.2.2.2.1
        refine W.room (fun hrc_62 hrs_62 => ?_)
        refine W.widen (k := LC - s.heap.size) (n := LS - jTot s.heap) (by omega) (by omega) ?_
        rw [hQ]
        exact W.vret hx hb hr (fun t ht hW => ⟨⟨(qc_43, qa_43, m_qa_43, phn_21, G_43), rfl, by (try dsimp only); exact ⟨(by first | omega | rfl | assumption | fail), (by first | omega | rfl | assumption | fail), (by first | omega | rfl | assumption | fail), (by first | omega | rfl | assumption | fail), (by first | assumption | fail | omega), (by first | omega | rfl | assumption | fail)⟩, ⟨hh_61.ra (by first | omega | (simp only; omega)) (by first | omega | (simp only; omega)) (M1 := [(bo, 2, 1, .int qc_43), (bo, 2, 0, .ref qa_43)]) [0, 1] rfl ht, hgq_43_0, hNn_43, by rw [ht]; exact hh_61.iv 0 rfl, by rw [ht]; exact hh_61.2.2.2.2.2.2.2.2.sub (L1 := [(jFy, jYb dC dI G_43), (jFl, jLs dC dI ca G_43 3 none), (jFdo, jDcc dC dI ca G_43 none phn_21)]) [1, 3, 2] rfl⟩⟩, by rw [ht]; try exact hh_61.1.1, fun q h9 hq => by rw [ht]; try exact hh_61.1.2.1 q h9 hq⟩) hh_61.1.2.2 dX11_closeDocument_47
      · have hpo_11 := jPo.rf (hpq_11 rfl)
        have hnx_11 := jEd.nx hsn_11 (k := pk_11.toInt) (by omega) (by omega)
        refine lv_aload_n hx hb dX11_closeDocument_20 rfl (lv_at hl 2 rfl) ?_
        refine lv_aload_n hx hb dX11_closeDocument_21 rfl (lv_at hl 1 rfl) ?_
        have hsz_64 := hh_11.2.2.2.2.2.1
        have htt_64 := hh_11.2.2.2.2.2.2.1
        refine W.room (fun hrc_64 hrs_64 => ?_)
        refine va_callv (A0 := jA base) (H0 := s.heap) (va_runV (As := [.ref ret_4]) (rest := []) ⟨hx, hb, hml, hown, hts⟩ (uX11_releaseE l dC dI ca base B hB hAp hB3 hB11 hB13 hB101 hB212 G0 H_8 r0 ret_4 yb_11 ye_11 (pho_11)) (cwV 1 hts (jgV (jWr_43 _ (List.mem_of_getElem? (i := 3) rfl)) (jWr_43 _ (List.mem_of_getElem? (i := 4) rfl)) (jWr_43 _ (List.mem_of_getElem? (i := 5) rfl)) (jWr_1 _ (List.mem_of_getElem? (i := 2) rfl)) (jWr_43 _ (List.mem_of_getElem? (i := 6) rfl))) rfl rfl rfl (by decide +kernel) ⟨by rw [← hR]; exact Nat.le_of_ble_eq_true rfl, by rw [← hR]; exact Nat.le_of_ble_eq_true rfl⟩) ⟨fun a U g mk q => by obtain ⟨q0, q1, q2, qK, q10, q11, q12, q13, q14, q15, q16, q17⟩ := q; exact ⟨q0, q1, q2, jG.calling g mk a qK, (va_K.moved (Vm.Alike.refl U.vm) q10), q11, q12, q13, q14, q15, q16, q17⟩, hh_11.recv (C := RX11) (T := TX11) (N := 19) hB13 rfl (by decide) hg_r0 hK, fun U hU hW => ⟨rfl, hU, hh_11.2.1, hG.step hW hU hh_11.1, va_K.moved hW.alike hK2, hg_r0, hg_ret_4, hgb_11, hge_11, (hh_11.2.2.1.sub (L1 := [(ret_4, 3, 5, .ref yb_11), (ret_4, 3, 6, .ref ye_11)]) [3, 4] rfl), (hh_11.2.2.2.2.2.2.2.2.sub (L1 := [(jFdo, jDcc dC dI ca G0 (some ret_4) pho_11)]) [0] rfl), trivial⟩⟩ rfl rfl hl.1 rfl (lv_room (Nat.le_of_ble_eq_true rfl)) dX11_closeDocument_22 ⟨by rw [hRc]; show _ + 0 ≤ _; omega, by rw [hRs]; show _ + 0 ≤ _; omega⟩) hh_11.1 (fun q _ h => h) (fun q h => h) (fun u_64 t_64 H_64 locs_64 ht_64 hvm_64 hr_65 hb_64 hz_64 hk_64 hS_64 => ?_)
        rw [ht_64] at hb_64
        obtain ⟨hb_64, hbE_64⟩ := hb_64
        obtain ⟨hb_641, hb_642, hb_643, hb_644, hb_645⟩ := hb_64
        have hh_64 : jSt (dC, dI) B base G0 G0 EX11_closeDocumentE s.heap 0 0 [(ret_4, 3, 11, .null), (ret_4, 3, 4, .int ps_11), (ret_4, 3, 10, .int pk_11), (ret_4, 3, 5, .ref yb_11), (ret_4, 3, 6, .ref ye_11), (r0, 13, 4, .ref bo), (bo, 2, 1, .int pc), (bo, 2, 0, .ref pa), (r0, 13, 3, .ref ou), (r0, 13, 7, .ref op), (op, 1, 2, .int sz)] [(yb_11, 171, 40, ca 1, fb_11), (ye_11, 172, 40, ca 1, fe_11)] [(jFdo, jDcc dC dI ca G0 (some ret_4) pho_11), (jFl, jLs dC dI ca G0 3 none), ([(2, 0), (2, 1)], jOl (dC, dI) G0 2 [bo, ou] s.heap), (jFy, jYb dC dI G0)] H_64 locs_64 := (((hh_11.call hb_641 hb_642 hb_643 hb_644 hS_64 rfl (L1 := [(ret_4, 3, 4, .int ps_11), (ret_4, 3, 10, .int pk_11), (ret_4, 3, 5, .ref yb_11), (ret_4, 3, 6, .ref ye_11), (r0, 13, 4, .ref bo), (bo, 2, 1, .int pc), (bo, 2, 0, .ref pa), (r0, 13, 3, .ref ou), (r0, 13, 7, .ref op), (op, 1, 2, .int sz)]) [1, 2, 3, 4, 5, 6, 7, 8, 9, 10] rfl rfl (M1 := [(yb_11, 171, 40, ca 1, fb_11), (ye_11, 172, 40, ca 1, fe_11)]) [0, 1] rfl rfl (I1 := [(jFl, jLs dC dI ca G0 3 none), ([(2, 0), (2, 1)], jOl (dC, dI) G0 2 [bo, ou] s.heap), (jFy, jYb dC dI G0)]) [1, 2, 3] rfl rfl).more hb_645)).addIs hbE_64
        clear hh_11 ht_64 hvm_64 hz_64 hk_64 hS_64 hb_641 hb_642 hb_643 hb_644 hb_645
        clear  hbE_64
        obtain ⟨phn_66, hphn_66⟩ : ∃ q : Nat, q = pho_11 + (575 * (ps_11.toInt - pk_11.toInt) + (1500 - jEd fe_11 pk_11.toInt)).toNat := ⟨_, rfl⟩
        have hF_66 := jDcc.full (ph1 := phn_66) (hh_64.iv 0 rfl) hg_ret_4 (hh_64.at 3 rfl) (hh_64.at 4 rfl) ⟨(hh_64.2.2.1.sub (L1 := [(ret_4, 3, 4, .int ps_11), (ret_4, 3, 10, .int pk_11), (ret_4, 3, 11, .null)]) [1, 2, 0] rfl), (hh_64.2.2.2.2.2.2.2.1.sub (L1 := [(yb_11, 171, 40, ca 1, fb_11), (ye_11, 172, 40, ca 1, fe_11)]) [0, 1] rfl), hsn_11, by omega⟩ (w := (575 * (ps_11.toInt - pk_11.toInt) + (1500 - jEd fe_11 pk_11.toInt)).toNat) (fun _ => jPo.mkN (by omega)) (by omega) (fun _ => by omega)
        have hh_67 := hh_64.sub (L1 := [(ret_4, 3, 11, .null), (ret_4, 3, 4, .int ps_11), (ret_4, 3, 10, .int pk_11), (ret_4, 3, 5, .ref yb_11), (ret_4, 3, 6, .ref ye_11), (r0, 13, 4, .ref bo), (bo, 2, 1, .int pc), (bo, 2, 0, .ref pa), (r0, 13, 3, .ref ou), (r0, 13, 7, .ref op), (op, 1, 2, .int sz)]) [0, 1, 2, 3, 4, 5, 6, 7, 8, 9, 10] rfl (M1 := [(yb_11, 171, 40, ca 1, fb_11), (ye_11, 172, 40, ca 1, fe_11)]) [0, 1] rfl (I1 := [(jFl, jLs dC dI ca G0 3 none), ([(2, 0), (2, 1)], jOl (dC, dI) G0 2 [bo, ou] s.heap), (jFy, jYb dC dI G0)]) [1, 2, 3] rfl
        clear hh_64
        have hh_68 := hh_67.addI (jDcc.ie hF_66)
        clear hh_67
        refine lv_aload_n hx hb dX11_closeDocument_25 rfl (lv_at hl 2 rfl) ?_
        refine lv_aload_n hx hb dX11_closeDocument_26 rfl (lv_at hl 1 rfl) ?_
        have hsz_69 := hh_68.2.2.2.2.2.1
        have htt_69 := hh_68.2.2.2.2.2.2.1
        refine W.room (fun hrc_69 hrs_69 => ?_)
        refine va_callv (A0 := jA base) (H0 := s.heap) (va_runV (As := [.ref ret_4]) (rest := []) ⟨hx, hb, hml, hown, hts⟩ (uX11_dismiss l dC dI ca base B hB hAp hB1 hB2 hB3 hB4 hB10 hB13 hB196 hB222 G0 H_64 r0 ret_4 bo pc pa n_pa ou op sz LC LS) (cwV 1 hts (jgV (jWr_42 _ (List.mem_of_getElem? (i := 1) rfl)) (jWr_42 _ (List.mem_of_getElem? (i := 2) rfl)) (jWr_42 _ (List.mem_of_getElem? (i := 3) rfl)) (jWr_1 _ (List.mem_of_getElem? (i := 2) rfl)) (jWr_42 _ (List.mem_of_getElem? (i := 4) rfl))) rfl rfl rfl (by decide +kernel) ⟨by rw [← hR]; exact Nat.le_of_ble_eq_true rfl, by rw [← hR]; exact Nat.le_of_ble_eq_true rfl⟩) ⟨fun a U g mk q => by obtain ⟨q0, q1, q2, qK, q10, q11, q12, q13, q14, q15, q16, q17, q18, q19, q20⟩ := q; exact ⟨q0, q1, q2, jG.calling g mk a qK, (jK5.moved (Vm.Alike.refl U.vm) q10), (jK7.calling g mk a q11), q12, q13, q14, q15, q16, q17, q18, q19, q20⟩, hh_68.recv (C := RX11) (T := TX11) (N := 19) hB13 rfl (by decide) hg_r0 hK, fun U hU hW => ⟨rfl, hU, hh_68.2.1, hG.step hW hU hh_68.1, jK5.moved hW.alike hK5, (hK7.step hW hU hh_68.1), hg_r0, hg_ret_4, hg_bo, hg_pa, hg_ou, hg_op, (hh_68.2.2.1.sub (L1 := [(r0, 13, 4, .ref bo), (bo, 2, 1, .int pc), (bo, 2, 0, .ref pa), (r0, 13, 3, .ref ou), (r0, 13, 7, .ref op), (op, 1, 2, .int sz)]) [5, 6, 7, 8, 9, 10] rfl), (hh_68.2.2.2.2.2.2.2.2.sub (L1 := [(jFy, jYb dC dI G0), (jFl, jLs dC dI ca G0 3 none)]) [3, 1] rfl), (by omega), (by omega), ⟨(by first | omega | rfl | assumption | fail), (by first | omega | rfl | assumption | fail), (by first | omega | rfl | assumption | fail), (by first | omega | rfl | assumption | fail), (by first | assumption | fail | omega)⟩⟩⟩ rfl rfl hl.1 rfl (lv_room (Nat.le_of_ble_eq_true rfl)) dX11_closeDocument_27 ⟨by rw [hRc]; omega, by rw [hRs]; omega⟩) hh_68.1 (fun q _ h => h) (fun q h => h) (fun u_69 t_69 H_69 locs_69 ht_69 hvm_69 hr_70 hb_69 hz_69 hk_69 hS_69 => ?_)
        obtain ⟨qc_69, qz_69, qa_69, m_qa_69, G_69⟩ := u_69
        rw [ht_69] at hb_69
        simp only at hb_69
        obtain ⟨⟨hb_691, hb_692, hb_693, hb_694, hb_695, hb_696⟩, hgq_69_0, hN_69, hbO_69, hbE_69⟩ := hb_69
        have hh_69 : jSt (dC, dI) B base G0 G_69 EX11_closeDocumentE s.heap (0 + ((m_qa_69 - n_pa) / 16)) (0 + (2 * (m_qa_69 - n_pa))) [(bo, 2, 1, .int qc_69), (op, 1, 2, .int qz_69), (bo, 2, 0, .ref qa_69), (ret_4, 3, 11, .null), (ret_4, 3, 4, .int ps_11), (ret_4, 3, 10, .int pk_11), (ret_4, 3, 5, .ref yb_11), (ret_4, 3, 6, .ref ye_11), (r0, 13, 4, .ref bo), (r0, 13, 3, .ref ou), (r0, 13, 7, .ref op)] [(yb_11, 171, 40, ca 1, fb_11), (ye_11, 172, 40, ca 1, fe_11)] [(jFdo, jDcc dC dI ca G0 none phn_66)] H_69 locs_69 := (hh_68.callG hb_691 hb_692 hb_693 hb_694 hb_695 hS_69 rfl (L1 := [(ret_4, 3, 11, .null), (ret_4, 3, 4, .int ps_11), (ret_4, 3, 10, .int pk_11), (ret_4, 3, 5, .ref yb_11), (ret_4, 3, 6, .ref ye_11), (r0, 13, 4, .ref bo), (r0, 13, 3, .ref ou), (r0, 13, 7, .ref op)]) [0, 1, 2, 3, 4, 5, 8, 9] rfl rfl (M1 := [(yb_11, 171, 40, ca 1, fb_11), (ye_11, 172, 40, ca 1, fe_11)]) [0, 1] rfl rfl (I1 := [(jFdo, jDcc dC dI ca G0 none phn_66)]) [0] rfl rfl).more hb_696
        have hNn_69 : (jNk [0, 1, 2, 3, 4, 5, 6, 7, 8, 9, 10, 11, 12, 13, 14, 15, 16]) G0 G_69 := (jNk.rf).tr hN_69
        have hg_71 := hb_692 _ _ hg_ret_4
        have hg_72 := hb_692 _ _ hg_r0
        have hg_73 := hb_692 _ _ hgb_11
        have hg_74 := hb_692 _ _ hge_11
        have hg_75 := hb_692 _ _ hg_bo
        have hg_76 := hb_692 _ _ hg_ou
        have hg_77 := hb_692 _ _ hg_op
        have hd_78 := jDcc.grow (hh_69.iv 0 rfl) hb_692 hN_69 (by decide)
        have hh_79 := hh_69.sub (L1 := [(bo, 2, 1, .int qc_69), (op, 1, 2, .int qz_69), (bo, 2, 0, .ref qa_69), (ret_4, 3, 11, .null), (ret_4, 3, 4, .int ps_11), (ret_4, 3, 10, .int pk_11), (ret_4, 3, 5, .ref yb_11), (ret_4, 3, 6, .ref ye_11), (r0, 13, 4, .ref bo), (r0, 13, 3, .ref ou), (r0, 13, 7, .ref op)]) [0, 1, 2, 3, 4, 5, 6, 7, 8, 9, 10] rfl (M1 := [(yb_11, 171, 40, ca 1, fb_11), (ye_11, 172, 40, ca 1, fe_11)]) [0, 1] rfl (I1 := []) [] rfl
        clear hh_69
        have hh_80 := hh_79.addI (jDcc.ie hd_78)
        clear hh_79
        have hh_81 := hh_80.addIs hbE_69
        have hd_82 := jOl.trL (hh_68.iv 2 rfl) hh_68.2.2.2.2.1 hbO_69 (by simp)
        have hh_83 := hh_81.addI (jOl.ie (dC := dC) (dI := dI) (G0 := G0) (k := 2) (rs := [bo, ou]) (H0 := s.heap) (F := [(2, 0), (2, 1)]) (C := RX0) (T := TX0) (N := 2) rfl (by decide) hh_81.2.2.2.2.1 (hd_82))
        clear hh_81
        try simp only at hr_70
        obtain ⟨hr_70_0, hr_70_1, hr_70_2, hr_70_3, hr_70_4, hr_70_5⟩ := hr_70
        have hh_84 := hh_83.wk (zc1 := (m_qa_69 - n_pa) / 16) (zs1 := 2 * (m_qa_69 - n_pa)) (by omega) (by omega)
        clear hh_83
        try clear hsz_69 htt_69 hrc_69 hrs_69
        try clear hb_694 hb_695
        refine lv_aload_n hx hb dX11_closeDocument_30 rfl (lv_at hl 2 rfl) ?_
        refine j7_read hx hb hown hK (C := RX11) (T := TX11) (N := 19) rfl hly_13_7 hlk_61 (hh_84.at 10 rfl) dX11_closeDocument_31 ?_
        refine lv_iload_n hx hb dX11_closeDocument_34 rfl (lv_at hl 0 rfl) ?_
        have hsz_85 := hh_84.2.2.2.2.2.1
        have htt_85 := hh_84.2.2.2.2.2.2.1
        refine W.room (fun hrc_85 hrs_85 => ?_)
        refine j_callFx (A0 := jA base) (H0 := s.heap) (va_runF (hK.1 1 _ rfl).2 (As := [.int r_9]) (rest := []) ⟨hx, hb, hml, hown, hts⟩ (uJx4a65c_remove_915e3L1 l dC dI ca base B hB hAp hB1 hB3 hB221 G_69 H_69 op r_9 qz_69) (va_cwF 1 hts (jgF (jWr_42 _ (List.mem_of_getElem? (i := 7) rfl)) (jWr_42 _ (List.mem_of_getElem? (i := 8) rfl)) (jWr_42 _ (List.mem_of_getElem? (i := 9) rfl)) (jWr_2 _ (List.mem_of_getElem? (i := 13) rfl)) (jWr_42 _ (List.mem_of_getElem? (i := 10) rfl))) rfl rfl rfl hK7.2.2.2.2.2.1.2.2.2 ⟨by decide, by decide, by decide +kernel⟩ ⟨by rw [← hR]; exact Nat.le_of_ble_eq_true rfl, by rw [← hR]; exact Nat.le_of_ble_eq_true rfl⟩) ⟨fun a U g mk q => by obtain ⟨q0, q1, q2, qK, q10, q11, q12, q13, q14⟩ := q; exact ⟨q0, q1, q2, jG.calling g mk a qK, (jK7.calling g mk a q10), q11, q12, q13, q14⟩, hh_84.recv (C := RJx4a65c) (T := TJx4a65c) (N := 3) hB1 rfl (by decide) hg_77 hK, fun U hU hW => ⟨rfl, hU, hh_84.2.1, hG.step hW hU hh_84.1, (hK7.step hW hU hh_84.1), hg_77, (hh_84.2.2.1.sub (L1 := [(op, 1, 2, .int qz_69)]) [1] rfl), (hh_84.2.2.2.2.2.2.2.2.sub (L1 := [(jFl, jLs dC dI ca G_69 3 none)]) [2] rfl), ⟨(by first | omega | rfl | assumption | fail), (by first | omega | rfl | assumption | fail)⟩⟩⟩ rfl rfl hl.1 rfl (lv_room (Nat.le_of_ble_eq_true rfl)) dX11_closeDocument_35 ⟨by rw [hRc]; show _ + 0 ≤ _; omega, by rw [hRs]; show _ + 0 ≤ _; omega⟩) hh_84.1 (fun q _ h => h) (fun q h => h) (fun r_86 u_85 t_85 H_85 locs_85 ht_85 hvm_85 hr_86 hb_85 hz_85 hk_85 hS_85 => ?_)
        obtain ⟨qz_85, rfl⟩ : ∃ z, z = u_85 := ⟨_, rfl⟩
        rw [ht_85] at hb_85
        obtain ⟨hb_85, hbE_85⟩ := hb_85
        obtain ⟨hb_85, hbO_85⟩ := hb_85
        obtain ⟨hb_851, hb_852, hb_853, hb_854, hb_855⟩ := hb_85
        have hh_85 : jSt (dC, dI) B base G0 G_69 EX11_closeDocumentE s.heap ((m_qa_69 - n_pa) / 16) (2 * (m_qa_69 - n_pa)) [(op, 1, 2, .int qz_85), (bo, 2, 1, .int qc_69), (bo, 2, 0, .ref qa_69), (ret_4, 3, 11, .null), (ret_4, 3, 4, .int ps_11), (ret_4, 3, 10, .int pk_11), (ret_4, 3, 5, .ref yb_11), (ret_4, 3, 6, .ref ye_11), (r0, 13, 4, .ref bo), (r0, 13, 3, .ref ou), (r0, 13, 7, .ref op)] [(yb_11, 171, 40, ca 1, fb_11), (ye_11, 172, 40, ca 1, fe_11)] [(jFl, jLs dC dI ca G_69 3 none), ([(2, 0), (2, 1)], jOl (dC, dI) G0 2 [bo, ou] s.heap), (jFy, jYb dC dI G_69), (jFdo, jDcc dC dI ca G_69 none phn_66)] H_85 locs_85 := (((hh_84.call hb_851 hb_852 hb_853 hb_854 hS_85 rfl (L1 := [(bo, 2, 1, .int qc_69), (bo, 2, 0, .ref qa_69), (ret_4, 3, 11, .null), (ret_4, 3, 4, .int ps_11), (ret_4, 3, 10, .int pk_11), (ret_4, 3, 5, .ref yb_11), (ret_4, 3, 6, .ref ye_11), (r0, 13, 4, .ref bo), (r0, 13, 3, .ref ou), (r0, 13, 7, .ref op)]) [0, 2, 3, 4, 5, 6, 7, 8, 9, 10] rfl rfl (M1 := [(yb_11, 171, 40, ca 1, fb_11), (ye_11, 172, 40, ca 1, fe_11)]) [0, 1] rfl rfl (I1 := [([(2, 0), (2, 1)], jOl (dC, dI) G0 2 [bo, ou] s.heap), (jFy, jYb dC dI G_69), (jFdo, jDcc dC dI ca G_69 none phn_66)]) [0, 1, 3] rfl rfl).more hb_855)).addIs hbE_85
        clear hh_84 ht_85 hvm_85 hz_85 hk_85 hS_85 hb_851 hb_852 hb_853 hb_854 hb_855
        clear  hbE_85
        obtain ⟨hr_86, hr_86p⟩ := hr_86
        obtain ⟨ret_87, rfl, hg_ret_87⟩ := hr_86
        refine lv_pop hx hb dX11_closeDocument_40 rfl ?_
        refine lv_aload_n hx hb dX11_closeDocument_41 rfl (lv_at hl 2 rfl) ?_
        refine lv_aload_n hx hb dX11_closeDocument_42 rfl (lv_at hl 1 rfl) ?_
        refine lv_iconst (v := 0) hx hb dX11_closeDocument_43 (by decide) ?_
        have hsz_88 := hh_85.2.2.2.2.2.1
        have htt_88 := hh_85.2.2.2.2.2.2.1
        refine W.room (fun hrc_88 hrs_88 => ?_)
        refine va_callv (A0 := jA base) (H0 := s.heap) (va_runV (As := [.ref ret_4, .int 0]) (rest := []) ⟨hx, hb, hml, hown, hts⟩ (uX11_publish l dC dI ca base B hB hAp hB2 hB3 hB4 hB11 hB13 hB101 hB171 hB172 hB196 hB210 G_69 H_85 r0 ret_4 0 bo qc_69 qa_69 m_qa_69 ou LC LS) (cwV 2 hts (jgV (jWr_39 _ (List.mem_of_getElem? (i := 19) rfl)) (jWr_39 _ (List.mem_of_getElem? (i := 20) rfl)) (jWr_39 _ (List.mem_of_getElem? (i := 21) rfl)) (jWr_1 _ (List.mem_of_getElem? (i := 2) rfl)) (jWr_39 _ (List.mem_of_getElem? (i := 22) rfl))) rfl rfl rfl (by decide +kernel) ⟨by rw [← hR]; exact Nat.le_of_ble_eq_true rfl, by rw [← hR]; exact Nat.le_of_ble_eq_true rfl⟩) ⟨fun a U g mk q => by obtain ⟨q0, q1, q2, qK, q10, q11, q12, q13, q14, q15, q16, q17, q18, q19⟩ := q; exact ⟨q0, q1, q2, jG.calling g mk a qK, (va_K.moved (Vm.Alike.refl U.vm) q10), q11, q12, q13, q14, q15, q16, q17, q18, q19⟩, hh_85.recv (C := RX11) (T := TX11) (N := 19) hB13 rfl (by decide) hg_72 hK, fun U hU hW => ⟨rfl, hU, hh_85.2.1, hG.step hW hU hh_85.1, va_K.moved hW.alike hK2, hg_71, hg_72, (Or.inl rfl), hg_75, hgq_69_0, hg_76, (hh_85.2.2.1.sub (L1 := [(r0, 13, 4, .ref bo), (bo, 2, 1, .int qc_69), (bo, 2, 0, .ref qa_69), (r0, 13, 3, .ref ou)]) [8, 1, 2, 9] rfl), (hh_85.2.2.2.2.2.2.2.2.sub (L1 := [(jFy, jYb dC dI G_69)]) [2] rfl), (by omega), (by omega), ⟨(by first | omega | rfl | assumption | fail), (by first | omega | rfl | assumption | fail), (by first | omega | rfl | assumption | fail), (by first | omega | rfl | assumption | fail), (by first | assumption | fail | omega)⟩⟩⟩ rfl rfl hl.1 rfl (lv_room (Nat.le_of_ble_eq_true rfl)) dX11_closeDocument_44 ⟨by rw [hRc]; omega, by rw [hRs]; omega⟩) hh_85.1 (fun q _ h => h) (fun q h => h) (fun u_88 t_88 H_88 locs_88 ht_88 hvm_88 hr_89 hb_88 hz_88 hk_88 hS_88 => ?_)
        obtain ⟨qc_88, qa_88, m_qa_88, G_88⟩ := u_88
        rw [ht_88] at hb_88
        simp only at hb_88
        obtain ⟨⟨hb_881, hb_882, hb_883, hb_884, hb_885, hb_886⟩, hgq_88_0, hN_88, hbO_88, hbE_88⟩ := hb_88
        have hh_88 : jSt (dC, dI) B base G0 G_88 EX11_closeDocumentE s.heap (((m_qa_69 - n_pa) / 16) + ((m_qa_88 - m_qa_69) / 16)) ((2 * (m_qa_69 - n_pa)) + (2 * (m_qa_88 - m_qa_69))) [(bo, 2, 1, .int qc_88), (bo, 2, 0, .ref qa_88), (op, 1, 2, .int qz_85), (ret_4, 3, 11, .null), (ret_4, 3, 4, .int ps_11), (ret_4, 3, 10, .int pk_11), (ret_4, 3, 5, .ref yb_11), (ret_4, 3, 6, .ref ye_11), (r0, 13, 4, .ref bo), (r0, 13, 3, .ref ou), (r0, 13, 7, .ref op)] [(yb_11, 171, 40, ca 1, fb_11), (ye_11, 172, 40, ca 1, fe_11)] [(jFl, jLs dC dI ca G_69 3 none), (jFdo, jDcc dC dI ca G_69 none phn_66)] H_88 locs_88 := (hh_85.callG hb_881 hb_882 hb_883 hb_884 hb_885 hS_88 rfl (L1 := [(op, 1, 2, .int qz_85), (ret_4, 3, 11, .null), (ret_4, 3, 4, .int ps_11), (ret_4, 3, 10, .int pk_11), (ret_4, 3, 5, .ref yb_11), (ret_4, 3, 6, .ref ye_11), (r0, 13, 4, .ref bo), (r0, 13, 3, .ref ou), (r0, 13, 7, .ref op)]) [0, 3, 4, 5, 6, 7, 8, 9, 10] rfl rfl (M1 := [(yb_11, 171, 40, ca 1, fb_11), (ye_11, 172, 40, ca 1, fe_11)]) [0, 1] rfl rfl (I1 := [(jFl, jLs dC dI ca G_69 3 none), (jFdo, jDcc dC dI ca G_69 none phn_66)]) [0, 3] rfl rfl).more hb_886
        have hNn_88 : (jNk [0, 1, 2, 3, 4, 5, 6, 7, 8, 9, 10, 11, 12, 13, 14, 15, 16]) G0 G_88 := (hNn_69).tr hN_88
        have hg_90 := hb_882 _ _ hg_71
        have hg_91 := hb_882 _ _ hg_72
        have hg_92 := hb_882 _ _ hg_73
        have hg_93 := hb_882 _ _ hg_74
        have hg_94 := hb_882 _ _ hg_75
        have hg_95 := hb_882 _ _ hg_76
        have hg_96 := hb_882 _ _ hg_77
        have hd_97 := jLs.grow (hh_88.iv 0 rfl) hb_882 hN_88 (by decide)
        have hh_98 := hh_88.sub (L1 := [(bo, 2, 1, .int qc_88), (bo, 2, 0, .ref qa_88), (op, 1, 2, .int qz_85), (ret_4, 3, 11, .null), (ret_4, 3, 4, .int ps_11), (ret_4, 3, 10, .int pk_11), (ret_4, 3, 5, .ref yb_11), (ret_4, 3, 6, .ref ye_11), (r0, 13, 4, .ref bo), (r0, 13, 3, .ref ou), (r0, 13, 7, .ref op)]) [0, 1, 2, 3, 4, 5, 6, 7, 8, 9, 10] rfl (M1 := [(yb_11, 171, 40, ca 1, fb_11), (ye_11, 172, 40, ca 1, fe_11)]) [0, 1] rfl (I1 := [(jFdo, jDcc dC dI ca G_69 none phn_66)]) [1] rfl
        clear hh_88
        have hh_99 := hh_98.addI (jLs.ie hd_97)
        clear hh_98
        have hd_100 := jDcc.grow (hh_99.iv 1 rfl) hb_882 hN_88 (by decide)
        have hh_101 := hh_99.sub (L1 := [(bo, 2, 1, .int qc_88), (bo, 2, 0, .ref qa_88), (op, 1, 2, .int qz_85), (ret_4, 3, 11, .null), (ret_4, 3, 4, .int ps_11), (ret_4, 3, 10, .int pk_11), (ret_4, 3, 5, .ref yb_11), (ret_4, 3, 6, .ref ye_11), (r0, 13, 4, .ref bo), (r0, 13, 3, .ref ou), (r0, 13, 7, .ref op)]) [0, 1, 2, 3, 4, 5, 6, 7, 8, 9, 10] rfl (M1 := [(yb_11, 171, 40, ca 1, fb_11), (ye_11, 172, 40, ca 1, fe_11)]) [0, 1] rfl (I1 := [(jFl, jLs dC dI ca G_88 3 none)]) [0] rfl
        clear hh_99
        have hh_102 := hh_101.addI (jDcc.ie hd_100)
        clear hh_101
        have hh_103 := hh_102.addIs hbE_88
        have hd_104 := jOl.trL (hh_85.iv 1 rfl) hh_85.2.2.2.2.1 hbO_88 (by simp)
        have hh_105 := hh_103.addI (jOl.ie (dC := dC) (dI := dI) (G0 := G0) (k := 2) (rs := [bo, ou]) (H0 := s.heap) (F := [(2, 0), (2, 1)]) (C := RX0) (T := TX0) (N := 2) rfl (by decide) hh_103.2.2.2.2.1 (hd_104))
        clear hh_103
        try simp only at hr_89
        obtain ⟨hr_89_0, hr_89_1, hr_89_2, hr_89_3, hr_89_4⟩ := hr_89
        have hh_106 := hh_105.wk (zc1 := (m_qa_88 - n_pa) / 16) (zs1 := 2 * (m_qa_88 - n_pa)) (by omega) (by omega)
        clear hh_105
        try clear hsz_88 htt_88 hrc_88 hrs_88
        try clear hb_884 hb_885
        have hsz_107 := hh_106.2.2.2.2.2.1
        have htt_107 := hh_106.2.2.2.2.2.2.1
        refine W.room (fun hrc_107 hrs_107 => ?_)
        refine W.widen (k := LC - s.heap.size) (n := LS - jTot s.heap) (by omega) (by omega) ?_
        rw [hQ]
        exact W.vret hx hb hr (fun t ht hW => ⟨⟨(qc_88, qa_88, m_qa_88, phn_66, G_88), rfl, by (try dsimp only); exact ⟨(by first | omega | rfl | assumption | fail), (by first | omega | rfl | assumption | fail), (by first | omega | rfl | assumption | fail), (by first | omega | rfl | assumption | fail), (by first | assumption | fail | omega), (by first | omega | rfl | assumption | fail)⟩, ⟨hh_106.ra (by first | omega | (simp only; omega)) (by first | omega | (simp only; omega)) (M1 := [(bo, 2, 1, .int qc_88), (bo, 2, 0, .ref qa_88)]) [0, 1] rfl ht, hgq_88_0, hNn_88, by rw [ht]; exact hh_106.iv 0 rfl, by rw [ht]; exact hh_106.2.2.2.2.2.2.2.2.sub (L1 := [(jFy, jYb dC dI G_88), (jFl, jLs dC dI ca G_88 3 none), (jFdo, jDcc dC dI ca G_88 none phn_66)]) [1, 3, 2] rfl⟩⟩, by rw [ht]; try exact hh_106.1.1, fun q h9 hq => by rw [ht]; try exact hh_106.1.2.1 q h9 hq⟩) hh_106.1.2.2 dX11_closeDocument_47
    · skip
      have c_10' : r_9.toInt < 0 := jb_ge_n (rfl) ((by decide)) c_10
      first | (have hr_9_1q := hr_9_1.resolve_left (by omega); clear hr_9_1) | (have hr_9_1q := hr_9_1.resolve_right (by omega); clear hr_9_1) | skip
      have hsz_108 := hh_8.2.2.2.2.2.1
      have htt_108 := hh_8.2.2.2.2.2.2.1
      refine W.room (fun hrc_108 hrs_108 => ?_)
      refine W.widen (k := LC - s.heap.size) (n := LS - jTot s.heap) (by omega) (by omega) ?_
      rw [hQ]
      exact W.vret hx hb hr (fun t ht hW => ⟨⟨(pc, pa, n_pa, ph, G0), rfl, by (try dsimp only); exact ⟨(by first | omega | rfl | assumption | fail), (by first | omega | rfl | assumption | fail), (by first | omega | rfl | assumption | fail), (by first | omega | rfl | assumption | fail), (by first | assumption | fail | omega), (by first | omega | rfl | assumption | fail)⟩, ⟨hh_8.ra (by first | omega | (simp only; omega)) (by first | omega | (simp only; omega)) (M1 := [(bo, 2, 1, .int pc), (bo, 2, 0, .ref pa)]) [1, 2] rfl ht, hg_pa, jNk.rf, by rw [ht]; exact hh_8.iv 1 rfl, by rw [ht]; exact hh_8.2.2.2.2.2.2.2.2.sub (L1 := [(jFy, jYb dC dI G0), (jFl, jLs dC dI ca G0 3 none), (jFdo, jDcc dC dI ca G0 none ph)]) [2, 0, 3] rfl⟩⟩, by rw [ht]; try exact hh_8.1.1, fun q h9 hq => by rw [ht]; try exact hh_8.1.2.1 q h9 hq⟩) hh_8.1.2.2 dX11_closeDocument_19
