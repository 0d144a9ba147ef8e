section
theorem dX11_refuse_0 : decode cX11_refuse 0 = .ok (.aload_n 0, 1) := by decide +kernel
theorem dX11_refuse_1 : decode cX11_refuse 1 = .ok (.aload_n 1, 1) := by decide +kernel
theorem dX11_refuse_2 : decode cX11_refuse 2 = .ok (.ldc_w 464, 3) := by decide +kernel
theorem dX11_refuse_5 : decode cX11_refuse 5 = .ok (.invokevirtual 291, 3) := by decide +kernel
theorem dX11_refuse_8 : decode cX11_refuse 8 = .ok (.aload_n 0, 1) := by decide +kernel
theorem dX11_refuse_9 : decode cX11_refuse 9 = .ok (.getfield 35, 3) := by decide +kernel
theorem dX11_refuse_12 : decode cX11_refuse 12 = .ok (.iload_n 2, 1) := by decide +kernel
theorem dX11_refuse_13 : decode cX11_refuse 13 = .ok (.invokevirtual 466, 3) := by decide +kernel
theorem dX11_refuse_16 : decode cX11_refuse 16 = .ok (.aload_n 0, 1) := by decide +kernel
theorem dX11_refuse_17 : decode cX11_refuse 17 = .ok (.getfield 35, 3) := by decide +kernel
theorem dX11_refuse_20 : decode cX11_refuse 20 = .ok (.ldc_w 469, 3) := by decide +kernel
theorem dX11_refuse_23 : decode cX11_refuse 23 = .ok (.invokevirtual 297, 3) := by decide +kernel
theorem dX11_refuse_26 : decode cX11_refuse 26 = .ok (.aload_n 0, 1) := by decide +kernel
theorem dX11_refuse_27 : decode cX11_refuse 27 = .ok (.getfield 35, 3) := by decide +kernel
theorem dX11_refuse_30 : decode cX11_refuse 30 = .ok (.iload_n 2, 1) := by decide +kernel
theorem dX11_refuse_31 : decode cX11_refuse 31 = .ok (.invokestatic 471, 3) := by decide +kernel
theorem dX11_refuse_34 : decode cX11_refuse 34 = .ok (.invokevirtual 297, 3) := by decide +kernel
theorem dX11_refuse_37 : decode cX11_refuse 37 = .ok (.aload_n 0, 1) := by decide +kernel
theorem dX11_refuse_38 : decode cX11_refuse 38 = .ok (.getfield 35, 3) := by decide +kernel
theorem dX11_refuse_41 : decode cX11_refuse 41 = .ok (.ldc_w 475, 3) := by decide +kernel
theorem dX11_refuse_44 : decode cX11_refuse 44 = .ok (.invokevirtual 297, 3) := by decide +kernel
theorem dX11_refuse_47 : decode cX11_refuse 47 = .ok (.aload_n 0, 1) := by decide +kernel
theorem dX11_refuse_48 : decode cX11_refuse 48 = .ok (.invokevirtual 300, 3) := by decide +kernel
theorem dX11_refuse_51 : decode cX11_refuse 51 = .ok (.return_, 1) := by decide +kernel
theorem dX11_publish_0 : decode cX11_publish 0 = .ok (.aload_n 0, 1) := by decide +kernel
theorem dX11_publish_1 : decode cX11_publish 1 = .ok (.getfield 35, 3) := by decide +kernel
theorem dX11_publish_4 : decode cX11_publish 4 = .ok (.iconst 0, 1) := by decide +kernel
theorem dX11_publish_5 : decode cX11_publish 5 = .ok (.putfield 92, 3) := by decide +kernel
theorem dX11_publish_8 : decode cX11_publish 8 = .ok (.aload_n 0, 1) := by decide +kernel
theorem dX11_publish_9 : decode cX11_publish 9 = .ok (.getfield 35, 3) := by decide +kernel
theorem dX11_publish_12 : decode cX11_publish 12 = .ok (.ldc_w 499, 3) := by decide +kernel
theorem dX11_publish_15 : decode cX11_publish 15 = .ok (.invokevirtual 297, 3) := by decide +kernel
theorem dX11_publish_18 : decode cX11_publish 18 = .ok (.aload_n 0, 1) := by decide +kernel
theorem dX11_publish_19 : decode cX11_publish 19 = .ok (.getfield 35, 3) := by decide +kernel
theorem dX11_publish_22 : decode cX11_publish 22 = .ok (.aload_n 1, 1) := by decide +kernel
theorem dX11_publish_23 : decode cX11_publish 23 = .ok (.getfield 348, 3) := by decide +kernel
theorem dX11_publish_26 : decode cX11_publish 26 = .ok (.iconst 0, 1) := by decide +kernel
theorem dX11_publish_27 : decode cX11_publish 27 = .ok (.aload_n 1, 1) := by decide +kernel
theorem dX11_publish_28 : decode cX11_publish 28 = .ok (.getfield 348, 3) := by decide +kernel
theorem dX11_publish_31 : decode cX11_publish 31 = .ok (.arraylength, 1) := by decide +kernel
theorem dX11_publish_32 : decode cX11_publish 32 = .ok (.invokevirtual 501, 3) := by decide +kernel
theorem dX11_publish_35 : decode cX11_publish 35 = .ok (.aload_n 0, 1) := by decide +kernel
theorem dX11_publish_36 : decode cX11_publish 36 = .ok (.getfield 35, 3) := by decide +kernel
theorem dX11_publish_39 : decode cX11_publish 39 = .ok (.ldc_w 505, 3) := by decide +kernel
theorem dX11_publish_42 : decode cX11_publish 42 = .ok (.invokevirtual 297, 3) := by decide +kernel
theorem dX11_publish_45 : decode cX11_publish 45 = .ok (.aload_n 0, 1) := by decide +kernel
theorem dX11_publish_46 : decode cX11_publish 46 = .ok (.getfield 35, 3) := by decide +kernel
theorem dX11_publish_49 : decode cX11_publish 49 = .ok (.aload_n 1, 1) := by decide +kernel
theorem dX11_publish_50 : decode cX11_publish 50 = .ok (.getfield 162, 3) := by decide +kernel
theorem dX11_publish_53 : decode cX11_publish 53 = .ok (.invokevirtual 466, 3) := by decide +kernel
theorem dX11_publish_56 : decode cX11_publish 56 = .ok (.aload_n 0, 1) := by decide +kernel
theorem dX11_publish_57 : decode cX11_publish 57 = .ok (.getfield 35, 3) := by decide +kernel
theorem dX11_publish_60 : decode cX11_publish 60 = .ok (.ldc_w 507, 3) := by decide +kernel
theorem dX11_publish_63 : decode cX11_publish 63 = .ok (.invokevirtual 297, 3) := by decide +kernel
theorem dX11_publish_66 : decode cX11_publish 66 = .ok (.iconst 1, 1) := by decide +kernel
theorem dX11_publish_67 : decode cX11_publish 67 = .ok (.istore_n 3, 1) := by decide +kernel
theorem dX11_publish_68 : decode cX11_publish 68 = .ok (.aload_n 1, 1) := by decide +kernel
theorem dX11_publish_69 : decode cX11_publish 69 = .ok (.invokevirtual 509, 3) := by decide +kernel
theorem dX11_publish_72 : decode cX11_publish 72 = .ok (.iconst 0, 1) := by decide +kernel
theorem dX11_publish_73 : decode cX11_publish 73 = .ok (.istore 4, 2) := by decide +kernel
theorem dX11_publish_75 : decode cX11_publish 75 = .ok (.iload_n 2, 1) := by decide +kernel
theorem dX11_publish_76 : decode cX11_publish 76 = .ok (.ifCond .eq 70, 3) := by decide +kernel
theorem dX11_publish_79 : decode cX11_publish 79 = .ok (.iload 4, 2) := by decide +kernel
theorem dX11_publish_81 : decode cX11_publish 81 = .ok (.aload_n 1, 1) := by decide +kernel
theorem dX11_publish_82 : decode cX11_publish 82 = .ok (.getfield 171, 3) := by decide +kernel
theorem dX11_publish_85 : decode cX11_publish 85 = .ok (.if_icmp .ge 61, 3) := by decide +kernel
theorem dX11_publish_88 : decode cX11_publish 88 = .ok (.iload 4, 2) := by decide +kernel
theorem dX11_publish_90 : decode cX11_publish 90 = .ok (.bipush 40, 2) := by decide +kernel
theorem dX11_publish_92 : decode cX11_publish 92 = .ok (.if_icmp .ge 54, 3) := by decide +kernel
theorem dX11_publish_95 : decode cX11_publish 95 = .ok (.aload_n 1, 1) := by decide +kernel
theorem dX11_publish_96 : decode cX11_publish 96 = .ok (.getfield 178, 3) := by decide +kernel
theorem dX11_publish_99 : decode cX11_publish 99 = .ok (.iload 4, 2) := by decide +kernel
theorem dX11_publish_101 : decode cX11_publish 101 = .ok (.aaload, 1) := by decide +kernel
theorem dX11_publish_102 : decode cX11_publish 102 = .ok (.ifnull 38, 3) := by decide +kernel
theorem dX11_publish_105 : decode cX11_publish 105 = .ok (.aload_n 1, 1) := by decide +kernel
theorem dX11_publish_106 : decode cX11_publish 106 = .ok (.getfield 178, 3) := by decide +kernel
theorem dX11_publish_109 : decode cX11_publish 109 = .ok (.iload 4, 2) := by decide +kernel
theorem dX11_publish_111 : decode cX11_publish 111 = .ok (.aaload, 1) := by decide +kernel
theorem dX11_publish_112 : decode cX11_publish 112 = .ok (.getfield 188, 3) := by decide +kernel
theorem dX11_publish_115 : decode cX11_publish 115 = .ok (.ifCond .le 25, 3) := by decide +kernel
theorem dX11_publish_118 : decode cX11_publish 118 = .ok (.iload_n 3, 1) := by decide +kernel
theorem dX11_publish_119 : decode cX11_publish 119 = .ok (.ifCond .ne 12, 3) := by decide +kernel
theorem dX11_publish_122 : decode cX11_publish 122 = .ok (.aload_n 0, 1) := by decide +kernel
theorem dX11_publish_123 : decode cX11_publish 123 = .ok (.getfield 35, 3) := by decide +kernel
theorem dX11_publish_126 : decode cX11_publish 126 = .ok (.bipush 44, 2) := by decide +kernel
theorem dX11_publish_128 : decode cX11_publish 128 = .ok (.invokevirtual 246, 3) := by decide +kernel
theorem dX11_publish_131 : decode cX11_publish 131 = .ok (.iconst 0, 1) := by decide +kernel
theorem dX11_publish_132 : decode cX11_publish 132 = .ok (.istore_n 3, 1) := by decide +kernel
theorem dX11_publish_133 : decode cX11_publish 133 = .ok (.aload_n 0, 1) := by decide +kernel
theorem dX11_publish_134 : decode cX11_publish 134 = .ok (.aload_n 1, 1) := by decide +kernel
theorem dX11_publish_135 : decode cX11_publish 135 = .ok (.iload 4, 2) := by decide +kernel
theorem dX11_publish_137 : decode cX11_publish 137 = .ok (.invokevirtual 512, 3) := by decide +kernel
theorem dX11_publish_140 : decode cX11_publish 140 = .ok (.iinc 4 1, 3) := by decide +kernel
theorem dX11_publish_143 : decode cX11_publish 143 = .ok (.goto (-68), 3) := by decide +kernel
theorem dX11_publish_146 : decode cX11_publish 146 = .ok (.aload_n 0, 1) := by decide +kernel
theorem dX11_publish_147 : decode cX11_publish 147 = .ok (.getfield 35, 3) := by decide +kernel
theorem dX11_publish_150 : decode cX11_publish 150 = .ok (.ldc_w 516, 3) := by decide +kernel
theorem dX11_publish_153 : decode cX11_publish 153 = .ok (.invokevirtual 297, 3) := by decide +kernel
theorem dX11_publish_156 : decode cX11_publish 156 = .ok (.aload_n 0, 1) := by decide +kernel
theorem dX11_publish_157 : decode cX11_publish 157 = .ok (.invokevirtual 300, 3) := by decide +kernel
theorem dX11_publish_160 : decode cX11_publish 160 = .ok (.return_, 1) := by decide +kernel
def EX11_refuse : List (Nat × Nat) := [(2, 0), (2, 1), (13, 14), (196, 0)]
def EX11_publish : List (Nat × Nat) := [(2, 0), (2, 1), (3, 14), (3, 15), (3, 16), (13, 14), (196, 0)]
set_option maxHeartbeats 4000000 in
set_option maxRecDepth 20000 in
theorem uX11_refuse (l : Launch) (dC : Nat → ClassId) (dI : Nat → Nat → Nat) (ca : Nat → ClassId) (base : Nat) (B : jF) (hB : jBok B) (hAp : jAp (dC, dI)) (hB2 : ∀ n G a H, B 2 n G a H ↔ jOb (dC, dI) 2 2 (F2 n G) a H) (hB4 : ∀ n G a H, B 4 n G a H ↔ jOb (dC, dI) 4 12 (F4 n G) a H) (hB10 : ∀ n G a H, B 10 n G a H ↔ jOb (dC, dI) 10 5 (F10 n G) a H) (hB13 : ∀ n G a H, B 13 n G a H ↔ jOb (dC, dI) 13 19 (F13 n G) a H) (hB196 : ∀ n G a H, B 196 n G a H ↔ jAr (dC, dI) (ca 0) (fun j z => jBf j z) n a H) (G0 : jT) (H0 : Heap) (r0 : Nat) (r1 : Nat) (a2 : Int32) (bo : Nat) (pc : Int32) (pa : Nat) (n_pa : Nat) (ou : Nat) (LC LS : Nat) : Met l yX11_refuse (jw yX11_refuse cX11_refuse 3 none) ({ frames := 6, cells := LC - H0.size, slots := LS - jTot H0, locals := 185 }) (va_Pc [.ref r0, .ref r1, .int a2] (fun U => U.heap = H0 ∧ jX B base G0 [] H0 ∧ jG dC dI ca base U ∧ G0 r1 = some (10, 0) ∧ G0 r0 = some (13, 0) ∧ G0 bo = some (2, 0) ∧ G0 pa = some (196, n_pa) ∧ G0 ou = some (2, 20000) ∧ jP (dC, dI) G0 H0 [(r0, 13, 4, .ref bo), (bo, 2, 1, .int pc), (bo, 2, 0, .ref pa), (r0, 13, 3, .ref ou)] ∧ jIs (dC, dI) G0 H0 [(jFy, jYb dC dI G0)] ∧ H0.size + (1048576 - n_pa) / 16 + 1 ≤ LC ∧ jTot H0 + 2 * (1048576 - n_pa) ≤ LS ∧ 0 ≤ pc.toInt ∧ pc.toInt ≤ n_pa ∧ 16 ≤ n_pa ∧ n_pa ≤ 1048576 ∧ jPw n_pa)) (va_Qv (S := Int32 × Nat × Nat × jT) (fun u => 0 ≤ u.1.toInt ∧ u.1.toInt ≤ u.2.2.1 ∧ n_pa ≤ u.2.2.1 ∧ u.2.2.1 ≤ 1048576 ∧ jPw u.2.2.1) (fun u t => jRa (dC, dI) B base G0 u.2.2.2 EX11_refuse H0 ((u.2.2.1 - n_pa) / 16) (2 * (u.2.2.1 - n_pa)) [(bo, 2, 1, .int u.1), (bo, 2, 0, .ref u.2.1)] t.heap ∧ u.2.2.2 u.2.1 = some (196, u.2.2.1) ∧ (jNk [0, 1, 2, 3, 4, 5, 6, 7, 8, 9, 10, 11, 12, 13, 14, 15, 16]) G0 u.2.2.2 ∧ jOl (dC, dI) G0 2 [bo, ou] H0 t.heap ∧ jIs (dC, dI) u.2.2.2 t.heap [(jFy, jYb dC dI u.2.2.2)]) (jA base)) (LC - H0.size) (LS - jTot H0) (jA base) := by
  refine Met.ofW (cc := cX11_refuse) (maxL := 3) (ret := none) (by decide) rfl ?_
  intro p e s m args below meth c s₁ Bd hml hv
  obtain ⟨rfl, hH0, hX, hG, hg_r1, hg_r0, hg_bo, hg_pa, hg_ou, hP0, hI0, hLC0, hLS0, hp0, hp1, hp2, hp3, hp4⟩ := hv
  have hK := hG.1
  have hx := Bd.exec
  have hb := Bd.bytes
  have hr := Bd.returns
  have hts := atoms_spec (ws := (jw yX11_refuse cX11_refuse 3 none)) Bd.pre
  have htw : ∀ w ∈ jWl, w.before _ s = true := fun w h => hts w (List.mem_cons_of_mem _ h)
  have hown : s.vm.findClass RX11 = some m.cls := findClass_of_methodNamed Bd.named
  have hlocks := Bd.notSynchronized
  obtain ⟨Q, hQ⟩ : ∃ Q, Q = MQ below (va_Qv (S := Int32 × Nat × Nat × jT) (fun u => 0 ≤ u.1.toInt ∧ u.1.toInt ≤ u.2.2.1 ∧ n_pa ≤ u.2.2.1 ∧ u.2.2.1 ≤ 1048576 ∧ jPw u.2.2.1) (fun u t => jRa (dC, dI) B base G0 u.2.2.2 EX11_refuse H0 ((u.2.2.1 - n_pa) / 16) (2 * (u.2.2.1 - n_pa)) [(bo, 2, 1, .int u.1), (bo, 2, 0, .ref u.2.1)] t.heap ∧ u.2.2.2 u.2.1 = some (196, u.2.2.1) ∧ (jNk [0, 1, 2, 3, 4, 5, 6, 7, 8, 9, 10, 11, 12, 13, 14, 15, 16]) G0 u.2.2.2 ∧ jOl (dC, dI) G0 2 [bo, ou] H0 t.heap ∧ jIs (dC, dI) u.2.2.2 t.heap [(jFy, jYb dC dI u.2.2.2)]) (jA base)) ([.ref r0, .ref r1, .int a2] : List Value).toArray s (LC - H0.size) (LS - jTot H0) (jA base) := ⟨_, rfl⟩
  rw [← hQ]
  have hl := lv_entry ([.ref r0, .ref r1, .int a2]) (n := 3) (Nat.le_of_ble_eq_true rfl)
  rw [lg_entry_eq]
  generalize (lg_sl ([.ref r0, .ref r1, .int a2]) ++ List.replicate (3 - (lg_sl ([.ref r0, .ref r1, .int a2])).length) Slot.unset).toArray = ls at hl ⊢
  have hl : lv_has ls 3 [(0, .ref r0), (1, .ref r1), (2, .int a2)] := hl
  generalize hR : (headSpec (jw yX11_refuse cX11_refuse 3 none) ({ frames := 6, cells := LC - H0.size, slots := LS - jTot H0, locals := 185 })).room = R
  subst hH0
  have hh : jSt (dC, dI) B base G0 G0 EX11_refuse s.heap 0 0 [(r0, 13, 4, .ref bo), (bo, 2, 1, .int pc), (bo, 2, 0, .ref pa), (r0, 13, 3, .ref ou)] [] [(jFy, jYb dC dI G0)] s.heap [] := jSt.start hX hP0 jMc.nil hI0
  clear hX hP0
  have hk0 : (0 : Int32).toInt = 0 := by decide
  have hk1 : (1 : Int32).toInt = 1 := by decide
  have hly_13_4 := htw (u_lay RX11 TX11 4) (jWc_wsX110 _ (u_in_lay (by decide)))
  obtain ⟨str464, rstr464, hstr4640⟩ := hG.str (o := RX11) (k := 464) (tx := ",\"error\":{\"code\":") (List.mem_of_getElem? (i := 821) (by decide +kernel))
  have hstr464 : jStr base str464 17 s s.heap := hstr4640
  have hlk_35 := (htw (.fieldLink RX11 35 "ProofServer" "body" "LProofServer$Bytes;") (jWr_2 _ (List.mem_of_getElem? (i := 1) rfl)))
  obtain ⟨str469, rstr469, hstr4690⟩ := hG.str (o := RX11) (k := 469) (tx := ",\"message\":\"") (List.mem_of_getElem? (i := 834) (by decide +kernel))
  have hstr469 : jStr base str469 12 s s.heap := hstr4690
  obtain ⟨str475, rstr475, hstr4750⟩ := hG.str (o := RX11) (k := 475) (tx := "\"}}") (List.mem_of_getElem? (i := 845) (by decide +kernel))
  have hstr475 : jStr base str475 3 s s.heap := hstr4750
  have hrg_a2 := jb_rng a2
  have hbs : base ≤ s.heap.size := Nat.le_of_lt (Nat.lt_of_le_of_lt (hh.ab hg_r0).1 (hh.ab hg_r0).2)
  have hbs : base ≤ s.heap.size := Nat.le_of_lt (Nat.lt_of_le_of_lt (hh.ab hg_r0).1 (hh.ab hg_r0).2)
  have hRc : R.cells = LC - s.heap.size := by rw [← hR]; rfl
  have hRs : R.slots = LS - jTot s.heap := by rw [← hR]; rfl
  have hh_1 := hh.addI (jOl.ie (dC := dC) (dI := dI) (G0 := G0) (k := 2) (rs := [bo, ou]) (H0 := s.heap) (F := [(2, 0), (2, 1)]) (C := RX0) (T := TX0) (N := 2) rfl (by decide) hh.2.2.2.2.1 (jOl.rf))
  clear hh
  refine lv_aload_n hx hb dX11_refuse_0 rfl (lv_at hl 0 rfl) ?_
  refine lv_aload_n hx hb dX11_refuse_1 rfl (lv_at hl 1 rfl) ?_
  refine j_ldcSw hx hb hown rstr464 dX11_refuse_2 ?_
  have hsz_2 := hh_1.2.2.2.2.2.1
  have htt_2 := hh_1.2.2.2.2.2.2.1
  refine W.room (fun hrc_2 hrs_2 => ?_)
  refine va_callv (A0 := jA base) (H0 := s.heap) (va_runV (As := [.ref r1, .ref str464]) (rest := []) ⟨hx, hb, hml, hown, hts⟩ (uX11_beginAnswer l dC dI ca base B hB hAp hB2 hB10 hB13 hB196 G0 s.heap r0 r1 str464 17 bo pc pa n_pa LC LS) (cwV 2 hts (jgV (jWr_26 _ (List.mem_of_getElem? (i := 7) rfl)) (jWr_26 _ (List.mem_of_getElem? (i := 8) rfl)) (jWr_26 _ (List.mem_of_getElem? (i := 9) rfl)) (jWr_1 _ (List.mem_of_getElem? (i := 2) rfl)) (jWr_26 _ (List.mem_of_getElem? (i := 10) rfl))) rfl rfl rfl (by decide +kernel) ⟨by rw [← hR]; exact Nat.le_of_ble_eq_true rfl, by rw [← hR]; exact Nat.le_of_ble_eq_true rfl⟩) ⟨fun a U g mk q => by obtain ⟨q0, q1, q2, qK, q10, q11, q12, q13, q14, q15, q16, q17⟩ := q; exact ⟨q0, q1, q2, jG.calling g mk a qK, (q10.moved (Vm.Alike.refl U.vm)), q11, q12, q13, q14, q15, q16, q17⟩, hh_1.recv (C := RX11) (T := TX11) (N := 19) hB13 rfl (by decide) hg_r0 hK, fun U hU hW => ⟨rfl, hU, hh_1.2.1, hG.step hW hU hh_1.1, (hstr464.moved hW.alike).kept hh_1.1.2.1, hg_r1, hg_r0, hg_bo, hg_pa, (hh_1.2.2.1.sub (L1 := [(r0, 13, 4, .ref bo), (bo, 2, 1, .int pc), (bo, 2, 0, .ref pa)]) [0, 1, 2] rfl), (hh_1.2.2.2.2.2.2.2.2.sub (L1 := [(jFy, jYb dC dI G0)]) [1] rfl), (by omega), (by omega), ⟨(by first | omega | rfl | assumption | fail), (by first | omega | rfl | assumption | fail), (by first | omega | rfl | assumption | fail), (by first | omega | rfl | assumption | fail), (by first | assumption | fail | omega), (by first | omega | rfl | assumption | fail)⟩⟩⟩ rfl rfl hl.1 rfl (lv_room (Nat.le_of_ble_eq_true rfl)) dX11_refuse_5 ⟨by rw [hRc]; omega, by rw [hRs]; omega⟩) hh_1.1 (fun q _ h => h) (fun q h => h) (fun u_2 t_2 H_2 locs_2 ht_2 hvm_2 hr_3 hb_2 hz_2 hk_2 hS_2 => ?_)
  obtain ⟨qc_2, qa_2, m_qa_2, G_2⟩ := u_2
  rw [ht_2] at hb_2
  simp only at hb_2
  obtain ⟨⟨hb_21, hb_22, hb_23, hb_24, hb_25, hb_26⟩, hgq_2_0, hN_2, hbO_2, hbE_2⟩ := hb_2
  have hh_2 : jSt (dC, dI) B base G0 G_2 EX11_refuse s.heap (0 + ((m_qa_2 - n_pa) / 16)) (0 + (2 * (m_qa_2 - n_pa))) [(bo, 2, 1, .int qc_2), (bo, 2, 0, .ref qa_2), (r0, 13, 4, .ref bo), (r0, 13, 3, .ref ou)] [] [] H_2 locs_2 := (hh_1.callG hb_21 hb_22 hb_23 hb_24 hb_25 hS_2 rfl (L1 := [(r0, 13, 4, .ref bo), (r0, 13, 3, .ref ou)]) [0, 3] rfl rfl (M1 := []) [] rfl rfl (I1 := []) [] rfl rfl).more hb_26
  have hNn_2 : (jNk [0, 1, 2, 3, 4, 5, 6, 7, 8, 9, 10, 11, 12, 13, 14, 15, 16]) G0 G_2 := (jNk.rf).tr hN_2
  have hg_4 := hb_22 _ _ hg_r0
  have hg_5 := hb_22 _ _ hg_r1
  have hg_6 := hb_22 _ _ hg_bo
  have hg_7 := hb_22 _ _ hg_ou
  have hh_8 := hh_2.addIs hbE_2
  have hd_9 := jOl.trL (hh_1.iv 0 rfl) hh_1.2.2.2.2.1 hbO_2 (by simp)
  have hh_10 := hh_8.addI (jOl.ie (dC := dC) (dI := dI) (G0 := G0) (k := 2) (rs := [bo, ou]) (H0 := s.heap) (F := [(2, 0), (2, 1)]) (C := RX0) (T := TX0) (N := 2) rfl (by decide) hh_8.2.2.2.2.1 (hd_9))
  clear hh_8
  try simp only at hr_3
  obtain ⟨hr_3_0, hr_3_1, hr_3_2, hr_3_3, hr_3_4⟩ := hr_3
  have hh_11 := hh_10.wk (zc1 := (m_qa_2 - n_pa) / 16) (zs1 := 2 * (m_qa_2 - n_pa)) (by omega) (by omega)
  clear hh_10
  try clear hsz_2 htt_2 hrc_2 hrs_2
  try clear hb_24 hb_25
  refine lv_aload_n hx hb dX11_refuse_8 rfl (lv_at hl 0 rfl) ?_
  refine j7_read hx hb hown hK (C := RX11) (T := TX11) (N := 19) rfl hly_13_4 hlk_35 (hh_11.at 2 rfl) dX11_refuse_9 ?_
  refine lv_iload_n hx hb dX11_refuse_12 rfl (lv_at hl 2 rfl) ?_
  have hsz_12 := hh_11.2.2.2.2.2.1
  have htt_12 := hh_11.2.2.2.2.2.2.1
  refine W.room (fun hrc_12 hrs_12 => ?_)
  refine va_callv (A0 := jA base) (H0 := s.heap) (va_runV (As := [.int a2]) (rest := []) ⟨hx, hb, hml, hown, hts⟩ (uX0_number l dC dI ca base B hB hAp hB2 hB196 G_2 H_2 bo a2 qc_2 qa_2 m_qa_2 LC LS) (cwV 1 hts (jgV (jWr_26 _ (List.mem_of_getElem? (i := 16) rfl)) (jWr_24 _ (List.mem_of_getElem? (i := 16) rfl)) (jWr_24 _ (List.mem_of_getElem? (i := 17) rfl)) (jWr_1 _ (List.mem_of_getElem? (i := 14) rfl)) (jWr_24 _ (List.mem_of_getElem? (i := 18) rfl))) rfl rfl rfl (by decide +kernel) ⟨by rw [← hR]; exact Nat.le_of_ble_eq_true rfl, by rw [← hR]; exact Nat.le_of_ble_eq_true rfl⟩) ⟨fun a U g mk q => by obtain ⟨q0, q1, q2, qK, q10, q11, q12, q13⟩ := q; exact ⟨q0, q1, q2, jG.calling g mk a qK, q10, q11, q12, q13⟩, hh_11.recv (C := RX0) (T := TX0) (N := 2) hB2 rfl (by decide) hg_6 hK, fun U hU hW => ⟨rfl, hU, hh_11.2.1, hG.step hW hU hh_11.1, hg_6, hgq_2_0, (hh_11.2.2.1.sub (L1 := [(bo, 2, 1, .int qc_2), (bo, 2, 0, .ref qa_2)]) [0, 1] rfl), (by omega), (by omega), ⟨(by first | omega | rfl | assumption | fail), (by first | omega | rfl | assumption | fail), (by first | omega | rfl | assumption | fail), (by first | omega | rfl | assumption | fail), (by first | assumption | fail | omega)⟩⟩⟩ rfl rfl hl.1 rfl (lv_room (Nat.le_of_ble_eq_true rfl)) dX11_refuse_13 ⟨by rw [hRc]; omega, by rw [hRs]; omega⟩) hh_11.1 (fun q _ h => h) (fun q h => h) (fun u_12 t_12 H_12 locs_12 ht_12 hvm_12 hr_13 hb_12 hz_12 hk_12 hS_12 => ?_)
  obtain ⟨qc_12, qa_12, m_qa_12, G_12⟩ := u_12
  rw [ht_12] at hb_12
  simp only at hb_12
  obtain ⟨⟨hb_121, hb_122, hb_123, hb_124, hb_125, hb_126⟩, hgq_12_0, hN_12, hbO_12⟩ := hb_12
  have hy_14 := hh_11.iv 1 rfl
  have hh_12 : jSt (dC, dI) B base G0 G_12 EX11_refuse s.heap (((m_qa_2 - n_pa) / 16) + ((m_qa_12 - m_qa_2) / 16)) ((2 * (m_qa_2 - n_pa)) + (2 * (m_qa_12 - m_qa_2))) [(bo, 2, 1, .int qc_12), (bo, 2, 0, .ref qa_12), (r0, 13, 4, .ref bo), (r0, 13, 3, .ref ou)] [] [] H_12 locs_12 := (hh_11.callG hb_121 hb_122 hb_123 hb_124 hb_125 hS_12 rfl (L1 := [(r0, 13, 4, .ref bo), (r0, 13, 3, .ref ou)]) [2, 3] rfl rfl (M1 := []) [] rfl rfl (I1 := []) [] rfl rfl).more hb_126
  have hNn_12 : (jNk [0, 1, 2, 3, 4, 5, 6, 7, 8, 9, 10, 11, 12, 13, 14, 15, 16]) G0 G_12 := (hNn_2).tr hN_12
  have hg_15 := hb_122 _ _ hg_4
  have hg_16 := hb_122 _ _ hg_5
  have hg_17 := hb_122 _ _ hg_6
  have hg_18 := hb_122 _ _ hg_7
  have hd_19 := jOl.trO (hh_11.iv 0 rfl) hh_11.2.2.2.2.1 hbO_12 (by simp)
  have hh_20 := hh_12.addI (jOl.ie (dC := dC) (dI := dI) (G0 := G0) (k := 2) (rs := [bo, ou]) (H0 := s.heap) (F := [(2, 0), (2, 1)]) (C := RX0) (T := TX0) (N := 2) rfl (by decide) hh_12.2.2.2.2.1 (hd_19))
  clear hh_12
  have hyp_12 : qc_12.toInt ≤ (m_qa_12 : Nat) ∧ m_qa_12 ≤ 1048576 := by (try simp only at hr_13); omega
  have hy_21 := jYb.own hy_14 hbO_12 hb_122 hN_12 (by decide) (fun _ => ⟨_, _, _, hh_20.at 0 rfl, hh_20.at 1 rfl, hgq_12_0, hyp_12⟩)
  have hh_22 := hh_20.addI (jYb.ie hy_21)
  clear hh_20
  try simp only at hr_13
  obtain ⟨hr_13_0, hr_13_1, hr_13_2, hr_13_3, hr_13_4⟩ := hr_13
  have hh_23 := hh_22.wk (zc1 := (m_qa_12 - n_pa) / 16) (zs1 := 2 * (m_qa_12 - n_pa)) (by omega) (by omega)
  clear hh_22
  try clear hsz_12 htt_12 hrc_12 hrs_12
  try clear hb_124 hb_125
  refine lv_aload_n hx hb dX11_refuse_16 rfl (lv_at hl 0 rfl) ?_
  refine j7_read hx hb hown hK (C := RX11) (T := TX11) (N := 19) rfl hly_13_4 hlk_35 (hh_23.at 2 rfl) dX11_refuse_17 ?_
  refine j_ldcSw hx hb hown rstr469 dX11_refuse_20 ?_
  have hsz_24 := hh_23.2.2.2.2.2.1
  have htt_24 := hh_23.2.2.2.2.2.2.1
  refine W.room (fun hrc_24 hrs_24 => ?_)
  refine va_callv (A0 := jA base) (H0 := s.heap) (va_runV (As := [.ref str469]) (rest := []) ⟨hx, hb, hml, hown, hts⟩ (uX0_text l dC dI ca base B hB hAp hB2 hB196 G_12 H_12 bo str469 12 qc_12 qa_12 m_qa_12 LC LS) (cwV 1 hts (jgV (jWr_26 _ (List.mem_of_getElem? (i := 11) rfl)) (jWr_25 _ (List.mem_of_getElem? (i := 22) rfl)) (jWr_25 _ (List.mem_of_getElem? (i := 23) rfl)) (jWr_1 _ (List.mem_of_getElem? (i := 14) rfl)) (jWr_26 _ (List.mem_of_getElem? (i := 0) rfl))) rfl rfl rfl (by decide +kernel) ⟨by rw [← hR]; exact Nat.le_of_ble_eq_true rfl, by rw [← hR]; exact Nat.le_of_ble_eq_true rfl⟩) ⟨fun a U g mk q => by obtain ⟨q0, q1, q2, qK, q10, q11, q12, q13, q14⟩ := q; exact ⟨q0, q1, q2, jG.calling g mk a qK, (q10.moved (Vm.Alike.refl U.vm)), q11, q12, q13, q14⟩, hh_23.recv (C := RX0) (T := TX0) (N := 2) hB2 rfl (by decide) hg_17 hK, fun U hU hW => ⟨rfl, hU, hh_23.2.1, hG.step hW hU hh_23.1, (hstr469.moved hW.alike).kept hh_23.1.2.1, hg_17, hgq_12_0, (hh_23.2.2.1.sub (L1 := [(bo, 2, 1, .int qc_12), (bo, 2, 0, .ref qa_12)]) [0, 1] rfl), (by omega), (by omega), ⟨(by first | omega | rfl | assumption | fail), (by first | omega | rfl | assumption | fail), (by first | omega | rfl | assumption | fail), (by first | omega | rfl | assumption | fail), (by first | assumption | fail | omega), (by first | omega | rfl | assumption | fail)⟩⟩⟩ rfl rfl hl.1 rfl (lv_room (Nat.le_of_ble_eq_true rfl)) dX11_refuse_23 ⟨by rw [hRc]; omega, by rw [hRs]; omega⟩) hh_23.1 (fun q _ h => h) (fun q h => h) (fun u_24 t_24 H_24 locs_24 ht_24 hvm_24 hr_25 hb_24 hz_24 hk_24 hS_24 => ?_)
  obtain ⟨qc_24, qa_24, m_qa_24, G_24⟩ := u_24
  rw [ht_24] at hb_24
  simp only at hb_24
  obtain ⟨⟨hb_241, hb_242, hb_243, hb_244, hb_245, hb_246⟩, hgq_24_0, hN_24, hbO_24⟩ := hb_24
  have hy_26 := hh_23.iv 0 rfl
  have hh_24 : jSt (dC, dI) B base G0 G_24 EX11_refuse s.heap (((m_qa_12 - n_pa) / 16) + ((m_qa_24 - m_qa_12) / 16)) ((2 * (m_qa_12 - n_pa)) + (2 * (m_qa_24 - m_qa_12))) [(bo, 2, 1, .int qc_24), (bo, 2, 0, .ref qa_24), (r0, 13, 4, .ref bo), (r0, 13, 3, .ref ou)] [] [] H_24 locs_24 := (hh_23.callG hb_241 hb_242 hb_243 hb_244 hb_245 hS_24 rfl (L1 := [(r0, 13, 4, .ref bo), (r0, 13, 3, .ref ou)]) [2, 3] rfl rfl (M1 := []) [] rfl rfl (I1 := []) [] rfl rfl).more hb_246
  have hNn_24 : (jNk [0, 1, 2, 3, 4, 5, 6, 7, 8, 9, 10, 11, 12, 13, 14, 15, 16]) G0 G_24 := (hNn_12).tr hN_24
  have hg_27 := hb_242 _ _ hg_15
  have hg_28 := hb_242 _ _ hg_16
  have hg_29 := hb_242 _ _ hg_17
  have hg_30 := hb_242 _ _ hg_18
  have hd_31 := jOl.trO (hh_23.iv 1 rfl) hh_23.2.2.2.2.1 hbO_24 (by simp)
  have hh_32 := hh_24.addI (jOl.ie (dC := dC) (dI := dI) (G0 := G0) (k := 2) (rs := [bo, ou]) (H0 := s.heap) (F := [(2, 0), (2, 1)]) (C := RX0) (T := TX0) (N := 2) rfl (by decide) hh_24.2.2.2.2.1 (hd_31))
  clear hh_24
  have hyp_24 : qc_24.toInt ≤ (m_qa_24 : Nat) ∧ m_qa_24 ≤ 1048576 := by (try simp only at hr_25); omega
  have hy_33 := jYb.own hy_26 hbO_24 hb_242 hN_24 (by decide) (fun _ => ⟨_, _, _, hh_32.at 0 rfl, hh_32.at 1 rfl, hgq_24_0, hyp_24⟩)
  have hh_34 := hh_32.addI (jYb.ie hy_33)
  clear hh_32
  try simp only at hr_25
  obtain ⟨hr_25_0, hr_25_1, hr_25_2, hr_25_3, hr_25_4⟩ := hr_25
  have hh_35 := hh_34.wk (zc1 := (m_qa_24 - n_pa) / 16) (zs1 := 2 * (m_qa_24 - n_pa)) (by omega) (by omega)
  clear hh_34
  try clear hsz_24 htt_24 hrc_24 hrs_24
  try clear hb_244 hb_245
  refine lv_aload_n hx hb dX11_refuse_26 rfl (lv_at hl 0 rfl) ?_
  refine j7_read hx hb hown hK (C := RX11) (T := TX11) (N := 19) rfl hly_13_4 hlk_35 (hh_35.at 2 rfl) dX11_refuse_27 ?_
  refine lv_iload_n hx hb dX11_refuse_30 rfl (lv_at hl 2 rfl) ?_
  have hsz_36 := hh_35.2.2.2.2.2.1
  have htt_36 := hh_35.2.2.2.2.2.2.1
  refine W.room (fun hrc_36 hrs_36 => ?_)
  refine j_callx (A0 := jA base) (H0 := s.heap) (va_runS (As := [.int a2]) (rest := [.ref bo]) ⟨hx, hb, hml, hown, hts⟩ (uX11_errorText l dC dI ca base B hB hAp G_24 H_24 a2) (va_cwS 1 hts (jgS (jWr_26 _ (List.mem_of_getElem? (i := 17) rfl)) (jWr_26 _ (List.mem_of_getElem? (i := 18) rfl)) (jWr_1 _ (List.mem_of_getElem? (i := 2) rfl)) (jWr_26 _ (List.mem_of_getElem? (i := 19) rfl))) rfl rfl rfl (by decide +kernel) ⟨by rw [← hR]; exact Nat.le_of_ble_eq_true rfl, by rw [← hR]; exact Nat.le_of_ble_eq_true rfl⟩) ⟨fun a U g mk q => by obtain ⟨q0, q1, q2, qK, q10, q11⟩ := q; exact ⟨q0, q1, q2, jG.calling g mk a qK, q10, q11⟩, fun U hU hW => ⟨rfl, hU, hh_35.2.1, hG.step hW hU hh_35.1, jP.nil, trivial⟩⟩ rfl rfl hl.1 rfl (lv_room (Nat.le_of_ble_eq_true rfl)) dX11_refuse_31 ⟨by rw [hRc]; show _ + 0 ≤ _; omega, by rw [hRs]; show _ + 0 ≤ _; omega⟩) hh_35.1 (fun q _ h => h) (fun q h => h) (fun r_37 u_36 t_36 H_36 locs_36 ht_36 hvm_36 hr_37 hb_36 hz_36 hk_36 hS_36 => ?_)
  rw [ht_36] at hb_36
  obtain ⟨hb_36, hbV_36⟩ := hb_36
  obtain ⟨hb_361, hb_362, hb_363, hb_364, hb_365⟩ := hb_36
  have hh_36 : jSt (dC, dI) B base G0 G_24 EX11_refuse s.heap ((m_qa_24 - n_pa) / 16) (2 * (m_qa_24 - n_pa)) [(bo, 2, 1, .int qc_24), (bo, 2, 0, .ref qa_24), (r0, 13, 4, .ref bo), (r0, 13, 3, .ref ou)] [] [(jFy, jYb dC dI G_24), ([(2, 0), (2, 1)], jOl (dC, dI) G0 2 [bo, ou] s.heap)] H_36 locs_36 := ((hh_35.call hb_361 hb_362 hb_363 hb_364 hS_36 rfl (L1 := [(bo, 2, 1, .int qc_24), (bo, 2, 0, .ref qa_24), (r0, 13, 4, .ref bo), (r0, 13, 3, .ref ou)]) [0, 1, 2, 3] rfl rfl (M1 := []) [] rfl rfl (I1 := [(jFy, jYb dC dI G_24), ([(2, 0), (2, 1)], jOl (dC, dI) G0 2 [bo, ou] s.heap)]) [0, 1] rfl rfl).more hb_365)
  obtain ⟨rfl, hn_36⟩ := hr_37
  have hstr_36 : jStr base u_36.1 u_36.2 s s.heap := hbV_36.back hvm_36 hbs hh_36.1.2.1
  clear hh_35 ht_36 hvm_36 hz_36 hk_36 hS_36 hb_361 hb_362 hb_363 hb_364 hb_365
  have hsz_38 := hh_36.2.2.2.2.2.1
  have htt_38 := hh_36.2.2.2.2.2.2.1
  refine W.room (fun hrc_38 hrs_38 => ?_)
  refine va_callv (A0 := jA base) (H0 := s.heap) (va_runV (As := [.ref u_36.1]) (rest := []) ⟨hx, hb, hml, hown, hts⟩ (uX0_text l dC dI ca base B hB hAp hB2 hB196 G_24 H_36 bo u_36.1 u_36.2 qc_24 qa_24 m_qa_24 LC LS) (cwV 1 hts (jgV (jWr_26 _ (List.mem_of_getElem? (i := 11) rfl)) (jWr_25 _ (List.mem_of_getElem? (i := 22) rfl)) (jWr_25 _ (List.mem_of_getElem? (i := 23) rfl)) (jWr_1 _ (List.mem_of_getElem? (i := 14) rfl)) (jWr_26 _ (List.mem_of_getElem? (i := 0) rfl))) rfl rfl rfl (by decide +kernel) ⟨by rw [← hR]; exact Nat.le_of_ble_eq_true rfl, by rw [← hR]; exact Nat.le_of_ble_eq_true rfl⟩) ⟨fun a U g mk q => by obtain ⟨q0, q1, q2, qK, q10, q11, q12, q13, q14⟩ := q; exact ⟨q0, q1, q2, jG.calling g mk a qK, (q10.moved (Vm.Alike.refl U.vm)), q11, q12, q13, q14⟩, hh_36.recv (C := RX0) (T := TX0) (N := 2) hB2 rfl (by decide) hg_29 hK, fun U hU hW => ⟨rfl, hU, hh_36.2.1, hG.step hW hU hh_36.1, (hstr_36.moved hW.alike).kept hh_36.1.2.1, hg_29, hgq_24_0, (hh_36.2.2.1.sub (L1 := [(bo, 2, 1, .int qc_24), (bo, 2, 0, .ref qa_24)]) [0, 1] rfl), (by omega), (by omega), ⟨(by first | omega | rfl | assumption | fail), (by first | omega | rfl | assumption | fail), (by first | omega | rfl | assumption | fail), (by first | omega | rfl | assumption | fail), (by first | assumption | fail | omega), (by first | omega | rfl | assumption | fail)⟩⟩⟩ rfl rfl hl.1 rfl (lv_room (Nat.le_of_ble_eq_true rfl)) dX11_refuse_34 ⟨by rw [hRc]; omega, by rw [hRs]; omega⟩) hh_36.1 (fun q _ h => h) (fun q h => h) (fun u_38 t_38 H_38 locs_38 ht_38 hvm_38 hr_39 hb_38 hz_38 hk_38 hS_38 => ?_)
  obtain ⟨qc_38, qa_38, m_qa_38, G_38⟩ := u_38
  rw [ht_38] at hb_38
  simp only at hb_38
  obtain ⟨⟨hb_381, hb_382, hb_383, hb_384, hb_385, hb_386⟩, hgq_38_0, hN_38, hbO_38⟩ := hb_38
  have hy_40 := hh_36.iv 0 rfl
  have hh_38 : jSt (dC, dI) B base G0 G_38 EX11_refuse s.heap (((m_qa_24 - n_pa) / 16) + ((m_qa_38 - m_qa_24) / 16)) ((2 * (m_qa_24 - n_pa)) + (2 * (m_qa_38 - m_qa_24))) [(bo, 2, 1, .int qc_38), (bo, 2, 0, .ref qa_38), (r0, 13, 4, .ref bo), (r0, 13, 3, .ref ou)] [] [] H_38 locs_38 := (hh_36.callG hb_381 hb_382 hb_383 hb_384 hb_385 hS_38 rfl (L1 := [(r0, 13, 4, .ref bo), (r0, 13, 3, .ref ou)]) [2, 3] rfl rfl (M1 := []) [] rfl rfl (I1 := []) [] rfl rfl).more hb_386
  have hNn_38 : (jNk [0, 1, 2, 3, 4, 5, 6, 7, 8, 9, 10, 11, 12, 13, 14, 15, 16]) G0 G_38 := (hNn_24).tr hN_38
  have hg_41 := hb_382 _ _ hg_27
  have hg_42 := hb_382 _ _ hg_28
  have hg_43 := hb_382 _ _ hg_29
  have hg_44 := hb_382 _ _ hg_30
  have hd_45 := jOl.trO (hh_36.iv 1 rfl) hh_36.2.2.2.2.1 hbO_38 (by simp)
  have hh_46 := hh_38.addI (jOl.ie (dC := dC) (dI := dI) (G0 := G0) (k := 2) (rs := [bo, ou]) (H0 := s.heap) (F := [(2, 0), (2, 1)]) (C := RX0) (T := TX0) (N := 2) rfl (by decide) hh_38.2.2.2.2.1 (hd_45))
  clear hh_38
  have hyp_38 : qc_38.toInt ≤ (m_qa_38 : Nat) ∧ m_qa_38 ≤ 1048576 := by (try simp only at hr_39); omega
  have hy_47 := jYb.own hy_40 hbO_38 hb_382 hN_38 (by decide) (fun _ => ⟨_, _, _, hh_46.at 0 rfl, hh_46.at 1 rfl, hgq_38_0, hyp_38⟩)
  have hh_48 := hh_46.addI (jYb.ie hy_47)
  clear hh_46
  try simp only at hr_39
  obtain ⟨hr_39_0, hr_39_1, hr_39_2, hr_39_3, hr_39_4⟩ := hr_39
  have hh_49 := hh_48.wk (zc1 := (m_qa_38 - n_pa) / 16) (zs1 := 2 * (m_qa_38 - n_pa)) (by omega) (by omega)
  clear hh_48
  try clear hsz_38 htt_38 hrc_38 hrs_38
  try clear hb_384 hb_385
  refine lv_aload_n hx hb dX11_refuse_37 rfl (lv_at hl 0 rfl) ?_
  refine j7_read hx hb hown hK (C := RX11) (T := TX11) (N := 19) rfl hly_13_4 hlk_35 (hh_49.at 2 rfl) dX11_refuse_38 ?_
  refine j_ldcSw hx hb hown rstr475 dX11_refuse_41 ?_
  have hsz_50 := hh_49.2.2.2.2.2.1
  have htt_50 := hh_49.2.2.2.2.2.2.1
  refine W.room (fun hrc_50 hrs_50 => ?_)
  refine va_callv (A0 := jA base) (H0 := s.heap) (va_runV (As := [.ref str475]) (rest := []) ⟨hx, hb, hml, hown, hts⟩ (uX0_text l dC dI ca base B hB hAp hB2 hB196 G_38 H_38 bo str475 3 qc_38 qa_38 m_qa_38 LC LS) (cwV 1 hts (jgV (jWr_26 _ (List.mem_of_getElem? (i := 11) rfl)) (jWr_25 _ (List.mem_of_getElem? (i := 22) rfl)) (jWr_25 _ (List.mem_of_getElem? (i := 23) rfl)) (jWr_1 _ (List.mem_of_getElem? (i := 14) rfl)) (jWr_26 _ (List.mem_of_getElem? (i := 0) rfl))) rfl rfl rfl (by decide +kernel) ⟨by rw [← hR]; exact Nat.le_of_ble_eq_true rfl, by rw [← hR]; exact Nat.le_of_ble_eq_true rfl⟩) ⟨fun a U g mk q => by obtain ⟨q0, q1, q2, qK, q10, q11, q12, q13, q14⟩ := q; exact ⟨q0, q1, q2, jG.calling g mk a qK, (q10.moved (Vm.Alike.refl U.vm)), q11, q12, q13, q14⟩, hh_49.recv (C := RX0) (T := TX0) (N := 2) hB2 rfl (by decide) hg_43 hK, fun U hU hW => ⟨rfl, hU, hh_49.2.1, hG.step hW hU hh_49.1, (hstr475.moved hW.alike).kept hh_49.1.2.1, hg_43, hgq_38_0, (hh_49.2.2.1.sub (L1 := [(bo, 2, 1, .int qc_38), (bo, 2, 0, .ref qa_38)]) [0, 1] rfl), (by omega), (by omega), ⟨(by first | omega | rfl | assumption | fail), (by first | omega | rfl | assumption | fail), (by first | omega | rfl | assumption | fail), (by first | omega | rfl | assumption | fail), (by first | assumption | fail | omega), (by first | omega | rfl | assumption | fail)⟩⟩⟩ rfl rfl hl.1 rfl (lv_room (Nat.le_of_ble_eq_true rfl)) dX11_refuse_44 ⟨by rw [hRc]; omega, by rw [hRs]; omega⟩) hh_49.1 (fun q _ h => h) (fun q h => h) (fun u_50 t_50 H_50 locs_50 ht_50 hvm_50 hr_51 hb_50 hz_50 hk_50 hS_50 => ?_)
  obtain ⟨qc_50, qa_50, m_qa_50, G_50⟩ := u_50
  rw [ht_50] at hb_50
  simp only at hb_50
  obtain ⟨⟨hb_501, hb_502, hb_503, hb_504, hb_505, hb_506⟩, hgq_50_0, hN_50, hbO_50⟩ := hb_50
  have hy_52 := hh_49.iv 0 rfl
  have hh_50 : jSt (dC, dI) B base G0 G_50 EX11_refuse s.heap (((m_qa_38 - n_pa) / 16) + ((m_qa_50 - m_qa_38) / 16)) ((2 * (m_qa_38 - n_pa)) + (2 * (m_qa_50 - m_qa_38))) [(bo, 2, 1, .int qc_50), (bo, 2, 0, .ref qa_50), (r0, 13, 4, .ref bo), (r0, 13, 3, .ref ou)] [] [] H_50 locs_50 := (hh_49.callG hb_501 hb_502 hb_503 hb_504 hb_505 hS_50 rfl (L1 := [(r0, 13, 4, .ref bo), (r0, 13, 3, .ref ou)]) [2, 3] rfl rfl (M1 := []) [] rfl rfl (I1 := []) [] rfl rfl).more hb_506
  have hNn_50 : (jNk [0, 1, 2, 3, 4, 5, 6, 7, 8, 9, 10, 11, 12, 13, 14, 15, 16]) G0 G_50 := (hNn_38).tr hN_50
  have hg_53 := hb_502 _ _ hg_41
  have hg_54 := hb_502 _ _ hg_42
  have hg_55 := hb_502 _ _ hg_43
  have hg_56 := hb_502 _ _ hg_44
  have hd_57 := jOl.trO (hh_49.iv 1 rfl) hh_49.2.2.2.2.1 hbO_50 (by simp)
  have hh_58 := hh_50.addI (jOl.ie (dC := dC) (dI := dI) (G0 := G0) (k := 2) (rs := [bo, ou]) (H0 := s.heap) (F := [(2, 0), (2, 1)]) (C := RX0) (T := TX0) (N := 2) rfl (by decide) hh_50.2.2.2.2.1 (hd_57))
  clear hh_50
  have hyp_50 : qc_50.toInt ≤ (m_qa_50 : Nat) ∧ m_qa_50 ≤ 1048576 := by (try simp only at hr_51); omega
  have hy_59 := jYb.own hy_52 hbO_50 hb_502 hN_50 (by decide) (fun _ => ⟨_, _, _, hh_58.at 0 rfl, hh_58.at 1 rfl, hgq_50_0, hyp_50⟩)
  have hh_60 := hh_58.addI (jYb.ie hy_59)
  clear hh_58
  try simp only at hr_51
  obtain ⟨hr_51_0, hr_51_1, hr_51_2, hr_51_3, hr_51_4⟩ := hr_51
  have hh_61 := hh_60.wk (zc1 := (m_qa_50 - n_pa) / 16) (zs1 := 2 * (m_qa_50 - n_pa)) (by omega) (by omega)
  clear hh_60
  try clear hsz_50 htt_50 hrc_50 hrs_50
  try clear hb_504 hb_505
  refine lv_aload_n hx hb dX11_refuse_47 rfl (lv_at hl 0 rfl) ?_
  obtain ⟨v_64, hv_64, hh_65⟩ := hh_61.pin (C := RX0) (T := TX0) (N := 2) hB2 rfl (by decide) hg_56 (i := 1) (by decide) rfl
  obtain ⟨count_66, rfl, hlocount_66, hhicount_66, hfxcount_66⟩ := hv_64
  obtain ⟨v_67, hv_67, hh_68⟩ := hh_65.pin (C := RX0) (T := TX0) (N := 2) hB2 rfl (by decide) hg_56 (i := 0) (by decide) rfl
  obtain ⟨row_69, nrow_69, rfl, hg_row_69, hlorow_69, hhirow_69, hpwrow_69, hfxrow_69⟩ := jBr.k6 (by decide) hv_67
  have hsz_62 := hh_68.2.2.2.2.2.1
  have htt_62 := hh_68.2.2.2.2.2.2.1
  refine W.room (fun hrc_62 hrs_62 => ?_)
  refine va_callv (A0 := jA base) (H0 := s.heap) (va_runV (As := []) (rest := []) ⟨hx, hb, hml, hown, hts⟩ (uX11_send l dC dI ca base B hB hAp hB2 hB4 hB13 hB196 G_50 H_50 r0 bo qc_50 qa_50 m_qa_50 ou count_66 row_69 nrow_69) (cwV 0 hts (jgV (jWr_26 _ (List.mem_of_getElem? (i := 20) rfl)) (jWr_26 _ (List.mem_of_getElem? (i := 21) rfl)) (jWr_26 _ (List.mem_of_getElem? (i := 22) rfl)) (jWr_1 _ (List.mem_of_getElem? (i := 2) rfl)) (jWr_26 _ (List.mem_of_getElem? (i := 23) rfl))) rfl rfl rfl (by decide +kernel) ⟨by rw [← hR]; exact Nat.le_of_ble_eq_true rfl, by rw [← hR]; exact Nat.le_of_ble_eq_true rfl⟩) ⟨fun a U g mk q => by obtain ⟨q0, q1, q2, qK, q10, q11, q12, q13, q14, q15, q16, q17⟩ := q; exact ⟨q0, q1, q2, jG.calling g mk a qK, q10, q11, q12, q13, q14, q15, q16, q17⟩, hh_68.recv (C := RX11) (T := TX11) (N := 19) hB13 rfl (by decide) hg_53 hK, fun U hU hW => ⟨rfl, hU, hh_68.2.1, hG.step hW hU hh_68.1, hg_53, hg_55, hgq_50_0, hg_56, hg_row_69, (hh_68.2.2.1.sub (L1 := [(r0, 13, 4, .ref bo), (bo, 2, 1, .int qc_50), (bo, 2, 0, .ref qa_50), (r0, 13, 3, .ref ou), (ou, 2, 1, .int count_66), (ou, 2, 0, .ref row_69)]) [4, 2, 3, 5, 1, 0] rfl), (hh_68.2.2.2.2.2.2.2.2.sub (L1 := [(jFy, jYb dC dI G_50)]) [0] rfl), ⟨(by first | omega | rfl | assumption | fail), (by first | omega | rfl | assumption | fail), (by first | omega | rfl | assumption | fail), (by first | omega | rfl | assumption | fail), (by first | omega | rfl | assumption | fail), (by first | omega | rfl | assumption | fail)⟩⟩⟩ rfl rfl hl.1 rfl (lv_room (Nat.le_of_ble_eq_true rfl)) dX11_refuse_48 ⟨by rw [hRc]; show _ + 0 ≤ _; omega, by rw [hRs]; show _ + 0 ≤ _; omega⟩) hh_68.1 (fun q _ h => h) (fun q h => h) (fun u_62 t_62 H_62 locs_62 ht_62 hvm_62 hr_63 hb_62 hz_62 hk_62 hS_62 => ?_)
  rw [ht_62] at hb_62
  obtain ⟨hb_62, hbE_62⟩ := hb_62
  obtain ⟨hb_62, hbO_62⟩ := hb_62
  obtain ⟨hb_621, hb_622, hb_623, hb_624, hb_625⟩ := hb_62
  have hh_62 : jSt (dC, dI) B base G0 G_50 EX11_refuse s.heap ((m_qa_50 - n_pa) / 16) (2 * (m_qa_50 - n_pa)) [(r0, 13, 4, .ref bo), (r0, 13, 3, .ref ou)] [] [(jFy, jYb dC dI G_50)] H_62 locs_62 := (((hh_68.call hb_621 hb_622 hb_623 hb_624 hS_62 rfl (L1 := [(r0, 13, 4, .ref bo), (r0, 13, 3, .ref ou)]) [4, 5] rfl rfl (M1 := []) [] rfl rfl (I1 := []) [] rfl rfl).more hb_625)).addIs hbE_62
  have hh_70 := hh_62.more (P1 := [(bo, 2, 1, .int qc_50), (bo, 2, 0, .ref qa_50)]) (jP.cons hg_55 (hbO_62 _ _ _ _ (jn1 (by first | assumption | exact Ne.symm (by assumption) | exact jnek hg_55 hg_56 (by decide))) hg_55 (hh_68.at 2 rfl)) (jP.cons hg_55 (hbO_62 _ _ _ _ (jn1 (by first | assumption | exact Ne.symm (by assumption) | exact jnek hg_55 hg_56 (by decide))) hg_55 (hh_68.at 3 rfl)) jP.nil))
  have hd_71 := jOl.trL (hh_68.iv 1 rfl) hh_68.2.2.2.2.1 hbO_62 (by simp)
  have hh_72 := hh_70.addI (jOl.ie (dC := dC) (dI := dI) (G0 := G0) (k := 2) (rs := [bo, ou]) (H0 := s.heap) (F := [(2, 0), (2, 1)]) (C := RX0) (T := TX0) (N := 2) rfl (by decide) hh_70.2.2.2.2.1 (hd_71))
  clear hh_70
  clear hh_68 ht_62 hvm_62 hz_62 hk_62 hS_62 hb_621 hb_622 hb_623 hb_624 hb_625
  clear  hbE_62
  have hsz_73 := hh_72.2.2.2.2.2.1
  have htt_73 := hh_72.2.2.2.2.2.2.1
  refine W.room (fun hrc_73 hrs_73 => ?_)
  refine W.widen (k := LC - s.heap.size) (n := LS - jTot s.heap) (by omega) (by omega) ?_
  rw [hQ]
  exact W.vret hx hb hr (fun t ht hW => ⟨⟨(qc_50, qa_50, m_qa_50, G_50), rfl, by (try dsimp only); exact ⟨(by first | omega | rfl | assumption | fail), (by first | omega | rfl | assumption | fail), (by first | omega | rfl | assumption | fail), (by first | omega | rfl | assumption | fail), (by first | assumption | fail | omega)⟩, ⟨hh_72.ra (by first | omega | (simp only; omega)) (by first | omega | (simp only; omega)) (M1 := [(bo, 2, 1, .int qc_50), (bo, 2, 0, .ref qa_50)]) [0, 1] rfl ht, hgq_50_0, hNn_50, by rw [ht]; exact hh_72.iv 0 rfl, by rw [ht]; exact hh_72.2.2.2.2.2.2.2.2.sub (L1 := [(jFy, jYb dC dI G_50)]) [1] rfl⟩⟩, by rw [ht]; try exact hh_72.1.1, fun q h9 hq => by rw [ht]; try exact hh_72.1.2.1 q h9 hq⟩) hh_72.1.2.2 dX11_refuse_51
set_option maxHeartbeats 4000000 in
set_option maxRecDepth 20000 in
theorem uX11_publish (l : Launch) (dC : Nat → ClassId) (dI : Nat → Nat → Nat) (ca : Nat → ClassId) (base : Nat) (B : jF) (hB : jBok B) (hAp : jAp (dC, dI)) (hB2 : ∀ n G a H, B 2 n G a H ↔ jOb (dC, dI) 2 2 (F2 n G) a H) (hB3 : ∀ n G a H, B 3 n G a H ↔ jOb (dC, dI) 3 17 (F3 n G) a H) (hB4 : ∀ n G a H, B 4 n G a H ↔ jOb (dC, dI) 4 12 (F4 n G) a H) (hB11 : ∀ n G a H, B 11 n G a H ↔ jOb (dC, dI) 11 9 (F11 n G) a H) (hB13 : ∀ n G a H, B 13 n G a H ↔ jOb (dC, dI) 13 19 (F13 n G) a H) (hB101 : ∀ n G a H, B 101 n G a H ↔ jAr (dC, dI) (ca 1) (fun j z => True) n a H) (hB171 : ∀ n G a H, B 171 n G a H ↔ jAr (dC, dI) (ca 1) (fun j z => 0 ≤ z.toInt ∧ z.toInt ≤ 1500) n a H) (hB172 : ∀ n G a H, B 172 n G a H ↔ jAr (dC, dI) (ca 1) (fun j z => 0 ≤ z.toInt ∧ z.toInt ≤ 1500) n a H) (hB173 : ∀ n G a H, B 173 n G a H ↔ jAr (dC, dI) (ca 1) (fun j z => True) n a H) (hB174 : ∀ n G a H, B 174 n G a H ↔ jAr (dC, dI) (ca 1) (fun j z => True) n a H) (hB196 : ∀ n G a H, B 196 n G a H ↔ jAr (dC, dI) (ca 0) (fun j z => jBf j z) n a H) (hB210 : ∀ n G a H, B 210 n G a H ↔ jAq (dC, dI) (ca 6) (jQn 11 0) n G a H) (G0 : jT) (H0 : Heap) (r0 : Nat) (r1 : Nat) (a2 : Int32) (bo : Nat) (pc : Int32) (pa : Nat) (n_pa : Nat) (ou : Nat) (LC LS : Nat) : Met l yX11_publish (jw yX11_publish cX11_publish 5 none) ({ frames := 7, cells := LC - H0.size, slots := LS - jTot H0, locals := 207 }) (va_Pc [.ref r0, .ref r1, .int a2] (fun U => U.heap = H0 ∧ jX B base G0 [] H0 ∧ jG dC dI ca base U ∧ jK2 dC dI ca U ∧ G0 r1 = some (3, 0) ∧ G0 r0 = some (13, 0) ∧ (a2 = 0 ∨ a2 = 1) ∧ G0 bo = some (2, 0) ∧ G0 pa = some (196, n_pa) ∧ G0 ou = some (2, 20000) ∧ jP (dC, dI) G0 H0 [(r0, 13, 4, .ref bo), (bo, 2, 1, .int pc), (bo, 2, 0, .ref pa), (r0, 13, 3, .ref ou)] ∧ jIs (dC, dI) G0 H0 [(jFy, jYb dC dI G0)] ∧ H0.size + (1048576 - n_pa) / 16 + 1 ≤ LC ∧ jTot H0 + 2 * (1048576 - n_pa) ≤ LS ∧ 0 ≤ pc.toInt ∧ pc.toInt ≤ n_pa ∧ 16 ≤ n_pa ∧ n_pa ≤ 1048576 ∧ jPw n_pa)) (va_Qv (S := Int32 × Nat × Nat × jT) (fun u => 0 ≤ u.1.toInt ∧ u.1.toInt ≤ u.2.2.1 ∧ n_pa ≤ u.2.2.1 ∧ u.2.2.1 ≤ 1048576 ∧ jPw u.2.2.1) (fun u t => jRa (dC, dI) B base G0 u.2.2.2 EX11_publish H0 ((u.2.2.1 - n_pa) / 16) (2 * (u.2.2.1 - n_pa)) [(bo, 2, 1, .int u.1), (bo, 2, 0, .ref u.2.1)] t.heap ∧ u.2.2.2 u.2.1 = some (196, u.2.2.1) ∧ (jNk [0, 1, 2, 3, 4, 5, 6, 7, 8, 9, 10, 11, 12, 13, 14, 15, 16]) G0 u.2.2.2 ∧ jOl (dC, dI) G0 2 [bo, ou] H0 t.heap ∧ jIs (dC, dI) u.2.2.2 t.heap [(jFy, jYb dC dI u.2.2.2)]) (jA base)) (LC - H0.size) (LS - jTot H0) (jA base) := by
  refine Met.ofW (cc := cX11_publish) (maxL := 5) (ret := none) (by decide) rfl ?_
  intro p e s m args below meth c s₁ Bd hml hv
  obtain ⟨rfl, hH0, hX, hG, hK2, hg_r1, hg_r0, hz_a2, hg_bo, hg_pa, hg_ou, hP0, hI0, hLC0, hLS0, hp0, hp1, hp2, hp3, hp4⟩ := hv
  have hK := hG.1
  have hx := Bd.exec
  have hb := Bd.bytes
  have hr := Bd.returns
  have hts := atoms_spec (ws := (jw yX11_publish cX11_publish 5 none)) Bd.pre
  have htw : ∀ w ∈ jWl, w.before _ s = true := fun w h => hts w (List.mem_cons_of_mem _ h)
  have hown : s.vm.findClass RX11 = some m.cls := findClass_of_methodNamed Bd.named
  have hlocks := Bd.notSynchronized
  obtain ⟨Q, hQ⟩ : ∃ Q, Q = MQ below (va_Qv (S := Int32 × Nat × Nat × jT) (fun u => 0 ≤ u.1.toInt ∧ u.1.toInt ≤ u.2.2.1 ∧ n_pa ≤ u.2.2.1 ∧ u.2.2.1 ≤ 1048576 ∧ jPw u.2.2.1) (fun u t => jRa (dC, dI) B base G0 u.2.2.2 EX11_publish H0 ((u.2.2.1 - n_pa) / 16) (2 * (u.2.2.1 - n_pa)) [(bo, 2, 1, .int u.1), (bo, 2, 0, .ref u.2.1)] t.heap ∧ u.2.2.2 u.2.1 = some (196, u.2.2.1) ∧ (jNk [0, 1, 2, 3, 4, 5, 6, 7, 8, 9, 10, 11, 12, 13, 14, 15, 16]) G0 u.2.2.2 ∧ jOl (dC, dI) G0 2 [bo, ou] H0 t.heap ∧ jIs (dC, dI) u.2.2.2 t.heap [(jFy, jYb dC dI u.2.2.2)]) (jA base)) ([.ref r0, .ref r1, .int a2] : List Value).toArray s (LC - H0.size) (LS - jTot H0) (jA base) := ⟨_, rfl⟩
  rw [← hQ]
  have hl := lv_entry ([.ref r0, .ref r1, .int a2]) (n := 5) (Nat.le_of_ble_eq_true rfl)
  rw [lg_entry_eq]
  generalize (lg_sl ([.ref r0, .ref r1, .int a2]) ++ List.replicate (5 - (lg_sl ([.ref r0, .ref r1, .int a2])).length) Slot.unset).toArray = ls at hl ⊢
  have hl : lv_has ls 5 [(0, .ref r0), (1, .ref r1), (2, .int a2)] := hl
  generalize hR : (headSpec (jw yX11_publish cX11_publish 5 none) ({ frames := 7, cells := LC - H0.size, slots := LS - jTot H0, locals := 207 })).room = R
  subst hH0
  have hh : jSt (dC, dI) B base G0 G0 EX11_publish s.heap 0 0 [(r0, 13, 4, .ref bo), (bo, 2, 1, .int pc), (bo, 2, 0, .ref pa), (r0, 13, 3, .ref ou)] [] [(jFy, jYb dC dI G0)] s.heap [] := jSt.start hX hP0 jMc.nil hI0
  clear hX hP0
  have hk0 : (0 : Int32).toInt = 0 := by decide
  have hk1 : (1 : Int32).toInt = 1 := by decide
  have hk40 : (40 : Int32).toInt = 40 := by decide
  have hk44 : (44 : Int32).toInt = 44 := by decide
  have hly_2_1 := htw (u_lay RX0 TX0 1) (jWc_wsX00 _ (u_in_lay (by decide)))
  have hly_3_0 := htw (u_lay RX1 TX1 0) (jWc_wsX10 _ (u_in_lay (by decide)))
  have hly_3_1 := htw (u_lay RX1 TX1 1) (jWc_wsX10 _ (u_in_lay (by decide)))
  have hly_3_9 := htw (u_lay RX1 TX1 9) (jWc_wsX10 _ (u_in_lay (by decide)))
  have hly_3_10 := htw (u_lay RX1 TX1 10) (jWc_wsX10 _ (u_in_lay (by decide)))
  have hly_11_2 := htw (u_lay RX9 TX9 2) (jWc_wsX90 _ (u_in_lay (by decide)))
  have hly_13_4 := htw (u_lay RX11 TX11 4) (jWc_wsX110 _ (u_in_lay (by decide)))
  have hlk_35 := (htw (.fieldLink RX11 35 "ProofServer" "body" "LProofServer$Bytes;") (jWr_2 _ (List.mem_of_getElem? (i := 1) rfl)))
  have hlk_92 := (htw (.fieldLink RX11 92 "ProofServer$Bytes" "count" "I") (jWr_15 _ (List.mem_of_getElem? (i := 18) rfl)))
  obtain ⟨str499, rstr499, hstr4990⟩ := hG.str (o := RX11) (k := 499) (tx := "{\"jsonrpc\":\"2.0\",\"method\":\"textDocument/publishDiagnostics\",\"params\":{\"uri\":") (List.mem_of_getElem? (i := 1212) (by decide +kernel))
  have hstr499 : jStr base str499 76 s s.heap := hstr4990
  have hlk_348 := (htw (.fieldLink RX11 348 "ProofServer$Document" "uri" "[I") (jWr_27 _ (List.mem_of_getElem? (i := 21) rfl)))
  obtain ⟨str505, rstr505, hstr5050⟩ := hG.str (o := RX11) (k := 505) (tx := ",\"version\":") (List.mem_of_getElem? (i := 1214) (by decide +kernel))
  have hstr505 : jStr base str505 11 s s.heap := hstr5050
  have hlk_162 := (htw (.fieldLink RX11 162 "ProofServer$Document" "version" "I") (jWr_35 _ (List.mem_of_getElem? (i := 15) rfl)))
  obtain ⟨str507, rstr507, hstr5070⟩ := hG.str (o := RX11) (k := 507) (tx := ",\"diagnostics\":[") (List.mem_of_getElem? (i := 1215) (by decide +kernel))
  have hstr507 : jStr base str507 16 s s.heap := hstr5070
  have hlk_171 := (htw (.fieldLink RX11 171 "ProofServer$Document" "checked" "I") (jWr_35 _ (List.mem_of_getElem? (i := 17) rfl)))
  have hlk_178 := (htw (.fieldLink RX11 178 "ProofServer$Document" "behind" "[LProofServer$State;") (jWr_39 _ (List.mem_of_getElem? (i := 23) rfl)))
  have hlk_188 := (htw (.fieldLink RX11 188 "ProofServer$State" "fault" "I") (jWr_40 _ (List.mem_of_getElem? (i := 0) rfl)))
  obtain ⟨str516, rstr516, hstr5160⟩ := hG.str (o := RX11) (k := 516) (tx := "]}}") (List.mem_of_getElem? (i := 1250) (by decide +kernel))
  have hstr516 : jStr base str516 3 s s.heap := hstr5160
  have hrg_a2 := jb_rng a2
  have hbs : base ≤ s.heap.size := Nat.le_of_lt (Nat.lt_of_le_of_lt (hh.ab hg_r0).1 (hh.ab hg_r0).2)
  have hRc : R.cells = LC - s.heap.size := by rw [← hR]; rfl
  have hRs : R.slots = LS - jTot s.heap := by rw [← hR]; rfl
  have hh_1 := hh.addI (jOl.ie (dC := dC) (dI := dI) (G0 := G0) (k := 2) (rs := [bo, ou]) (H0 := s.heap) (F := [(2, 0), (2, 1)]) (C := RX0) (T := TX0) (N := 2) rfl (by decide) hh.2.2.2.2.1 (jOl.rf))
  clear hh
  refine lv_aload_n hx hb dX11_publish_0 rfl (lv_at hl 0 rfl) ?_
  refine j7_read hx hb hown hK (C := RX11) (T := TX11) (N := 19) rfl hly_13_4 hlk_35 (hh_1.at 0 rfl) dX11_publish_1 ?_
  refine lv_iconst (v := 0) hx hb dX11_publish_4 (by decide) ?_
  have hd_3 := hh_1.iv 0 rfl
  have hd_4 := hh_1.iv 1 rfl
  have hh_5 := hh_1.sub (L1 := [(r0, 13, 4, .ref bo), (bo, 2, 1, .int pc), (bo, 2, 0, .ref pa), (r0, 13, 3, .ref ou)]) [0, 1, 2, 3] rfl (M1 := []) [] rfl (I1 := []) [] rfl
  clear hh_1
  refine j7_putX hx hb hown hK hh_5 hB hAp hB2 (C := RX0) (T := TX0) (N := 2) rfl (by decide) hg_bo (i := 1) (by decide) hly_2_1 rfl hlk_92 rfl (ty := .int) (v := .int 0) (by decide +kernel) rfl rfl (⟨_, rfl, by omega, by omega, by omega⟩) rfl (L1 := [(r0, 13, 4, .ref bo), (bo, 2, 0, .ref pa), (r0, 13, 3, .ref ou)]) [0, 2, 3] rfl rfl rfl dX11_publish_5 (fun H_2 locs_2 hr_2 hh_2 => ?_)
  clear hh_5
  have hd_4n := jYb.put hd_4 hr_2 hg_bo (fun h9 => ⟨_, _, _, hh_2.at 0 rfl, hh_2.at 2 rfl, hg_pa, by omega⟩)
  have hd_3n := jOl.put hd_3 hr_2 (by simp)
  have hh_6 := hh_2.addI (jYb.ie hd_4n)
  clear hh_2
  have hh_7 := hh_6.addI (jOl.ie (dC := dC) (dI := dI) (G0 := G0) (k := 2) (rs := [bo, ou]) (H0 := s.heap) (F := [(2, 0), (2, 1)]) (C := RX0) (T := TX0) (N := 2) rfl (by decide) hh_6.2.2.2.2.1 (hd_3n))
  clear hh_6
  clear hd_3 hd_3n hd_4 hd_4n hr_2
  refine lv_aload_n hx hb dX11_publish_8 rfl (lv_at hl 0 rfl) ?_
  refine j7_read hx hb hown hK (C := RX11) (T := TX11) (N := 19) rfl hly_13_4 hlk_35 (hh_7.at 1 rfl) dX11_publish_9 ?_
  refine j_ldcSw hx hb hown rstr499 dX11_publish_12 ?_
  have hsz_8 := hh_7.2.2.2.2.2.1
  have htt_8 := hh_7.2.2.2.2.2.2.1
  refine W.room (fun hrc_8 hrs_8 => ?_)
  refine va_callv (A0 := jA base) (H0 := s.heap) (va_runV (As := [.ref str499]) (rest := []) ⟨hx, hb, hml, hown, hts⟩ (uX0_text l dC dI ca base B hB hAp hB2 hB196 G0 H_2 bo str499 76 0 pa n_pa LC LS) (cwV 1 hts (jgV (jWr_26 _ (List.mem_of_getElem? (i := 11) rfl)) (jWr_25 _ (List.mem_of_getElem? (i := 22) rfl)) (jWr_25 _ (List.mem_of_getElem? (i := 23) rfl)) (jWr_1 _ (List.mem_of_getElem? (i := 14) rfl)) (jWr_26 _ (List.mem_of_getElem? (i := 0) rfl))) rfl rfl rfl (by decide +kernel) ⟨by rw [← hR]; exact Nat.le_of_ble_eq_true rfl, by rw [← hR]; exact Nat.le_of_ble_eq_true rfl⟩) ⟨fun a U g mk q => by obtain ⟨q0, q1, q2, qK, q10, q11, q12, q13, q14⟩ := q; exact ⟨q0, q1, q2, jG.calling g mk a qK, (q10.moved (Vm.Alike.refl U.vm)), q11, q12, q13, q14⟩, hh_7.recv (C := RX0) (T := TX0) (N := 2) hB2 rfl (by decide) hg_bo hK, fun U hU hW => ⟨rfl, hU, hh_7.2.1, hG.step hW hU hh_7.1, (hstr499.moved hW.alike).kept hh_7.1.2.1, hg_bo, hg_pa, (hh_7.2.2.1.sub (L1 := [(bo, 2, 1, .int 0), (bo, 2, 0, .ref pa)]) [0, 2] rfl), (by omega), (by omega), ⟨(by first | omega | rfl | assumption | fail), (by first | omega | rfl | assumption | fail), (by first | omega | rfl | assumption | fail), (by first | omega | rfl | assumption | fail), (by first | assumption | fail | omega), (by first | omega | rfl | assumption | fail)⟩⟩⟩ rfl rfl hl.1 rfl (lv_room (Nat.le_of_ble_eq_true rfl)) dX11_publish_15 ⟨by rw [hRc]; omega, by rw [hRs]; omega⟩) hh_7.1 (fun q _ h => h) (fun q h => h) (fun u_8 t_8 H_8 locs_8 ht_8 hvm_8 hr_9 hb_8 hz_8 hk_8 hS_8 => ?_)
  obtain ⟨qc_8, qa_8, m_qa_8, G_8⟩ := u_8
  rw [ht_8] at hb_8
  simp only at hb_8
  obtain ⟨⟨hb_81, hb_82, hb_83, hb_84, hb_85, hb_86⟩, hgq_8_0, hN_8, hbO_8⟩ := hb_8
  have hy_10 := hh_7.iv 1 rfl
  have hh_8 : jSt (dC, dI) B base G0 G_8 EX11_publish s.heap (0 + ((m_qa_8 - n_pa) / 16)) (0 + (2 * (m_qa_8 - n_pa))) [(bo, 2, 1, .int qc_8), (bo, 2, 0, .ref qa_8), (r0, 13, 4, .ref bo), (r0, 13, 3, .ref ou)] [] [] H_8 locs_8 := (hh_7.callG hb_81 hb_82 hb_83 hb_84 hb_85 hS_8 rfl (L1 := [(r0, 13, 4, .ref bo), (r0, 13, 3, .ref ou)]) [1, 3] rfl rfl (M1 := []) [] rfl rfl (I1 := []) [] rfl rfl).more hb_86
  have hNn_8 : (jNk [0, 1, 2, 3, 4, 5, 6, 7, 8, 9, 10, 11, 12, 13, 14, 15, 16]) G0 G_8 := (jNk.rf).tr hN_8
  have hg_11 := hb_82 _ _ hg_r0
  have hg_12 := hb_82 _ _ hg_r1
  have hg_13 := hb_82 _ _ hg_bo
  have hg_14 := hb_82 _ _ hg_ou
  have hd_15 := jOl.trO (hh_7.iv 0 rfl) hh_7.2.2.2.2.1 hbO_8 (by simp)
  have hh_16 := hh_8.addI (jOl.ie (dC := dC) (dI := dI) (G0 := G0) (k := 2) (rs := [bo, ou]) (H0 := s.heap) (F := [(2, 0), (2, 1)]) (C := RX0) (T := TX0) (N := 2) rfl (by decide) hh_8.2.2.2.2.1 (hd_15))
  clear hh_8
  have hyp_8 : qc_8.toInt ≤ (m_qa_8 : Nat) ∧ m_qa_8 ≤ 1048576 := by (try simp only at hr_9); omega
  have hy_17 := jYb.own hy_10 hbO_8 hb_82 hN_8 (by decide) (fun _ => ⟨_, _, _, hh_16.at 0 rfl, hh_16.at 1 rfl, hgq_8_0, hyp_8⟩)
  have hh_18 := hh_16.addI (jYb.ie hy_17)
  clear hh_16
  try simp only at hr_9
  obtain ⟨hr_9_0, hr_9_1, hr_9_2, hr_9_3, hr_9_4⟩ := hr_9
  have hh_19 := hh_18.wk (zc1 := (m_qa_8 - n_pa) / 16) (zs1 := 2 * (m_qa_8 - n_pa)) (by omega) (by omega)
  clear hh_18
  try clear hsz_8 htt_8 hrc_8 hrs_8
  try clear hb_84 hb_85
  refine lv_aload_n hx hb dX11_publish_18 rfl (lv_at hl 0 rfl) ?_
  refine j7_read hx hb hown hK (C := RX11) (T := TX11) (N := 19) rfl hly_13_4 hlk_35 (hh_19.at 2 rfl) dX11_publish_19 ?_
  refine lv_aload_n hx hb dX11_publish_22 rfl (lv_at hl 1 rfl) ?_
  obtain ⟨v_20, hv_20, hh_21⟩ := hh_19.pin (C := RX1) (T := TX1) (N := 17) hB3 rfl (by decide) hg_12 (i := 0) (by decide) rfl
  clear hh_19
  obtain ⟨uri_22, nuri_22, rfl, hg_uri_22, hn_uri_22⟩ := hv_20
  refine j7_read hx hb hown hK (C := RX1) (T := TX1) (N := 17) rfl hly_3_0 hlk_348 (hh_21.at 0 rfl) dX11_publish_23 ?_
  refine lv_iconst (v := 0) hx hb dX11_publish_26 (by decide) ?_
  refine lv_aload_n hx hb dX11_publish_27 rfl (lv_at hl 1 rfl) ?_
  refine j7_read hx hb hown hK (C := RX1) (T := TX1) (N := 17) rfl hly_3_0 hlk_348 (hh_21.at 0 rfl) dX11_publish_28 ?_
  refine j7_len hx hb hK hh_21 hB174 1 rfl (by decide) hg_uri_22 (by omega) dX11_publish_31 (fun z_23 hz_23 => ?_)
  have hsz_24 := hh_21.2.2.2.2.2.1
  have htt_24 := hh_21.2.2.2.2.2.2.1
  refine W.room (fun hrc_24 hrs_24 => ?_)
  refine va_callv (A0 := jA base) (H0 := s.heap) (va_runV (As := [.ref uri_22, .int 0, .int z_23]) (rest := []) ⟨hx, hb, hml, hown, hts⟩ (uX0_quotedu9 l dC dI ca base B hB hAp hB2 hB174 hB196 G_8 H_8 bo uri_22 0 z_23 nuri_22 qc_8 qa_8 m_qa_8 LC LS) (cwV 3 hts (jgV (jWr_40 _ (List.mem_of_getElem? (i := 1) rfl)) (jWr_25 _ (List.mem_of_getElem? (i := 10) rfl)) (jWr_25 _ (List.mem_of_getElem? (i := 11) rfl)) (jWr_1 _ (List.mem_of_getElem? (i := 14) rfl)) (jWr_25 _ (List.mem_of_getElem? (i := 12) rfl))) rfl rfl rfl (by decide +kernel) ⟨by rw [← hR]; exact Nat.le_of_ble_eq_true rfl, by rw [← hR]; exact Nat.le_of_ble_eq_true rfl⟩) ⟨fun a U g mk q => by obtain ⟨q0, q1, q2, qK, q10, q11, q12, q13, q14⟩ := q; exact ⟨q0, q1, q2, jG.calling g mk a qK, q10, q11, q12, q13, q14⟩, hh_21.recv (C := RX0) (T := TX0) (N := 2) hB2 rfl (by decide) hg_13 hK, fun U hU hW => ⟨rfl, hU, hh_21.2.1, hG.step hW hU hh_21.1, hg_13, hg_uri_22, hgq_8_0, (hh_21.2.2.1.sub (L1 := [(bo, 2, 1, .int qc_8), (bo, 2, 0, .ref qa_8)]) [1, 2] rfl), (by omega), (by omega), ⟨(by first | omega | rfl | assumption | fail), (by first | omega | rfl | assumption | fail), (by first | omega | rfl | assumption | fail), (by first | omega | rfl | assumption | fail), (by first | assumption | fail | omega), (by first | omega | rfl | assumption | fail), (by first | omega | rfl | assumption | fail), (by first | omega | rfl | assumption | fail), (by first | omega | rfl | assumption | fail), (by first | omega | rfl | assumption | fail)⟩⟩⟩ rfl rfl hl.1 rfl (lv_room (Nat.le_of_ble_eq_true rfl)) dX11_publish_32 ⟨by rw [hRc]; omega, by rw [hRs]; omega⟩) hh_21.1 (fun q _ h => h) (fun q h => h) (fun u_24 t_24 H_24 locs_24 ht_24 hvm_24 hr_25 hb_24 hz_24 hk_24 hS_24 => ?_)
  obtain ⟨qc_24, qa_24, m_qa_24, G_24⟩ := u_24
  rw [ht_24] at hb_24
  simp only at hb_24
  obtain ⟨⟨hb_241, hb_242, hb_243, hb_244, hb_245, hb_246⟩, hgq_24_0, hN_24, hbO_24⟩ := hb_24
  have hy_26 := hh_21.iv 0 rfl
  have hh_24 : jSt (dC, dI) B base G0 G_24 EX11_publish s.heap (((m_qa_8 - n_pa) / 16) + ((m_qa_24 - m_qa_8) / 16)) ((2 * (m_qa_8 - n_pa)) + (2 * (m_qa_24 - m_qa_8))) [(bo, 2, 1, .int qc_24), (bo, 2, 0, .ref qa_24), (r1, 3, 0, .ref uri_22), (r0, 13, 4, .ref bo), (r0, 13, 3, .ref ou)] [] [] H_24 locs_24 := (hh_21.callG hb_241 hb_242 hb_243 hb_244 hb_245 hS_24 rfl (L1 := [(r1, 3, 0, .ref uri_22), (r0, 13, 4, .ref bo), (r0, 13, 3, .ref ou)]) [0, 3, 4] rfl rfl (M1 := []) [] rfl rfl (I1 := []) [] rfl rfl).more hb_246
  have hNn_24 : (jNk [0, 1, 2, 3, 4, 5, 6, 7, 8, 9, 10, 11, 12, 13, 14, 15, 16]) G0 G_24 := (hNn_8).tr hN_24
  have hg_27 := hb_242 _ _ hg_11
  have hg_28 := hb_242 _ _ hg_12
  have hg_29 := hb_242 _ _ hg_uri_22
  have hg_30 := hb_242 _ _ hg_13
  have hg_31 := hb_242 _ _ hg_14
  have hd_32 := jOl.trO (hh_21.iv 1 rfl) hh_21.2.2.2.2.1 hbO_24 (by simp)
  have hh_33 := hh_24.addI (jOl.ie (dC := dC) (dI := dI) (G0 := G0) (k := 2) (rs := [bo, ou]) (H0 := s.heap) (F := [(2, 0), (2, 1)]) (C := RX0) (T := TX0) (N := 2) rfl (by decide) hh_24.2.2.2.2.1 (hd_32))
  clear hh_24
  have hyp_24 : qc_24.toInt ≤ (m_qa_24 : Nat) ∧ m_qa_24 ≤ 1048576 := by (try simp only at hr_25); omega
  have hy_34 := jYb.own hy_26 hbO_24 hb_242 hN_24 (by decide) (fun _ => ⟨_, _, _, hh_33.at 0 rfl, hh_33.at 1 rfl, hgq_24_0, hyp_24⟩)
  have hh_35 := hh_33.addI (jYb.ie hy_34)
  clear hh_33
  try simp only at hr_25
  obtain ⟨hr_25_0, hr_25_1, hr_25_2, hr_25_3, hr_25_4⟩ := hr_25
  have hh_36 := hh_35.wk (zc1 := (m_qa_24 - n_pa) / 16) (zs1 := 2 * (m_qa_24 - n_pa)) (by omega) (by omega)
  clear hh_35
  try clear hsz_24 htt_24 hrc_24 hrs_24
  try clear hb_244 hb_245
  refine lv_aload_n hx hb dX11_publish_35 rfl (lv_at hl 0 rfl) ?_
  refine j7_read hx hb hown hK (C := RX11) (T := TX11) (N := 19) rfl hly_13_4 hlk_35 (hh_36.at 3 rfl) dX11_publish_36 ?_
  refine j_ldcSw hx hb hown rstr505 dX11_publish_39 ?_
  have hsz_37 := hh_36.2.2.2.2.2.1
  have htt_37 := hh_36.2.2.2.2.2.2.1
  refine W.room (fun hrc_37 hrs_37 => ?_)
  refine va_callv (A0 := jA base) (H0 := s.heap) (va_runV (As := [.ref str505]) (rest := []) ⟨hx, hb, hml, hown, hts⟩ (uX0_text l dC dI ca base B hB hAp hB2 hB196 G_24 H_24 bo str505 11 qc_24 qa_24 m_qa_24 LC LS) (cwV 1 hts (jgV (jWr_26 _ (List.mem_of_getElem? (i := 11) rfl)) (jWr_25 _ (List.mem_of_getElem? (i := 22) rfl)) (jWr_25 _ (List.mem_of_getElem? (i := 23) rfl)) (jWr_1 _ (List.mem_of_getElem? (i := 14) rfl)) (jWr_26 _ (List.mem_of_getElem? (i := 0) rfl))) rfl rfl rfl (by decide +kernel) ⟨by rw [← hR]; exact Nat.le_of_ble_eq_true rfl, by rw [← hR]; exact Nat.le_of_ble_eq_true rfl⟩) ⟨fun a U g mk q => by obtain ⟨q0, q1, q2, qK, q10, q11, q12, q13, q14⟩ := q; exact ⟨q0, q1, q2, jG.calling g mk a qK, (q10.moved (Vm.Alike.refl U.vm)), q11, q12, q13, q14⟩, hh_36.recv (C := RX0) (T := TX0) (N := 2) hB2 rfl (by decide) hg_30 hK, fun U hU hW => ⟨rfl, hU, hh_36.2.1, hG.step hW hU hh_36.1, (hstr505.moved hW.alike).kept hh_36.1.2.1, hg_30, hgq_24_0, (hh_36.2.2.1.sub (L1 := [(bo, 2, 1, .int qc_24), (bo, 2, 0, .ref qa_24)]) [0, 1] rfl), (by omega), (by omega), ⟨(by first | omega | rfl | assumption | fail), (by first | omega | rfl | assumption | fail), (by first | omega | rfl | assumption | fail), (by first | omega | rfl | assumption | fail), (by first | assumption | fail | omega), (by first | omega | rfl | assumption | fail)⟩⟩⟩ rfl rfl hl.1 rfl (lv_room (Nat.le_of_ble_eq_true rfl)) dX11_publish_42 ⟨by rw [hRc]; omega, by rw [hRs]; omega⟩) hh_36.1 (fun q _ h => h) (fun q h => h) (fun u_37 t_37 H_37 locs_37 ht_37 hvm_37 hr_38 hb_37 hz_37 hk_37 hS_37 => ?_)
  obtain ⟨qc_37, qa_37, m_qa_37, G_37⟩ := u_37
  rw [ht_37] at hb_37
  simp only at hb_37
  obtain ⟨⟨hb_371, hb_372, hb_373, hb_374, hb_375, hb_376⟩, hgq_37_0, hN_37, hbO_37⟩ := hb_37
  have hy_39 := hh_36.iv 0 rfl
  have hh_37 : jSt (dC, dI) B base G0 G_37 EX11_publish s.heap (((m_qa_24 - n_pa) / 16) + ((m_qa_37 - m_qa_24) / 16)) ((2 * (m_qa_24 - n_pa)) + (2 * (m_qa_37 - m_qa_24))) [(bo, 2, 1, .int qc_37), (bo, 2, 0, .ref qa_37), (r1, 3, 0, .ref uri_22), (r0, 13, 4, .ref bo), (r0, 13, 3, .ref ou)] [] [] H_37 locs_37 := (hh_36.callG hb_371 hb_372 hb_373 hb_374 hb_375 hS_37 rfl (L1 := [(r1, 3, 0, .ref uri_22), (r0, 13, 4, .ref bo), (r0, 13, 3, .ref ou)]) [2, 3, 4] rfl rfl (M1 := []) [] rfl rfl (I1 := []) [] rfl rfl).more hb_376
  have hNn_37 : (jNk [0, 1, 2, 3, 4, 5, 6, 7, 8, 9, 10, 11, 12, 13, 14, 15, 16]) G0 G_37 := (hNn_24).tr hN_37
  have hg_40 := hb_372 _ _ hg_27
  have hg_41 := hb_372 _ _ hg_28
  have hg_42 := hb_372 _ _ hg_29
  have hg_43 := hb_372 _ _ hg_30
  have hg_44 := hb_372 _ _ hg_31
  have hd_45 := jOl.trO (hh_36.iv 1 rfl) hh_36.2.2.2.2.1 hbO_37 (by simp)
  have hh_46 := hh_37.addI (jOl.ie (dC := dC) (dI := dI) (G0 := G0) (k := 2) (rs := [bo, ou]) (H0 := s.heap) (F := [(2, 0), (2, 1)]) (C := RX0) (T := TX0) (N := 2) rfl (by decide) hh_37.2.2.2.2.1 (hd_45))
  clear hh_37
  have hyp_37 : qc_37.toInt ≤ (m_qa_37 : Nat) ∧ m_qa_37 ≤ 1048576 := by (try simp only at hr_38); omega
  have hy_47 := jYb.own hy_39 hbO_37 hb_372 hN_37 (by decide) (fun _ => ⟨_, _, _, hh_46.at 0 rfl, hh_46.at 1 rfl, hgq_37_0, hyp_37⟩)
  have hh_48 := hh_46.addI (jYb.ie hy_47)
  clear hh_46
  try simp only at hr_38
  obtain ⟨hr_38_0, hr_38_1, hr_38_2, hr_38_3, hr_38_4⟩ := hr_38
  have hh_49 := hh_48.wk (zc1 := (m_qa_37 - n_pa) / 16) (zs1 := 2 * (m_qa_37 - n_pa)) (by omega) (by omega)
  clear hh_48
  try clear hsz_37 htt_37 hrc_37 hrs_37
  try clear hb_374 hb_375
  refine lv_aload_n hx hb dX11_publish_45 rfl (lv_at hl 0 rfl) ?_
  refine j7_read hx hb hown hK (C := RX11) (T := TX11) (N := 19) rfl hly_13_4 hlk_35 (hh_49.at 3 rfl) dX11_publish_46 ?_
  refine lv_aload_n hx hb dX11_publish_49 rfl (lv_at hl 1 rfl) ?_
  obtain ⟨v_50, hv_50, hh_51⟩ := hh_49.pin (C := RX1) (T := TX1) (N := 17) hB3 rfl (by decide) hg_41 (i := 1) (by decide) rfl
  clear hh_49
  obtain ⟨version_52, rfl⟩ := hv_50
  refine j7_read hx hb hown hK (C := RX1) (T := TX1) (N := 17) rfl hly_3_1 hlk_162 (hh_51.at 0 rfl) dX11_publish_50 ?_
  have hsz_53 := hh_51.2.2.2.2.2.1
  have htt_53 := hh_51.2.2.2.2.2.2.1
  refine W.room (fun hrc_53 hrs_53 => ?_)
  refine va_callv (A0 := jA base) (H0 := s.heap) (va_runV (As := [.int version_52]) (rest := []) ⟨hx, hb, hml, hown, hts⟩ (uX0_number l dC dI ca base B hB hAp hB2 hB196 G_37 H_37 bo version_52 qc_37 qa_37 m_qa_37 LC LS) (cwV 1 hts (jgV (jWr_26 _ (List.mem_of_getElem? (i := 16) rfl)) (jWr_24 _ (List.mem_of_getElem? (i := 16) rfl)) (jWr_24 _ (List.mem_of_getElem? (i := 17) rfl)) (jWr_1 _ (List.mem_of_getElem? (i := 14) rfl)) (jWr_24 _ (List.mem_of_getElem? (i := 18) rfl))) rfl rfl rfl (by decide +kernel) ⟨by rw [← hR]; exact Nat.le_of_ble_eq_true rfl, by rw [← hR]; exact Nat.le_of_ble_eq_true rfl⟩) ⟨fun a U g mk q => by obtain ⟨q0, q1, q2, qK, q10, q11, q12, q13⟩ := q; exact ⟨q0, q1, q2, jG.calling g mk a qK, q10, q11, q12, q13⟩, hh_51.recv (C := RX0) (T := TX0) (N := 2) hB2 rfl (by decide) hg_43 hK, fun U hU hW => ⟨rfl, hU, hh_51.2.1, hG.step hW hU hh_51.1, hg_43, hgq_37_0, (hh_51.2.2.1.sub (L1 := [(bo, 2, 1, .int qc_37), (bo, 2, 0, .ref qa_37)]) [1, 2] rfl), (by omega), (by omega), ⟨(by first | omega | rfl | assumption | fail), (by first | omega | rfl | assumption | fail), (by first | omega | rfl | assumption | fail), (by first | omega | rfl | assumption | fail), (by first | assumption | fail | omega)⟩⟩⟩ rfl rfl hl.1 rfl (lv_room (Nat.le_of_ble_eq_true rfl)) dX11_publish_53 ⟨by rw [hRc]; omega, by rw [hRs]; omega⟩) hh_51.1 (fun q _ h => h) (fun q h => h) (fun u_53 t_53 H_53 locs_53 ht_53 hvm_53 hr_54 hb_53 hz_53 hk_53 hS_53 => ?_)
  obtain ⟨qc_53, qa_53, m_qa_53, G_53⟩ := u_53
  rw [ht_53] at hb_53
  simp only at hb_53
  obtain ⟨⟨hb_531, hb_532, hb_533, hb_534, hb_535, hb_536⟩, hgq_53_0, hN_53, hbO_53⟩ := hb_53
  have hy_55 := hh_51.iv 0 rfl
  have hh_53 : jSt (dC, dI) B base G0 G_53 EX11_publish s.heap (((m_qa_37 - n_pa) / 16) + ((m_qa_53 - m_qa_37) / 16)) ((2 * (m_qa_37 - n_pa)) + (2 * (m_qa_53 - m_qa_37))) [(bo, 2, 1, .int qc_53), (bo, 2, 0, .ref qa_53), (r1, 3, 1, .int version_52), (r1, 3, 0, .ref uri_22), (r0, 13, 4, .ref bo), (r0, 13, 3, .ref ou)] [] [] H_53 locs_53 := (hh_51.callG hb_531 hb_532 hb_533 hb_534 hb_535 hS_53 rfl (L1 := [(r1, 3, 1, .int version_52), (r1, 3, 0, .ref uri_22), (r0, 13, 4, .ref bo), (r0, 13, 3, .ref ou)]) [0, 3, 4, 5] rfl rfl (M1 := []) [] rfl rfl (I1 := []) [] rfl rfl).more hb_536
  have hNn_53 : (jNk [0, 1, 2, 3, 4, 5, 6, 7, 8, 9, 10, 11, 12, 13, 14, 15, 16]) G0 G_53 := (hNn_37).tr hN_53
  have hg_56 := hb_532 _ _ hg_40
  have hg_57 := hb_532 _ _ hg_41
  have hg_58 := hb_532 _ _ hg_42
  have hg_59 := hb_532 _ _ hg_43
  have hg_60 := hb_532 _ _ hg_44
  have hd_61 := jOl.trO (hh_51.iv 1 rfl) hh_51.2.2.2.2.1 hbO_53 (by simp)
  have hh_62 := hh_53.addI (jOl.ie (dC := dC) (dI := dI) (G0 := G0) (k := 2) (rs := [bo, ou]) (H0 := s.heap) (F := [(2, 0), (2, 1)]) (C := RX0) (T := TX0) (N := 2) rfl (by decide) hh_53.2.2.2.2.1 (hd_61))
  clear hh_53
  have hyp_53 : qc_53.toInt ≤ (m_qa_53 : Nat) ∧ m_qa_53 ≤ 1048576 := by (try simp only at hr_54); omega
  have hy_63 := jYb.own hy_55 hbO_53 hb_532 hN_53 (by decide) (fun _ => ⟨_, _, _, hh_62.at 0 rfl, hh_62.at 1 rfl, hgq_53_0, hyp_53⟩)
  have hh_64 := hh_62.addI (jYb.ie hy_63)
  clear hh_62
  try simp only at hr_54
  obtain ⟨hr_54_0, hr_54_1, hr_54_2, hr_54_3, hr_54_4⟩ := hr_54
  have hh_65 := hh_64.wk (zc1 := (m_qa_53 - n_pa) / 16) (zs1 := 2 * (m_qa_53 - n_pa)) (by omega) (by omega)
  clear hh_64
  try clear hsz_53 htt_53 hrc_53 hrs_53
  try clear hb_534 hb_535
  refine lv_aload_n hx hb dX11_publish_56 rfl (lv_at hl 0 rfl) ?_
  refine j7_read hx hb hown hK (C := RX11) (T := TX11) (N := 19) rfl hly_13_4 hlk_35 (hh_65.at 4 rfl) dX11_publish_57 ?_
  refine j_ldcSw hx hb hown rstr507 dX11_publish_60 ?_
  have hsz_66 := hh_65.2.2.2.2.2.1
  have htt_66 := hh_65.2.2.2.2.2.2.1
  refine W.room (fun hrc_66 hrs_66 => ?_)
  refine va_callv (A0 := jA base) (H0 := s.heap) (va_runV (As := [.ref str507]) (rest := []) ⟨hx, hb, hml, hown, hts⟩ (uX0_text l dC dI ca base B hB hAp hB2 hB196 G_53 H_53 bo str507 16 qc_53 qa_53 m_qa_53 LC LS) (cwV 1 hts (jgV (jWr_26 _ (List.mem_of_getElem? (i := 11) rfl)) (jWr_25 _ (List.mem_of_getElem? (i := 22) rfl)) (jWr_25 _ (List.mem_of_getElem? (i := 23) rfl)) (jWr_1 _ (List.mem_of_getElem? (i := 14) rfl)) (jWr_26 _ (List.mem_of_getElem? (i := 0) rfl))) rfl rfl rfl (by decide +kernel) ⟨by rw [← hR]; exact Nat.le_of_ble_eq_true rfl, by rw [← hR]; exact Nat.le_of_ble_eq_true rfl⟩) ⟨fun a U g mk q => by obtain ⟨q0, q1, q2, qK, q10, q11, q12, q13, q14⟩ := q; exact ⟨q0, q1, q2, jG.calling g mk a qK, (q10.moved (Vm.Alike.refl U.vm)), q11, q12, q13, q14⟩, hh_65.recv (C := RX0) (T := TX0) (N := 2) hB2 rfl (by decide) hg_59 hK, fun U hU hW => ⟨rfl, hU, hh_65.2.1, hG.step hW hU hh_65.1, (hstr507.moved hW.alike).kept hh_65.1.2.1, hg_59, hgq_53_0, (hh_65.2.2.1.sub (L1 := [(bo, 2, 1, .int qc_53), (bo, 2, 0, .ref qa_53)]) [0, 1] rfl), (by omega), (by omega), ⟨(by first | omega | rfl | assumption | fail), (by first | omega | rfl | assumption | fail), (by first | omega | rfl | assumption | fail), (by first | omega | rfl | assumption | fail), (by first | assumption | fail | omega), (by first | omega | rfl | assumption | fail)⟩⟩⟩ rfl rfl hl.1 rfl (lv_room (Nat.le_of_ble_eq_true rfl)) dX11_publish_63 ⟨by rw [hRc]; omega, by rw [hRs]; omega⟩) hh_65.1 (fun q _ h => h) (fun q h => h) (fun u_66 t_66 H_66 locs_66 ht_66 hvm_66 hr_67 hb_66 hz_66 hk_66 hS_66 => ?_)
  obtain ⟨qc_66, qa_66, m_qa_66, G_66⟩ := u_66
  rw [ht_66] at hb_66
  simp only at hb_66
  obtain ⟨⟨hb_661, hb_662, hb_663, hb_664, hb_665, hb_666⟩, hgq_66_0, hN_66, hbO_66⟩ := hb_66
  have hy_68 := hh_65.iv 0 rfl
  have hh_66 : jSt (dC, dI) B base G0 G_66 EX11_publish s.heap (((m_qa_53 - n_pa) / 16) + ((m_qa_66 - m_qa_53) / 16)) ((2 * (m_qa_53 - n_pa)) + (2 * (m_qa_66 - m_qa_53))) [(bo, 2, 1, .int qc_66), (bo, 2, 0, .ref qa_66), (r1, 3, 1, .int version_52), (r1, 3, 0, .ref uri_22), (r0, 13, 4, .ref bo), (r0, 13, 3, .ref ou)] [] [] H_66 locs_66 := (hh_65.callG hb_661 hb_662 hb_663 hb_664 hb_665 hS_66 rfl (L1 := [(r1, 3, 1, .int version_52), (r1, 3, 0, .ref uri_22), (r0, 13, 4, .ref bo), (r0, 13, 3, .ref ou)]) [2, 3, 4, 5] rfl rfl (M1 := []) [] rfl rfl (I1 := []) [] rfl rfl).more hb_666
  have hNn_66 : (jNk [0, 1, 2, 3, 4, 5, 6, 7, 8, 9, 10, 11, 12, 13, 14, 15, 16]) G0 G_66 := (hNn_53).tr hN_66
  have hg_69 := hb_662 _ _ hg_56
  have hg_70 := hb_662 _ _ hg_57
  have hg_71 := hb_662 _ _ hg_58
  have hg_72 := hb_662 _ _ hg_59
  have hg_73 := hb_662 _ _ hg_60
  have hd_74 := jOl.trO (hh_65.iv 1 rfl) hh_65.2.2.2.2.1 hbO_66 (by simp)
  have hh_75 := hh_66.addI (jOl.ie (dC := dC) (dI := dI) (G0 := G0) (k := 2) (rs := [bo, ou]) (H0 := s.heap) (F := [(2, 0), (2, 1)]) (C := RX0) (T := TX0) (N := 2) rfl (by decide) hh_66.2.2.2.2.1 (hd_74))
  clear hh_66
  have hyp_66 : qc_66.toInt ≤ (m_qa_66 : Nat) ∧ m_qa_66 ≤ 1048576 := by (try simp only at hr_67); omega
  have hy_76 := jYb.own hy_68 hbO_66 hb_662 hN_66 (by decide) (fun _ => ⟨_, _, _, hh_75.at 0 rfl, hh_75.at 1 rfl, hgq_66_0, hyp_66⟩)
  have hh_77 := hh_75.addI (jYb.ie hy_76)
  clear hh_75
  try simp only at hr_67
  obtain ⟨hr_67_0, hr_67_1, hr_67_2, hr_67_3, hr_67_4⟩ := hr_67
  have hh_78 := hh_77.wk (zc1 := (m_qa_66 - n_pa) / 16) (zs1 := 2 * (m_qa_66 - n_pa)) (by omega) (by omega)
  clear hh_77
  try clear hsz_66 htt_66 hrc_66 hrs_66
  try clear hb_664 hb_665
  refine lv_iconst (v := 1) hx hb dX11_publish_66 (by decide) ?_
  refine lv_istore_n (lv' := [(3, .int 1), (0, .ref r0), (1, .ref r1), (2, .int a2)]) hx hb dX11_publish_67 rfl hl (by decide) rfl (fun ls hl => ?_)
  refine lv_aload_n hx hb dX11_publish_68 rfl (lv_at hl 2 rfl) ?_
  have hsz_79 := hh_78.2.2.2.2.2.1
  have htt_79 := hh_78.2.2.2.2.2.2.1
  refine W.room (fun hrc_79 hrs_79 => ?_)
  refine va_callv (A0 := jA base) (H0 := s.heap) (va_runV (As := []) (rest := []) ⟨hx, hb, hml, hown, hts⟩ (uX1_rewind l dC dI ca base B hB hAp hB3 G_66 H_66 r1) (cwV 0 hts (jgV (jWr_40 _ (List.mem_of_getElem? (i := 2) rfl)) (jWr_40 _ (List.mem_of_getElem? (i := 3) rfl)) (jWr_40 _ (List.mem_of_getElem? (i := 4) rfl)) (jWr_2 _ (List.mem_of_getElem? (i := 21) rfl)) (jWr_40 _ (List.mem_of_getElem? (i := 5) rfl))) rfl rfl rfl (by decide +kernel) ⟨by rw [← hR]; exact Nat.le_of_ble_eq_true rfl, by rw [← hR]; exact Nat.le_of_ble_eq_true rfl⟩) ⟨fun a U g mk q => by obtain ⟨q0, q1, q2, qK, q10, q11, q12⟩ := q; exact ⟨q0, q1, q2, jG.calling g mk a qK, q10, q11, q12⟩, hh_78.recv (C := RX1) (T := TX1) (N := 17) hB3 rfl (by decide) hg_70 hK, fun U hU hW => ⟨rfl, hU, hh_78.2.1, hG.step hW hU hh_78.1, hg_70, jP.nil, trivial⟩⟩ rfl rfl hl.1 rfl (lv_room (Nat.le_of_ble_eq_true rfl)) dX11_publish_69 ⟨by rw [hRc]; show _ + 0 ≤ _; omega, by rw [hRs]; show _ + 0 ≤ _; omega⟩) hh_78.1 (fun q _ h => h) (fun q h => h) (fun u_79 t_79 H_79 locs_79 ht_79 hvm_79 hr_80 hb_79 hz_79 hk_79 hS_79 => ?_)
  rw [ht_79] at hb_79
  obtain ⟨hb_791, hb_792, hb_793, hb_794, hb_795⟩ := hb_79
  have hh_79 : jSt (dC, dI) B base G0 G_66 EX11_publish s.heap ((m_qa_66 - n_pa) / 16) (2 * (m_qa_66 - n_pa)) [(bo, 2, 1, .int qc_66), (bo, 2, 0, .ref qa_66), (r1, 3, 1, .int version_52), (r1, 3, 0, .ref uri_22), (r0, 13, 4, .ref bo), (r0, 13, 3, .ref ou)] [] [(jFy, jYb dC dI G_66), ([(2, 0), (2, 1)], jOl (dC, dI) G0 2 [bo, ou] s.heap)] H_79 locs_79 := ((hh_78.call hb_791 hb_792 hb_793 hb_794 hS_79 rfl (L1 := [(bo, 2, 1, .int qc_66), (bo, 2, 0, .ref qa_66), (r1, 3, 1, .int version_52), (r1, 3, 0, .ref uri_22), (r0, 13, 4, .ref bo), (r0, 13, 3, .ref ou)]) [0, 1, 2, 3, 4, 5] rfl rfl (M1 := []) [] rfl rfl (I1 := [(jFy, jYb dC dI G_66), ([(2, 0), (2, 1)], jOl (dC, dI) G0 2 [bo, ou] s.heap)]) [0, 1] rfl rfl).more hb_795)
  clear hh_78 ht_79 hvm_79 hz_79 hk_79 hS_79 hb_791 hb_792 hb_793 hb_794 hb_795
  refine lv_iconst (v := 0) hx hb dX11_publish_72 (by decide) ?_
  refine lv_istore (lv' := [(4, .int 0), (3, .int 1), (0, .ref r0), (1, .ref r1), (2, .int a2)]) hx hb dX11_publish_73 hl (by decide) rfl (fun ls hl => ?_)
  have L75 : ∀ (N : Nat) (Gx_81 : jT) (zcx_81 : Nat) (zsx_81 : Nat) (v3_81 : Int32) (v4_81 : Int32) (wc_81 : Int32) (wr_81 : Nat) (m_wr_81 : Nat) (H_81 : Heap) (locs_81 : List Loc), jSt (dC, dI) B base G0 Gx_81 EX11_publish s.heap zcx_81 zsx_81 [(bo, 2, 1, .int wc_81), (bo, 2, 0, .ref wr_81), (r1, 3, 1, .int version_52), (r1, 3, 0, .ref uri_22), (r0, 13, 4, .ref bo), (r0, 13, 3, .ref ou)] [] [(jFy, jYb dC dI Gx_81), ([(2, 0), (2, 1)], jOl (dC, dI) G0 2 [bo, ou] s.heap)] H_81 locs_81 → (jNk [0, 1, 2, 3, 4, 5, 6, 7, 8, 9, 10, 11, 12, 13, 14, 15, 16]) G0 Gx_81 → jLe G_66 Gx_81 → (v3_81 = 0 ∨ v3_81 = 1) → Gx_81 wr_81 = some (196, m_wr_81) → (0 ≤ wc_81.toInt ∧ wc_81.toInt ≤ m_wr_81 ∧ n_pa ≤ m_wr_81 ∧ m_wr_81 ≤ 1048576 ∧ jPw m_wr_81 ∧ zcx_81 ≤ (m_wr_81 - n_pa) / 16 ∧ zsx_81 ≤ 2 * (m_wr_81 - n_pa) ∧ 0 ≤ v4_81.toInt ∧ v4_81.toInt ≤ 40) → (40 - v4_81.toInt : Int) < N → ∀ ls : Array Slot, lv_has ls 5 [(0, .ref r0), (1, .ref r1), (2, .int a2), (3, .int v3_81), (4, .int v4_81)] → W p l e R s m ([.ref r0, .ref r1, .int a2] : List Value).toArray below meth c H_81 locs_81 zcx_81 zsx_81 Q (F0 m 75 ls []) := by
    intro N
    induction N with
    | zero => intro Gx_81 zcx_81 zsx_81 v3_81 v4_81 wc_81 wr_81 m_wr_81 H_81 locs_81 hh_81 hN_81 hle_81 hb_v3_81 hg_wr_81 hi_81 hm; exact absurd hm (by omega)
    | succ N L75 =>
      intro Gx_81 zcx_81 zsx_81 v3_81 v4_81 wc_81 wr_81 m_wr_81 H_81 locs_81 hh_81 hN_81 hle_81 hb_v3_81 hg_wr_81 hi_81 hm_81 ls hl
      have hg_82 := hle_81 _ _ hg_69
      have hg_83 := hle_81 _ _ hg_70
      have hg_84 := hle_81 _ _ hg_71
      have hg_85 := hle_81 _ _ hg_72
      have hg_86 := hle_81 _ _ hg_73
      obtain ⟨hi_81_0, hi_81_1, hi_81_2, hi_81_3, hi_81_4, hi_81_5, hi_81_6, hi_81_7, hi_81_8⟩ := hi_81
      have hb_v3_81' := jb_01 hb_v3_81
      obtain ⟨v_87, hv_87, hh_88⟩ := hh_81.pin (C := RX1) (T := TX1) (N := 17) hB3 rfl (by decide) hg_83 (i := 9) (by decide) rfl
      obtain ⟨behind_89, rfl, hg_behind_89⟩ := hv_87
      obtain ⟨fq_90, hfq_90a, hfq_90p⟩ := hh_88.aq hB210 (by decide) hg_behind_89
      have hh_91 := hh_88.addI (jQc.ie hfq_90a hg_behind_89 (by decide) (by decide))
      clear hh_88
      refine lv_iload_n hx hb dX11_publish_75 rfl (lv_at hl 2 rfl) ?_
      refine lv_if_eq (tgt := 146) hx hb dX11_publish_76 (by decide) (fun c_92 => ?_) (fun c_92 => ?_)
      · skip
        have c_92' : a2.toInt = 0 := jb_eq (rfl) ((by decide)) c_92
        refine lv_aload_n hx hb dX11_publish_146 rfl (lv_at hl 0 rfl) ?_
        refine j7_read hx hb hown hK (C := RX11) (T := TX11) (N := 19) rfl hly_13_4 hlk_35 (hh_91.at 5 rfl) dX11_publish_147 ?_
        refine j_ldcSw hx hb hown rstr516 dX11_publish_150 ?_
        have hsz_93 := hh_91.2.2.2.2.2.1
        have htt_93 := hh_91.2.2.2.2.2.2.1
        refine W.room (fun hrc_93 hrs_93 => ?_)
        refine va_callv (A0 := jA base) (H0 := s.heap) (va_runV (As := [.ref str516]) (rest := []) ⟨hx, hb, hml, hown, hts⟩ (uX0_text l dC dI ca base B hB hAp hB2 hB196 Gx_81 H_81 bo str516 3 wc_81 wr_81 m_wr_81 LC LS) (cwV 1 hts (jgV (jWr_26 _ (List.mem_of_getElem? (i := 11) rfl)) (jWr_25 _ (List.mem_of_getElem? (i := 22) rfl)) (jWr_25 _ (List.mem_of_getElem? (i := 23) rfl)) (jWr_1 _ (List.mem_of_getElem? (i := 14) rfl)) (jWr_26 _ (List.mem_of_getElem? (i := 0) rfl))) rfl rfl rfl (by decide +kernel) ⟨by rw [← hR]; exact Nat.le_of_ble_eq_true rfl, by rw [← hR]; exact Nat.le_of_ble_eq_true rfl⟩) ⟨fun a U g mk q => by obtain ⟨q0, q1, q2, qK, q10, q11, q12, q13, q14⟩ := q; exact ⟨q0, q1, q2, jG.calling g mk a qK, (q10.moved (Vm.Alike.refl U.vm)), q11, q12, q13, q14⟩, hh_91.recv (C := RX0) (T := TX0) (N := 2) hB2 rfl (by decide) hg_85 hK, fun U hU hW => ⟨rfl, hU, hh_91.2.1, hG.step hW hU hh_91.1, (hstr516.moved hW.alike).kept hh_91.1.2.1, hg_85, hg_wr_81, (hh_91.2.2.1.sub (L1 := [(bo, 2, 1, .int wc_81), (bo, 2, 0, .ref wr_81)]) [1, 2] rfl), (by omega), (by omega), ⟨(by first | omega | rfl | assumption | fail), (by first | omega | rfl | assumption | fail), (by first | omega | rfl | assumption | fail), (by first | omega | rfl | assumption | fail), (by first | assumption | fail | omega), (by first | omega | rfl | assumption | fail)⟩⟩⟩ rfl rfl hl.1 rfl (lv_room (Nat.le_of_ble_eq_true rfl)) dX11_publish_153 ⟨by rw [hRc]; omega, by rw [hRs]; omega⟩) hh_91.1 (fun q _ h => h) (fun q h => h) (fun u_93 t_93 H_93 locs_93 ht_93 hvm_93 hr_94 hb_93 hz_93 hk_93 hS_93 => ?_)
        obtain ⟨qc_93, qa_93, m_qa_93, G_93⟩ := u_93
        rw [ht_93] at hb_93
        simp only at hb_93
        obtain ⟨⟨hb_931, hb_932, hb_933, hb_934, hb_935, hb_936⟩, hgq_93_0, hN_93, hbO_93⟩ := hb_93
        have hy_95 := hh_91.iv 1 rfl
        have hh_93 : jSt (dC, dI) B base G0 G_93 EX11_publish s.heap (zcx_81 + ((m_qa_93 - m_wr_81) / 16)) (zsx_81 + (2 * (m_qa_93 - m_wr_81))) [(bo, 2, 1, .int qc_93), (bo, 2, 0, .ref qa_93), (r1, 3, 9, .ref behind_89), (r1, 3, 1, .int version_52), (r1, 3, 0, .ref uri_22), (r0, 13, 4, .ref bo), (r0, 13, 3, .ref ou)] [] [([(210, 0)], jQc dC dI (ca 6) behind_89 40 fq_90)] H_93 locs_93 := (hh_91.callG hb_931 hb_932 hb_933 hb_934 hb_935 hS_93 rfl (L1 := [(r1, 3, 9, .ref behind_89), (r1, 3, 1, .int version_52), (r1, 3, 0, .ref uri_22), (r0, 13, 4, .ref bo), (r0, 13, 3, .ref ou)]) [0, 3, 4, 5, 6] rfl rfl (M1 := []) [] rfl rfl (I1 := [([(210, 0)], jQc dC dI (ca 6) behind_89 40 fq_90)]) [0] rfl rfl).more hb_936
        have hNn_93 : (jNk [0, 1, 2, 3, 4, 5, 6, 7, 8, 9, 10, 11, 12, 13, 14, 15, 16]) G0 G_93 := (hN_81).tr hN_93
        have hg_96 := hb_932 _ _ hg_82
        have hg_97 := hb_932 _ _ hg_83
        have hg_98 := hb_932 _ _ hg_behind_89
        have hg_99 := hb_932 _ _ hg_84
        have hg_100 := hb_932 _ _ hg_85
        have hg_101 := hb_932 _ _ hg_86
        have hd_103 := jOl.trO (hh_91.iv 2 rfl) hh_91.2.2.2.2.1 hbO_93 (by simp)
        have hh_104 := hh_93.addI (jOl.ie (dC := dC) (dI := dI) (G0 := G0) (k := 2) (rs := [bo, ou]) (H0 := s.heap) (F := [(2, 0), (2, 1)]) (C := RX0) (T := TX0) (N := 2) rfl (by decide) hh_93.2.2.2.2.1 (hd_103))
        clear hh_93
        have hyp_93 : qc_93.toInt ≤ (m_qa_93 : Nat) ∧ m_qa_93 ≤ 1048576 := by (try simp only at hr_94); omega
        have hy_105 := jYb.own hy_95 hbO_93 hb_932 hN_93 (by decide) (fun _ => ⟨_, _, _, hh_104.at 0 rfl, hh_104.at 1 rfl, hgq_93_0, hyp_93⟩)
        have hh_106 := hh_104.addI (jYb.ie hy_105)
        clear hh_104
        try simp only at hr_94
        obtain ⟨hr_94_0, hr_94_1, hr_94_2, hr_94_3, hr_94_4⟩ := hr_94
        have hh_107 := hh_106.wk (zc1 := (m_qa_93 - n_pa) / 16) (zs1 := 2 * (m_qa_93 - n_pa)) (by omega) (by omega)
        clear hh_106
        try clear hsz_93 htt_93 hrc_93 hrs_93
        try clear hb_934 hb_935
        refine lv_aload_n hx hb dX11_publish_156 rfl (lv_at hl 0 rfl) ?_
        obtain ⟨v_110, hv_110, hh_111⟩ := hh_107.pin (C := RX0) (T := TX0) (N := 2) hB2 rfl (by decide) hg_101 (i := 1) (by decide) rfl
        obtain ⟨count_112, rfl, hlocount_112, hhicount_112, hfxcount_112⟩ := hv_110
        obtain ⟨v_113, hv_113, hh_114⟩ := hh_111.pin (C := RX0) (T := TX0) (N := 2) hB2 rfl (by decide) hg_101 (i := 0) (by decide) rfl
        obtain ⟨row_115, nrow_115, rfl, hg_row_115, hlorow_115, hhirow_115, hpwrow_115, hfxrow_115⟩ := jBr.k6 (by decide) hv_113
        have hsz_108 := hh_114.2.2.2.2.2.1
        have htt_108 := hh_114.2.2.2.2.2.2.1
        refine W.room (fun hrc_108 hrs_108 => ?_)
        refine va_callv (A0 := jA base) (H0 := s.heap) (va_runV (As := []) (rest := []) ⟨hx, hb, hml, hown, hts⟩ (uX11_send l dC dI ca base B hB hAp hB2 hB4 hB13 hB196 G_93 H_93 r0 bo qc_93 qa_93 m_qa_93 ou count_112 row_115 nrow_115) (cwV 0 hts (jgV (jWr_26 _ (List.mem_of_getElem? (i := 20) rfl)) (jWr_26 _ (List.mem_of_getElem? (i := 21) rfl)) (jWr_26 _ (List.mem_of_getElem? (i := 22) rfl)) (jWr_1 _ (List.mem_of_getElem? (i := 2) rfl)) (jWr_26 _ (List.mem_of_getElem? (i := 23) rfl))) rfl rfl rfl (by decide +kernel) ⟨by rw [← hR]; exact Nat.le_of_ble_eq_true rfl, by rw [← hR]; exact Nat.le_of_ble_eq_true rfl⟩) ⟨fun a U g mk q => by obtain ⟨q0, q1, q2, qK, q10, q11, q12, q13, q14, q15, q16, q17⟩ := q; exact ⟨q0, q1, q2, jG.calling g mk a qK, q10, q11, q12, q13, q14, q15, q16, q17⟩, hh_114.recv (C := RX11) (T := TX11) (N := 19) hB13 rfl (by decide) hg_96 hK, fun U hU hW => ⟨rfl, hU, hh_114.2.1, hG.step hW hU hh_114.1, hg_96, hg_100, hgq_93_0, hg_101, hg_row_115, (hh_114.2.2.1.sub (L1 := [(r0, 13, 4, .ref bo), (bo, 2, 1, .int qc_93), (bo, 2, 0, .ref qa_93), (r0, 13, 3, .ref ou), (ou, 2, 1, .int count_112), (ou, 2, 0, .ref row_115)]) [7, 2, 3, 8, 1, 0] rfl), (hh_114.2.2.2.2.2.2.2.2.sub (L1 := [(jFy, jYb dC dI G_93)]) [0] rfl), ⟨(by first | omega | rfl | assumption | fail), (by first | omega | rfl | assumption | fail), (by first | omega | rfl | assumption | fail), (by first | omega | rfl | assumption | fail), (by first | omega | rfl | assumption | fail), (by first | omega | rfl | assumption | fail)⟩⟩⟩ rfl rfl hl.1 rfl (lv_room (Nat.le_of_ble_eq_true rfl)) dX11_publish_157 ⟨by rw [hRc]; show _ + 0 ≤ _; omega, by rw [hRs]; show _ + 0 ≤ _; omega⟩) hh_114.1 (fun q _ h => h) (fun q h => h) (fun u_108 t_108 H_108 locs_108 ht_108 hvm_108 hr_109 hb_108 hz_108 hk_108 hS_108 => ?_)
        rw [ht_108] at hb_108
        obtain ⟨hb_108, hbE_108⟩ := hb_108
        obtain ⟨hb_108, hbO_108⟩ := hb_108
        obtain ⟨hb_1081, hb_1082, hb_1083, hb_1084, hb_1085⟩ := hb_108
        have hh_108 : jSt (dC, dI) B base G0 G_93 EX11_publish s.heap ((m_qa_93 - n_pa) / 16) (2 * (m_qa_93 - n_pa)) [(r1, 3, 9, .ref behind_89), (r1, 3, 1, .int version_52), (r1, 3, 0, .ref uri_22), (r0, 13, 4, .ref bo), (r0, 13, 3, .ref ou)] [] [(jFy, jYb dC dI G_93), ([(210, 0)], jQc dC dI (ca 6) behind_89 40 fq_90)] H_108 locs_108 := (((hh_114.call hb_1081 hb_1082 hb_1083 hb_1084 hS_108 rfl (L1 := [(r1, 3, 9, .ref behind_89), (r1, 3, 1, .int version_52), (r1, 3, 0, .ref uri_22), (r0, 13, 4, .ref bo), (r0, 13, 3, .ref ou)]) [4, 5, 6, 7, 8] rfl rfl (M1 := []) [] rfl rfl (I1 := [([(210, 0)], jQc dC dI (ca 6) behind_89 40 fq_90)]) [2] rfl rfl).more hb_1085)).addIs hbE_108
        have hh_116 := hh_108.more (P1 := [(bo, 2, 1, .int qc_93), (bo, 2, 0, .ref qa_93)]) (jP.cons hg_100 (hbO_108 _ _ _ _ (jn1 (by first | assumption | exact Ne.symm (by assumption) | exact jnek hg_100 hg_101 (by decide))) hg_100 (hh_114.at 2 rfl)) (jP.cons hg_100 (hbO_108 _ _ _ _ (jn1 (by first | assumption | exact Ne.symm (by assumption) | exact jnek hg_100 hg_101 (by decide))) hg_100 (hh_114.at 3 rfl)) jP.nil))
        have hd_117 := jOl.trL (hh_114.iv 1 rfl) hh_114.2.2.2.2.1 hbO_108 (by simp)
        have hh_118 := hh_116.addI (jOl.ie (dC := dC) (dI := dI) (G0 := G0) (k := 2) (rs := [bo, ou]) (H0 := s.heap) (F := [(2, 0), (2, 1)]) (C := RX0) (T := TX0) (N := 2) rfl (by decide) hh_116.2.2.2.2.1 (hd_117))
        clear hh_116
        clear hh_114 ht_108 hvm_108 hz_108 hk_108 hS_108 hb_1081 hb_1082 hb_1083 hb_1084 hb_1085
        clear  hbE_108
        have hsz_119 := hh_118.2.2.2.2.2.1
        have htt_119 := hh_118.2.2.2.2.2.2.1
        refine W.room (fun hrc_119 hrs_119 => ?_)
        refine W.widen (k := LC - s.heap.size) (n := LS - jTot s.heap) (by omega) (by omega) ?_
        rw [hQ]
        exact W.vret hx hb hr (fun t ht hW => ⟨⟨(qc_93, qa_93, m_qa_93, G_93), rfl, by (try dsimp only); exact ⟨(by first | omega | rfl | assumption | fail), (by first | omega | rfl | assumption | fail), (by first | omega | rfl | assumption | fail), (by first | omega | rfl | assumption | fail), (by first | assumption | fail | omega)⟩, ⟨hh_118.ra (by first | omega | (simp only; omega)) (by first | omega | (simp only; omega)) (M1 := [(bo, 2, 1, .int qc_93), (bo, 2, 0, .ref qa_93)]) [0, 1] rfl ht, hgq_93_0, hNn_93, by rw [ht]; exact hh_118.iv 0 rfl, by rw [ht]; exact hh_118.2.2.2.2.2.2.2.2.sub (L1 := [(jFy, jYb dC dI G_93)]) [1] rfl⟩⟩, by rw [ht]; try exact hh_118.1.1, fun q h9 hq => by rw [ht]; try exact hh_118.1.2.1 q h9 hq⟩) hh_118.1.2.2 dX11_publish_160
      · skip
        have c_92' : a2.toInt ≠ 0 := jb_eq_n (rfl) ((by decide)) c_92
        refine lv_iload hx hb dX11_publish_79 (lv_at hl 4 rfl) ?_
        refine lv_aload_n hx hb dX11_publish_81 rfl (lv_at hl 1 rfl) ?_
        obtain ⟨v_120, hv_120, hh_121⟩ := hh_91.pin (C := RX1) (T := TX1) (N := 17) hB3 rfl (by decide) hg_83 (i := 10) (by decide) rfl
        clear hh_91
        obtain ⟨checked_122, rfl, hlochecked_122, hhichecked_122⟩ := hv_120
        refine j7_read hx hb hown hK (C := RX1) (T := TX1) (N := 17) rfl hly_3_10 hlk_171 (hh_121.at 0 rfl) dX11_publish_82 ?_
        refine lv_icmp_ge (tgt := 146) hx hb dX11_publish_85 (by decide) (fun c_123 => ?_) (fun c_123 => ?_)
        · skip
          have c_123' : v4_81.toInt ≥ checked_122.toInt := jb_ge (rfl) (rfl) c_123
          refine lv_aload_n hx hb dX11_publish_146 rfl (lv_at hl 0 rfl) ?_
          refine j7_read hx hb hown hK (C := RX11) (T := TX11) (N := 19) rfl hly_13_4 hlk_35 (hh_121.at 6 rfl) dX11_publish_147 ?_
          refine j_ldcSw hx hb hown rstr516 dX11_publish_150 ?_
          have hsz_124 := hh_121.2.2.2.2.2.1
          have htt_124 := hh_121.2.2.2.2.2.2.1
          refine W.room (fun hrc_124 hrs_124 => ?_)
          refine va_callv (A0 := jA base) (H0 := s.heap) (va_runV (As := [.ref str516]) (rest := []) ⟨hx, hb, hml, hown, hts⟩ (uX0_text l dC dI ca base B hB hAp hB2 hB196 Gx_81 H_81 bo str516 3 wc_81 wr_81 m_wr_81 LC LS) (cwV 1 hts (jgV (jWr_26 _ (List.mem_of_getElem? (i := 11) rfl)) (jWr_25 _ (List.mem_of_getElem? (i := 22) rfl)) (jWr_25 _ (List.mem_of_getElem? (i := 23) rfl)) (jWr_1 _ (List.mem_of_getElem? (i := 14) rfl)) (jWr_26 _ (List.mem_of_getElem? (i := 0) rfl))) rfl rfl rfl (by decide +kernel) ⟨by rw [← hR]; exact Nat.le_of_ble_eq_true rfl, by rw [← hR]; exact Nat.le_of_ble_eq_true rfl⟩) ⟨fun a U g mk q => by obtain ⟨q0, q1, q2, qK, q10, q11, q12, q13, q14⟩ := q; exact ⟨q0, q1, q2, jG.calling g mk a qK, (q10.moved (Vm.Alike.refl U.vm)), q11, q12, q13, q14⟩, hh_121.recv (C := RX0) (T := TX0) (N := 2) hB2 rfl (by decide) hg_85 hK, fun U hU hW => ⟨rfl, hU, hh_121.2.1, hG.step hW hU hh_121.1, (hstr516.moved hW.alike).kept hh_121.1.2.1, hg_85, hg_wr_81, (hh_121.2.2.1.sub (L1 := [(bo, 2, 1, .int wc_81), (bo, 2, 0, .ref wr_81)]) [2, 3] rfl), (by omega), (by omega), ⟨(by first | omega | rfl | assumption | fail), (by first | omega | rfl | assumption | fail), (by first | omega | rfl | assumption | fail), (by first | omega | rfl | assumption | fail), (by first | assumption | fail | omega), (by first | omega | rfl | assumption | fail)⟩⟩⟩ rfl rfl hl.1 rfl (lv_room (Nat.le_of_ble_eq_true rfl)) dX11_publish_153 ⟨by rw [hRc]; omega, by rw [hRs]; omega⟩) hh_121.1 (fun q _ h => h) (fun q h => h) (fun u_124 t_124 H_124 locs_124 ht_124 hvm_124 hr_125 hb_124 hz_124 hk_124 hS_124 => ?_)
          obtain ⟨qc_124, qa_124, m_qa_124, G_124⟩ := u_124
          rw [ht_124] at hb_124
          simp only at hb_124
          obtain ⟨⟨hb_1241, hb_1242, hb_1243, hb_1244, hb_1245, hb_1246⟩, hgq_124_0, hN_124, hbO_124⟩ := hb_124
          have hy_126 := hh_121.iv 1 rfl
          have hh_124 : jSt (dC, dI) B base G0 G_124 EX11_publish s.heap (zcx_81 + ((m_qa_124 - m_wr_81) / 16)) (zsx_81 + (2 * (m_qa_124 - m_wr_81))) [(bo, 2, 1, .int qc_124), (bo, 2, 0, .ref qa_124), (r1, 3, 10, .int checked_122), (r1, 3, 9, .ref behind_89), (r1, 3, 1, .int version_52), (r1, 3, 0, .ref uri_22), (r0, 13, 4, .ref bo), (r0, 13, 3, .ref ou)] [] [([(210, 0)], jQc dC dI (ca 6) behind_89 40 fq_90)] H_124 locs_124 := (hh_121.callG hb_1241 hb_1242 hb_1243 hb_1244 hb_1245 hS_124 rfl (L1 := [(r1, 3, 10, .int checked_122), (r1, 3, 9, .ref behind_89), (r1, 3, 1, .int version_52), (r1, 3, 0, .ref uri_22), (r0, 13, 4, .ref bo), (r0, 13, 3, .ref ou)]) [0, 1, 4, 5, 6, 7] rfl rfl (M1 := []) [] rfl rfl (I1 := [([(210, 0)], jQc dC dI (ca 6) behind_89 40 fq_90)]) [0] rfl rfl).more hb_1246
          have hNn_124 : (jNk [0, 1, 2, 3, 4, 5, 6, 7, 8, 9, 10, 11, 12, 13, 14, 15, 16]) G0 G_124 := (hN_81).tr hN_124
          have hg_127 := hb_1242 _ _ hg_82
          have hg_128 := hb_1242 _ _ hg_83
          have hg_129 := hb_1242 _ _ hg_behind_89
          have hg_130 := hb_1242 _ _ hg_84
          have hg_131 := hb_1242 _ _ hg_85
          have hg_132 := hb_1242 _ _ hg_86
          have hd_134 := jOl.trO (hh_121.iv 2 rfl) hh_121.2.2.2.2.1 hbO_124 (by simp)
          have hh_135 := hh_124.addI (jOl.ie (dC := dC) (dI := dI) (G0 := G0) (k := 2) (rs := [bo, ou]) (H0 := s.heap) (F := [(2, 0), (2, 1)]) (C := RX0) (T := TX0) (N := 2) rfl (by decide) hh_124.2.2.2.2.1 (hd_134))
          clear hh_124
          have hyp_124 : qc_124.toInt ≤ (m_qa_124 : Nat) ∧ m_qa_124 ≤ 1048576 := by (try simp only at hr_125); omega
          have hy_136 := jYb.own hy_126 hbO_124 hb_1242 hN_124 (by decide) (fun _ => ⟨_, _, _, hh_135.at 0 rfl, hh_135.at 1 rfl, hgq_124_0, hyp_124⟩)
          have hh_137 := hh_135.addI (jYb.ie hy_136)
          clear hh_135
          try simp only at hr_125
          obtain ⟨hr_125_0, hr_125_1, hr_125_2, hr_125_3, hr_125_4⟩ := hr_125
          have hh_138 := hh_137.wk (zc1 := (m_qa_124 - n_pa) / 16) (zs1 := 2 * (m_qa_124 - n_pa)) (by omega) (by omega)
          clear hh_137
          try clear hsz_124 htt_124 hrc_124 hrs_124
          try clear hb_1244 hb_1245
          refine lv_aload_n hx hb dX11_publish_156 rfl (lv_at hl 0 rfl) ?_
          obtain ⟨v_141, hv_141, hh_142⟩ := hh_138.pin (C := RX0) (T := TX0) (N := 2) hB2 rfl (by decide) hg_132 (i := 1) (by decide) rfl
          obtain ⟨count_143, rfl, hlocount_143, hhicount_143, hfxcount_143⟩ := hv_141
          obtain ⟨v_144, hv_144, hh_145⟩ := hh_142.pin (C := RX0) (T := TX0) (N := 2) hB2 rfl (by decide) hg_132 (i := 0) (by decide) rfl
          obtain ⟨row_146, nrow_146, rfl, hg_row_146, hlorow_146, hhirow_146, hpwrow_146, hfxrow_146⟩ := jBr.k6 (by decide) hv_144
          have hsz_139 := hh_145.2.2.2.2.2.1
          have htt_139 := hh_145.2.2.2.2.2.2.1
          refine W.room (fun hrc_139 hrs_139 => ?_)
          refine va_callv (A0 := jA base) (H0 := s.heap) (va_runV (As := []) (rest := []) ⟨hx, hb, hml, hown, hts⟩ (uX11_send l dC dI ca base B hB hAp hB2 hB4 hB13 hB196 G_124 H_124 r0 bo qc_124 qa_124 m_qa_124 ou count_143 row_146 nrow_146) (cwV 0 hts (jgV (jWr_26 _ (List.mem_of_getElem? (i := 20) rfl)) (jWr_26 _ (List.mem_of_getElem? (i := 21) rfl)) (jWr_26 _ (List.mem_of_getElem? (i := 22) rfl)) (jWr_1 _ (List.mem_of_getElem? (i := 2) rfl)) (jWr_26 _ (List.mem_of_getElem? (i := 23) rfl))) rfl rfl rfl (by decide +kernel) ⟨by rw [← hR]; exact Nat.le_of_ble_eq_true rfl, by rw [← hR]; exact Nat.le_of_ble_eq_true rfl⟩) ⟨fun a U g mk q => by obtain ⟨q0, q1, q2, qK, q10, q11, q12, q13, q14, q15, q16, q17⟩ := q; exact ⟨q0, q1, q2, jG.calling g mk a qK, q10, q11, q12, q13, q14, q15, q16, q17⟩, hh_145.recv (C := RX11) (T := TX11) (N := 19) hB13 rfl (by decide) hg_127 hK, fun U hU hW => ⟨rfl, hU, hh_145.2.1, hG.step hW hU hh_145.1, hg_127, hg_131, hgq_124_0, hg_132, hg_row_146, (hh_145.2.2.1.sub (L1 := [(r0, 13, 4, .ref bo), (bo, 2, 1, .int qc_124), (bo, 2, 0, .ref qa_124), (r0, 13, 3, .ref ou), (ou, 2, 1, .int count_143), (ou, 2, 0, .ref row_146)]) [8, 2, 3, 9, 1, 0] rfl), (hh_145.2.2.2.2.2.2.2.2.sub (L1 := [(jFy, jYb dC dI G_124)]) [0] rfl), ⟨(by first | omega | rfl | assumption | fail), (by first | omega | rfl | assumption | fail), (by first | omega | rfl | assumption | fail), (by first | omega | rfl | assumption | fail), (by first | omega | rfl | assumption | fail), (by first | omega | rfl | assumption | fail)⟩⟩⟩ rfl rfl hl.1 rfl (lv_room (Nat.le_of_ble_eq_true rfl)) dX11_publish_157 ⟨by rw [hRc]; show _ + 0 ≤ _; omega, by rw [hRs]; show _ + 0 ≤ _; omega⟩) hh_145.1 (fun q _ h => h) (fun q h => h) (fun u_139 t_139 H_139 locs_139 ht_139 hvm_139 hr_140 hb_139 hz_139 hk_139 hS_139 => ?_)
          rw [ht_139] at hb_139
          obtain ⟨hb_139, hbE_139⟩ := hb_139
          obtain ⟨hb_139, hbO_139⟩ := hb_139
          obtain ⟨hb_1391, hb_1392, hb_1393, hb_1394, hb_1395⟩ := hb_139
          have hh_139 : jSt (dC, dI) B base G0 G_124 EX11_publish s.heap ((m_qa_124 - n_pa) / 16) (2 * (m_qa_124 - n_pa)) [(r1, 3, 10, .int checked_122), (r1, 3, 9, .ref behind_89), (r1, 3, 1, .int version_52), (r1, 3, 0, .ref uri_22), (r0, 13, 4, .ref bo), (r0, 13, 3, .ref ou)] [] [(jFy, jYb dC dI G_124), ([(210, 0)], jQc dC dI (ca 6) behind_89 40 fq_90)] H_139 locs_139 := (((hh_145.call hb_1391 hb_1392 hb_1393 hb_1394 hS_139 rfl (L1 := [(r1, 3, 10, .int checked_122), (r1, 3, 9, .ref behind_89), (r1, 3, 1, .int version_52), (r1, 3, 0, .ref uri_22), (r0, 13, 4, .ref bo), (r0, 13, 3, .ref ou)]) [4, 5, 6, 7, 8, 9] rfl rfl (M1 := []) [] rfl rfl (I1 := [([(210, 0)], jQc dC dI (ca 6) behind_89 40 fq_90)]) [2] rfl rfl).more hb_1395)).addIs hbE_139
          have hh_147 := hh_139.more (P1 := [(bo, 2, 1, .int qc_124), (bo, 2, 0, .ref qa_124)]) (jP.cons hg_131 (hbO_139 _ _ _ _ (jn1 (by first | assumption | exact Ne.symm (by assumption) | exact jnek hg_131 hg_132 (by decide))) hg_131 (hh_145.at 2 rfl)) (jP.cons hg_131 (hbO_139 _ _ _ _ (jn1 (by first | assumption | exact Ne.symm (by assumption) | exact jnek hg_131 hg_132 (by decide))) hg_131 (hh_145.at 3 rfl)) jP.nil))
          have hd_148 := jOl.trL (hh_145.iv 1 rfl) hh_145.2.2.2.2.1 hbO_139 (by simp)
          have hh_149 := hh_147.addI (jOl.ie (dC := dC) (dI := dI) (G0 := G0) (k := 2) (rs := [bo, ou]) (H0 := s.heap) (F := [(2, 0), (2, 1)]) (C := RX0) (T := TX0) (N := 2) rfl (by decide) hh_147.2.2.2.2.1 (hd_148))
          clear hh_147
          clear hh_145 ht_139 hvm_139 hz_139 hk_139 hS_139 hb_1391 hb_1392 hb_1393 hb_1394 hb_1395
          clear  hbE_139
          have hsz_150 := hh_149.2.2.2.2.2.1
          have htt_150 := hh_149.2.2.2.2.2.2.1
          refine W.room (fun hrc_150 hrs_150 => ?_)
          refine W.widen (k := LC - s.heap.size) (n := LS - jTot s.heap) (by omega) (by omega) ?_
          rw [hQ]
          exact W.vret hx hb hr (fun t ht hW => ⟨⟨(qc_124, qa_124, m_qa_124, G_124), rfl, by (try dsimp only); exact ⟨(by first | omega | rfl | assumption | fail), (by first | omega | rfl | assumption | fail), (by first | omega | rfl | assumption | fail), (by first | omega | rfl | assumption | fail), (by first | assumption | fail | omega)⟩, ⟨hh_149.ra (by first | omega | (simp only; omega)) (by first | omega | (simp only; omega)) (M1 := [(bo, 2, 1, .int qc_124), (bo, 2, 0, .ref qa_124)]) [0, 1] rfl ht, hgq_124_0, hNn_124, by rw [ht]; exact hh_149.iv 0 rfl, by rw [ht]; exact hh_149.2.2.2.2.2.2.2.2.sub (L1 := [(jFy, jYb dC dI G_124)]) [1] rfl⟩⟩, by rw [ht]; try exact hh_149.1.1, fun q h9 hq => by rw [ht]; try exact hh_149.1.2.1 q h9 hq⟩) hh_149.1.2.2 dX11_publish_160
        · skip
          have c_123' : v4_81.toInt < checked_122.toInt := jb_ge_n (rfl) (rfl) c_123
          refine lv_iload hx hb dX11_publish_88 (lv_at hl 4 rfl) ?_
          refine lv_bipush (v := 40) hx hb dX11_publish_90 (by decide) ?_
          refine lv_icmp_ge (tgt := 146) hx hb dX11_publish_92 (by decide) (fun c_151 => ?_) (fun c_151 => ?_)
          · skip
            have c_151' : v4_81.toInt ≥ 40 := jb_ge (rfl) ((by decide)) c_151
            refine lv_aload_n hx hb dX11_publish_146 rfl (lv_at hl 0 rfl) ?_
            refine j7_read hx hb hown hK (C := RX11) (T := TX11) (N := 19) rfl hly_13_4 hlk_35 (hh_121.at 6 rfl) dX11_publish_147 ?_
            refine j_ldcSw hx hb hown rstr516 dX11_publish_150 ?_
            have hsz_152 := hh_121.2.2.2.2.2.1
            have htt_152 := hh_121.2.2.2.2.2.2.1
            refine W.room (fun hrc_152 hrs_152 => ?_)
            refine va_callv (A0 := jA base) (H0 := s.heap) (va_runV (As := [.ref str516]) (rest := []) ⟨hx, hb, hml, hown, hts⟩ (uX0_text l dC dI ca base B hB hAp hB2 hB196 Gx_81 H_81 bo str516 3 wc_81 wr_81 m_wr_81 LC LS) (cwV 1 hts (jgV (jWr_26 _ (List.mem_of_getElem? (i := 11) rfl)) (jWr_25 _ (List.mem_of_getElem? (i := 22) rfl)) (jWr_25 _ (List.mem_of_getElem? (i := 23) rfl)) (jWr_1 _ (List.mem_of_getElem? (i := 14) rfl)) (jWr_26 _ (List.mem_of_getElem? (i := 0) rfl))) rfl rfl rfl (by decide +kernel) ⟨by rw [← hR]; exact Nat.le_of_ble_eq_true rfl, by rw [← hR]; exact Nat.le_of_ble_eq_true rfl⟩) ⟨fun a U g mk q => by obtain ⟨q0, q1, q2, qK, q10, q11, q12, q13, q14⟩ := q; exact ⟨q0, q1, q2, jG.calling g mk a qK, (q10.moved (Vm.Alike.refl U.vm)), q11, q12, q13, q14⟩, hh_121.recv (C := RX0) (T := TX0) (N := 2) hB2 rfl (by decide) hg_85 hK, fun U hU hW => ⟨rfl, hU, hh_121.2.1, hG.step hW hU hh_121.1, (hstr516.moved hW.alike).kept hh_121.1.2.1, hg_85, hg_wr_81, (hh_121.2.2.1.sub (L1 := [(bo, 2, 1, .int wc_81), (bo, 2, 0, .ref wr_81)]) [2, 3] rfl), (by omega), (by omega), ⟨(by first | omega | rfl | assumption | fail), (by first | omega | rfl | assumption | fail), (by first | omega | rfl | assumption | fail), (by first | omega | rfl | assumption | fail), (by first | assumption | fail | omega), (by first | omega | rfl | assumption | fail)⟩⟩⟩ rfl rfl hl.1 rfl (lv_room (Nat.le_of_ble_eq_true rfl)) dX11_publish_153 ⟨by rw [hRc]; omega, by rw [hRs]; omega⟩) hh_121.1 (fun q _ h => h) (fun q h => h) (fun u_152 t_152 H_152 locs_152 ht_152 hvm_152 hr_153 hb_152 hz_152 hk_152 hS_152 => ?_)
            obtain ⟨qc_152, qa_152, m_qa_152, G_152⟩ := u_152
            rw [ht_152] at hb_152
            simp only at hb_152
            obtain ⟨⟨hb_1521, hb_1522, hb_1523, hb_1524, hb_1525, hb_1526⟩, hgq_152_0, hN_152, hbO_152⟩ := hb_152
            have hy_154 := hh_121.iv 1 rfl
            have hh_152 : jSt (dC, dI) B base G0 G_152 EX11_publish s.heap (zcx_81 + ((m_qa_152 - m_wr_81) / 16)) (zsx_81 + (2 * (m_qa_152 - m_wr_81))) [(bo, 2, 1, .int qc_152), (bo, 2, 0, .ref qa_152), (r1, 3, 10, .int checked_122), (r1, 3, 9, .ref behind_89), (r1, 3, 1, .int version_52), (r1, 3, 0, .ref uri_22), (r0, 13, 4, .ref bo), (r0, 13, 3, .ref ou)] [] [([(210, 0)], jQc dC dI (ca 6) behind_89 40 fq_90)] H_152 locs_152 := (hh_121.callG hb_1521 hb_1522 hb_1523 hb_1524 hb_1525 hS_152 rfl (L1 := [(r1, 3, 10, .int checked_122), (r1, 3, 9, .ref behind_89), (r1, 3, 1, .int version_52), (r1, 3, 0, .ref uri_22), (r0, 13, 4, .ref bo), (r0, 13, 3, .ref ou)]) [0, 1, 4, 5, 6, 7] rfl rfl (M1 := []) [] rfl rfl (I1 := [([(210, 0)], jQc dC dI (ca 6) behind_89 40 fq_90)]) [0] rfl rfl).more hb_1526
            have hNn_152 : (jNk [0, 1, 2, 3, 4, 5, 6, 7, 8, 9, 10, 11, 12, 13, 14, 15, 16]) G0 G_152 := (hN_81).tr hN_152
            have hg_155 := hb_1522 _ _ hg_82
            have hg_156 := hb_1522 _ _ hg_83
            have hg_157 := hb_1522 _ _ hg_behind_89
            have hg_158 := hb_1522 _ _ hg_84
            have hg_159 := hb_1522 _ _ hg_85
            have hg_160 := hb_1522 _ _ hg_86
            have hd_162 := jOl.trO (hh_121.iv 2 rfl) hh_121.2.2.2.2.1 hbO_152 (by simp)
            have hh_163 := hh_152.addI (jOl.ie (dC := dC) (dI := dI) (G0 := G0) (k := 2) (rs := [bo, ou]) (H0 := s.heap) (F := [(2, 0), (2, 1)]) (C := RX0) (T := TX0) (N := 2) rfl (by decide) hh_152.2.2.2.2.1 (hd_162))
            clear hh_152
            have hyp_152 : qc_152.toInt ≤ (m_qa_152 : Nat) ∧ m_qa_152 ≤ 1048576 := by (try simp only at hr_153); omega
            have hy_164 := jYb.own hy_154 hbO_152 hb_1522 hN_152 (by decide) (fun _ => ⟨_, _, _, hh_163.at 0 rfl, hh_163.at 1 rfl, hgq_152_0, hyp_152⟩)
            have hh_165 := hh_163.addI (jYb.ie hy_164)
            clear hh_163
            try simp only at hr_153
            obtain ⟨hr_153_0, hr_153_1, hr_153_2, hr_153_3, hr_153_4⟩ := hr_153
            have hh_166 := hh_165.wk (zc1 := (m_qa_152 - n_pa) / 16) (zs1 := 2 * (m_qa_152 - n_pa)) (by omega) (by omega)
            clear hh_165
            try clear hsz_152 htt_152 hrc_152 hrs_152
            try clear hb_1524 hb_1525
            refine lv_aload_n hx hb dX11_publish_156 rfl (lv_at hl 0 rfl) ?_
            obtain ⟨v_169, hv_169, hh_170⟩ := hh_166.pin (C := RX0) (T := TX0) (N := 2) hB2 rfl (by decide) hg_160 (i := 1) (by decide) rfl
            obtain ⟨count_171, rfl, hlocount_171, hhicount_171, hfxcount_171⟩ := hv_169
            obtain ⟨v_172, hv_172, hh_173⟩ := hh_170.pin (C := RX0) (T := TX0) (N := 2) hB2 rfl (by decide) hg_160 (i := 0) (by decide) rfl
            obtain ⟨row_174, nrow_174, rfl, hg_row_174, hlorow_174, hhirow_174, hpwrow_174, hfxrow_174⟩ := jBr.k6 (by decide) hv_172
            have hsz_167 := hh_173.2.2.2.2.2.1
            have htt_167 := hh_173.2.2.2.2.2.2.1
            refine W.room (fun hrc_167 hrs_167 => ?_)
            refine va_callv (A0 := jA base) (H0 := s.heap) (va_runV (As := []) (rest := []) ⟨hx, hb, hml, hown, hts⟩ (uX11_send l dC dI ca base B hB hAp hB2 hB4 hB13 hB196 G_152 H_152 r0 bo qc_152 qa_152 m_qa_152 ou count_171 row_174 nrow_174) (cwV 0 hts (jgV (jWr_26 _ (List.mem_of_getElem? (i := 20) rfl)) (jWr_26 _ (List.mem_of_getElem? (i := 21) rfl)) (jWr_26 _ (List.mem_of_getElem? (i := 22) rfl)) (jWr_1 _ (List.mem_of_getElem? (i := 2) rfl)) (jWr_26 _ (List.mem_of_getElem? (i := 23) rfl))) rfl rfl rfl (by decide +kernel) ⟨by rw [← hR]; exact Nat.le_of_ble_eq_true rfl, by rw [← hR]; exact Nat.le_of_ble_eq_true rfl⟩) ⟨fun a U g mk q => by obtain ⟨q0, q1, q2, qK, q10, q11, q12, q13, q14, q15, q16, q17⟩ := q; exact ⟨q0, q1, q2, jG.calling g mk a qK, q10, q11, q12, q13, q14, q15, q16, q17⟩, hh_173.recv (C := RX11) (T := TX11) (N := 19) hB13 rfl (by decide) hg_155 hK, fun U hU hW => ⟨rfl, hU, hh_173.2.1, hG.step hW hU hh_173.1, hg_155, hg_159, hgq_152_0, hg_160, hg_row_174, (hh_173.2.2.1.sub (L1 := [(r0, 13, 4, .ref bo), (bo, 2, 1, .int qc_152), (bo, 2, 0, .ref qa_152), (r0, 13, 3, .ref ou), (ou, 2, 1, .int count_171), (ou, 2, 0, .ref row_174)]) [8, 2, 3, 9, 1, 0] rfl), (hh_173.2.2.2.2.2.2.2.2.sub (L1 := [(jFy, jYb dC dI G_152)]) [0] rfl), ⟨(by first | omega | rfl | assumption | fail), (by first | omega | rfl | assumption | fail), (by first | omega | rfl | assumption | fail), (by first | omega | rfl | assumption | fail), (by first | omega | rfl | assumption | fail), (by first | omega | rfl | assumption | fail)⟩⟩⟩ rfl rfl hl.1 rfl (lv_room (Nat.le_of_ble_eq_true rfl)) dX11_publish_157 ⟨by rw [hRc]; show _ + 0 ≤ _; omega, by rw [hRs]; show _ + 0 ≤ _; omega⟩) hh_173.1 (fun q _ h => h) (fun q h => h) (fun u_167 t_167 H_167 locs_167 ht_167 hvm_167 hr_168 hb_167 hz_167 hk_167 hS_167 => ?_)
            rw [ht_167] at hb_167
            obtain ⟨hb_167, hbE_167⟩ := hb_167
            obtain ⟨hb_167, hbO_167⟩ := hb_167
            obtain ⟨hb_1671, hb_1672, hb_1673, hb_1674, hb_1675⟩ := hb_167
            have hh_167 : jSt (dC, dI) B base G0 G_152 EX11_publish s.heap ((m_qa_152 - n_pa) / 16) (2 * (m_qa_152 - n_pa)) [(r1, 3, 10, .int checked_122), (r1, 3, 9, .ref behind_89), (r1, 3, 1, .int version_52), (r1, 3, 0, .ref uri_22), (r0, 13, 4, .ref bo), (r0, 13, 3, .ref ou)] [] [(jFy, jYb dC dI G_152), ([(210, 0)], jQc dC dI (ca 6) behind_89 40 fq_90)] H_167 locs_167 := (((hh_173.call hb_1671 hb_1672 hb_1673 hb_1674 hS_167 rfl (L1 := [(r1, 3, 10, .int checked_122), (r1, 3, 9, .ref behind_89), (r1, 3, 1, .int version_52), (r1, 3, 0, .ref uri_22), (r0, 13, 4, .ref bo), (r0, 13, 3, .ref ou)]) [4, 5, 6, 7, 8, 9] rfl rfl (M1 := []) [] rfl rfl (I1 := [([(210, 0)], jQc dC dI (ca 6) behind_89 40 fq_90)]) [2] rfl rfl).more hb_1675)).addIs hbE_167
            have hh_175 := hh_167.more (P1 := [(bo, 2, 1, .int qc_152), (bo, 2, 0, .ref qa_152)]) (jP.cons hg_159 (hbO_167 _ _ _ _ (jn1 (by first | assumption | exact Ne.symm (by assumption) | exact jnek hg_159 hg_160 (by decide))) hg_159 (hh_173.at 2 rfl)) (jP.cons hg_159 (hbO_167 _ _ _ _ (jn1 (by first | assumption | exact Ne.symm (by assumption) | exact jnek hg_159 hg_160 (by decide))) hg_159 (hh_173.at 3 rfl)) jP.nil))
            have hd_176 := jOl.trL (hh_173.iv 1 rfl) hh_173.2.2.2.2.1 hbO_167 (by simp)
            have hh_177 := hh_175.addI (jOl.ie (dC := dC) (dI := dI) (G0 := G0) (k := 2) (rs := [bo, ou]) (H0 := s.heap) (F := [(2, 0), (2, 1)]) (C := RX0) (T := TX0) (N := 2) rfl (by decide) hh_175.2.2.2.2.1 (hd_176))
            clear hh_175
            clear hh_173 ht_167 hvm_167 hz_167 hk_167 hS_167 hb_1671 hb_1672 hb_1673 hb_1674 hb_1675
            clear  hbE_167
            have hsz_178 := hh_177.2.2.2.2.2.1
            have htt_178 := hh_177.2.2.2.2.2.2.1
            refine W.room (fun hrc_178 hrs_178 => ?_)
            refine W.widen (k := LC - s.heap.size) (n := LS - jTot s.heap) (by omega) (by omega) ?_
            rw [hQ]
            exact W.vret hx hb hr (fun t ht hW => ⟨⟨(qc_152, qa_152, m_qa_152, G_152), rfl, by (try dsimp only); exact ⟨(by first | omega | rfl | assumption | fail), (by first | omega | rfl | assumption | fail), (by first | omega | rfl | assumption | fail), (by first | omega | rfl | assumption | fail), (by first | assumption | fail | omega)⟩, ⟨hh_177.ra (by first | omega | (simp only; omega)) (by first | omega | (simp only; omega)) (M1 := [(bo, 2, 1, .int qc_152), (bo, 2, 0, .ref qa_152)]) [0, 1] rfl ht, hgq_152_0, hNn_152, by rw [ht]; exact hh_177.iv 0 rfl, by rw [ht]; exact hh_177.2.2.2.2.2.2.2.2.sub (L1 := [(jFy, jYb dC dI G_152)]) [1] rfl⟩⟩, by rw [ht]; try exact hh_177.1.1, fun q h9 hq => by rw [ht]; try exact hh_177.1.2.1 q h9 hq⟩) hh_177.1.2.2 dX11_publish_160
          · skip
            have c_151' : v4_81.toInt < 40 := jb_ge_n (rfl) ((by decide)) c_151
            refine lv_aload_n hx hb dX11_publish_95 rfl (lv_at hl 1 rfl) ?_
            refine j7_read hx hb hown hK (C := RX1) (T := TX1) (N := 17) rfl hly_3_9 hlk_178 (hh_121.at 1 rfl) dX11_publish_96 ?_
            refine lv_iload hx hb dX11_publish_99 (lv_at hl 4 rfl) ?_
            refine j7_qaldI hx hb hK2 hh_121 hB210 2 rfl (by decide) hg_behind_89 (x := v4_81.toInt) (rfl) (by omega) (hh_121.iv 0 rfl) dX11_publish_101 (fun o_179 ho_179 heo_179 => ?_)
            rcases ho_179 with rfl | ⟨el_180, rfl, hg_el_180⟩
            · simp only [va_rf]
              refine lv_ifnullN (tgt := 140) hx hb dX11_publish_102 (by decide) ?_
              obtain ⟨z_181, ez_181⟩ : ∃ y : Int32, y = v4_81 + 1 := ⟨_, rfl⟩
              refine lv_iinc (v := z_181) (lv' := [(4, .int z_181), (0, .ref r0), (1, .ref r1), (2, .int a2), (3, .int v3_81)]) hx hb dX11_publish_140 hl (k := 4) rfl (by rw [ez_181]; rfl) (by decide) rfl (fun ls hl => ?_)
              have hz_181 : z_181.toInt = v4_81.toInt + 1 := by rw [ez_181]; exact jb_iadd2 (rfl) (by decide) (by omega)
              refine lv_goto (tgt := 75) hx hb dX11_publish_143 (by decide) ?_
              refine W.tight (c2 := zcx_81) (n2 := zsx_81) hh_121.2.2.2.2.2.1 hh_121.2.2.2.2.2.2.1 ?_
              exact L75 Gx_81 zcx_81 zsx_81 v3_81 z_181 wc_81 wr_81 m_wr_81 _ _ (hh_121.sub (L1 := [(bo, 2, 1, .int wc_81), (bo, 2, 0, .ref wr_81), (r1, 3, 1, .int version_52), (r1, 3, 0, .ref uri_22), (r0, 13, 4, .ref bo), (r0, 13, 3, .ref ou)]) [2, 3, 4, 5, 6, 7] rfl (M1 := []) [] rfl (I1 := [(jFy, jYb dC dI Gx_81), ([(2, 0), (2, 1)], jOl (dC, dI) G0 2 [bo, ou] s.heap)]) [1, 2] rfl) (hN_81) (hle_81) (hb_v3_81) hg_wr_81 (⟨(by first | omega | rfl | assumption | fail), (by first | omega | rfl | assumption | fail), (by first | omega | rfl | assumption | fail), (by first | omega | rfl | assumption | fail), (by first | assumption | fail | omega), (by first | omega | rfl | assumption | fail), (by first | omega | rfl | assumption | fail), (by first | omega | rfl | assumption | fail), (by first | omega | rfl | assumption | fail)⟩) (by omega) _ (lv_sub hl [1, 2, 3, 4, 0] rfl)
            · simp only [va_rf]
              refine lv_ifnull hx hb dX11_publish_102 ?_
              refine lv_aload_n hx hb dX11_publish_105 rfl (lv_at hl 1 rfl) ?_
              refine j7_read hx hb hown hK (C := RX1) (T := TX1) (N := 17) rfl hly_3_9 hlk_178 (hh_121.at 1 rfl) dX11_publish_106 ?_
              refine lv_iload hx hb dX11_publish_109 (lv_at hl 4 rfl) ?_
              refine j7_qaldI hx hb hK2 hh_121 hB210 2 rfl (by decide) hg_behind_89 (x := v4_81.toInt) (rfl) (by omega) (hh_121.iv 0 rfl) dX11_publish_111 (fun o_182 ho_182 heo_182 => ?_)
              rcases ho_182 with rfl | ⟨el_183, rfl, hg_el_183⟩
              · simp only [va_rf]
                exact absurd (heo_182.trans heo_179.symm) (by simp)
              · simp only [va_rf]
                obtain rfl : el_180 = el_183 := (Option.some.inj (heo_182.trans heo_179.symm)).symm
                obtain ⟨v_184, hv_184, hh_185⟩ := hh_121.pin (C := RX9) (T := TX9) (N := 9) hB11 rfl (by decide) hg_el_180 (i := 2) (by decide) rfl
                clear hh_121
                obtain ⟨fault_186, rfl⟩ := hv_184
                refine j7_read hx hb hown hK (C := RX9) (T := TX9) (N := 9) rfl hly_11_2 hlk_188 (hh_185.at 0 rfl) dX11_publish_112 ?_
                refine lv_if_le (tgt := 140) hx hb dX11_publish_115 (by decide) (fun c_187 => ?_) (fun c_187 => ?_)
                · skip
                  have c_187' : fault_186.toInt ≤ 0 := jb_le (rfl) ((by decide)) c_187
                  obtain ⟨z_188, ez_188⟩ : ∃ y : Int32, y = v4_81 + 1 := ⟨_, rfl⟩
                  refine lv_iinc (v := z_188) (lv' := [(4, .int z_188), (0, .ref r0), (1, .ref r1), (2, .int a2), (3, .int v3_81)]) hx hb dX11_publish_140 hl (k := 4) rfl (by rw [ez_188]; rfl) (by decide) rfl (fun ls hl => ?_)
                  have hz_188 : z_188.toInt = v4_81.toInt + 1 := by rw [ez_188]; exact jb_iadd2 (rfl) (by decide) (by omega)
                  refine lv_goto (tgt := 75) hx hb dX11_publish_143 (by decide) ?_
                  refine W.tight (c2 := zcx_81) (n2 := zsx_81) hh_185.2.2.2.2.2.1 hh_185.2.2.2.2.2.2.1 ?_
                  exact L75 Gx_81 zcx_81 zsx_81 v3_81 z_188 wc_81 wr_81 m_wr_81 _ _ (hh_185.sub (L1 := [(bo, 2, 1, .int wc_81), (bo, 2, 0, .ref wr_81), (r1, 3, 1, .int version_52), (r1, 3, 0, .ref uri_22), (r0, 13, 4, .ref bo), (r0, 13, 3, .ref ou)]) [3, 4, 5, 6, 7, 8] rfl (M1 := []) [] rfl (I1 := [(jFy, jYb dC dI Gx_81), ([(2, 0), (2, 1)], jOl (dC, dI) G0 2 [bo, ou] s.heap)]) [1, 2] rfl) (hN_81) (hle_81) (hb_v3_81) hg_wr_81 (⟨(by first | omega | rfl | assumption | fail), (by first | omega | rfl | assumption | fail), (by first | omega | rfl | assumption | fail), (by first | omega | rfl | assumption | fail), (by first | assumption | fail | omega), (by first | omega | rfl | assumption | fail), (by first | omega | rfl | assumption | fail), (by first | omega | rfl | assumption | fail), (by first | omega | rfl | assumption | fail)⟩) (by omega) _ (lv_sub hl [1, 2, 3, 4, 0] rfl)
                · skip
                  have c_187' : fault_186.toInt > 0 := jb_le_n (rfl) ((by decide)) c_187
                  refine lv_iload_n hx hb dX11_publish_118 rfl (lv_at hl 3 rfl) ?_
                  refine lv_if_ne (tgt := 131) hx hb dX11_publish_119 (by decide) (fun c_189 => ?_) (fun c_189 => ?_)
                  · skip
                    have c_189' : v3_81.toInt ≠ 0 := jb_ne (rfl) ((by decide)) c_189
                    refine lv_iconst (v := 0) hx hb dX11_publish_131 (by decide) ?_
                    refine lv_istore_n (lv' := [(3, .int 0), (0, .ref r0), (1, .ref r1), (2, .int a2), (4, .int v4_81)]) hx hb dX11_publish_132 rfl hl (by decide) rfl (fun ls hl => ?_)
                    refine lv_aload_n hx hb dX11_publish_133 rfl (lv_at hl 1 rfl) ?_
                    refine lv_aload_n hx hb dX11_publish_134 rfl (lv_at hl 2 rfl) ?_
                    refine lv_iload hx hb dX11_publish_135 (lv_at hl 4 rfl) ?_
                    have hsz_190 := hh_185.2.2.2.2.2.1
                    have htt_190 := hh_185.2.2.2.2.2.2.1
                    refine W.room (fun hrc_190 hrs_190 => ?_)
                    refine va_callv (A0 := jA base) (H0 := s.heap) (va_runV (As := [.ref r1, .int v4_81]) (rest := []) ⟨hx, hb, hml, hown, hts⟩ (uX11_diagnostic l dC dI ca base B hB hAp hB2 hB3 hB11 hB13 hB171 hB172 hB173 hB196 hB210 Gx_81 H_81 r0 r1 v4_81 bo wc_81 wr_81 m_wr_81 behind_89 fq_90 LC LS) (cwV 2 hts (jgV (jWr_40 _ (List.mem_of_getElem? (i := 9) rfl)) (jWr_40 _ (List.mem_of_getElem? (i := 10) rfl)) (jWr_40 _ (List.mem_of_getElem? (i := 11) rfl)) (jWr_1 _ (List.mem_of_getElem? (i := 2) rfl)) (jWr_40 _ (List.mem_of_getElem? (i := 12) rfl))) rfl rfl rfl (by decide +kernel) ⟨by rw [← hR]; exact Nat.le_of_ble_eq_true rfl, by rw [← hR]; exact Nat.le_of_ble_eq_true rfl⟩) ⟨fun a U g mk q => by obtain ⟨q0, q1, q2, qK, q10, q11, q12, q13, q14, q15, q16, q17, q18⟩ := q; exact ⟨q0, q1, q2, jG.calling g mk a qK, (va_K.moved (Vm.Alike.refl U.vm) q10), q11, q12, q13, q14, q15, q16, q17, q18⟩, hh_185.recv (C := RX11) (T := TX11) (N := 19) hB13 rfl (by decide) hg_82 hK, fun U hU hW => ⟨rfl, hU, hh_185.2.1, hG.step hW hU hh_185.1, va_K.moved hW.alike hK2, hg_83, hg_82, hg_85, hg_wr_81, hg_behind_89, (hh_185.2.2.1.sub (L1 := [(r0, 13, 4, .ref bo), (bo, 2, 1, .int wc_81), (bo, 2, 0, .ref wr_81), (r1, 3, 9, .ref behind_89)]) [7, 3, 4, 2] rfl), (hh_185.2.2.2.2.2.2.2.2.sub (L1 := [(jFy, jYb dC dI Gx_81), ([(210, 0)], jQc dC dI (ca 6) behind_89 40 fq_90)]) [1, 0] rfl), (by omega), (by omega), ⟨(by first | omega | rfl | assumption | (rw [← heo_182]; exact fun q => nomatch q)), (by first | omega | rfl | assumption | (rw [← heo_182]; exact fun q => nomatch q)), (by first | omega | rfl | assumption | (rw [← heo_182]; exact fun q => nomatch q)), (by first | omega | rfl | assumption | (rw [← heo_182]; exact fun q => nomatch q)), (by first | assumption | (rw [← heo_182]; exact fun q => nomatch q) | omega), (by first | omega | rfl | assumption | (rw [← heo_182]; exact fun q => nomatch q)), (by first | omega | rfl | assumption | (rw [← heo_182]; exact fun q => nomatch q)), (by first | omega | rfl | assumption | (rw [← heo_182]; exact fun q => nomatch q))⟩⟩⟩ rfl rfl hl.1 rfl (lv_room (Nat.le_of_ble_eq_true rfl)) dX11_publish_137 ⟨by rw [hRc]; omega, by rw [hRs]; omega⟩) hh_185.1 (fun q _ h => h) (fun q h => h) (fun u_190 t_190 H_190 locs_190 ht_190 hvm_190 hr_191 hb_190 hz_190 hk_190 hS_190 => ?_)
                    obtain ⟨qc_190, qa_190, m_qa_190, G_190⟩ := u_190
                    rw [ht_190] at hb_190
                    simp only at hb_190
                    obtain ⟨⟨hb_1901, hb_1902, hb_1903, hb_1904, hb_1905, hb_1906⟩, hgq_190_0, hN_190, hbO_190, hbE_190⟩ := hb_190
                    have hh_190 : jSt (dC, dI) B base G0 G_190 EX11_publish s.heap (zcx_81 + ((m_qa_190 - m_wr_81) / 16)) (zsx_81 + (2 * (m_qa_190 - m_wr_81))) [(bo, 2, 1, .int qc_190), (bo, 2, 0, .ref qa_190), (el_180, 11, 2, .int fault_186), (r1, 3, 10, .int checked_122), (r1, 3, 9, .ref behind_89), (r1, 3, 1, .int version_52), (r1, 3, 0, .ref uri_22), (r0, 13, 4, .ref bo), (r0, 13, 3, .ref ou)] [] [([(210, 0)], jQc dC dI (ca 6) behind_89 40 fq_90)] H_190 locs_190 := (hh_185.callG hb_1901 hb_1902 hb_1903 hb_1904 hb_1905 hS_190 rfl (L1 := [(el_180, 11, 2, .int fault_186), (r1, 3, 10, .int checked_122), (r1, 3, 9, .ref behind_89), (r1, 3, 1, .int version_52), (r1, 3, 0, .ref uri_22), (r0, 13, 4, .ref bo), (r0, 13, 3, .ref ou)]) [0, 1, 2, 5, 6, 7, 8] rfl rfl (M1 := []) [] rfl rfl (I1 := [([(210, 0)], jQc dC dI (ca 6) behind_89 40 fq_90)]) [0] rfl rfl).more hb_1906
                    have hNn_190 : (jNk [0, 1, 2, 3, 4, 5, 6, 7, 8, 9, 10, 11, 12, 13, 14, 15, 16]) G0 G_190 := (hN_81).tr hN_190
                    have hg_192 := hb_1902 _ _ hg_82
                    have hg_193 := hb_1902 _ _ hg_83
                    have hg_194 := hb_1902 _ _ hg_behind_89
                    have hg_195 := hb_1902 _ _ hg_84
                    have hg_196 := hb_1902 _ _ hg_85
                    have hg_197 := hb_1902 _ _ hg_86
                    have hh_199 := hh_190.addIs hbE_190
                    have hd_200 := jOl.trL (hh_185.iv 2 rfl) hh_185.2.2.2.2.1 hbO_190 (by simp)
                    have hh_201 := hh_199.addI (jOl.ie (dC := dC) (dI := dI) (G0 := G0) (k := 2) (rs := [bo, ou]) (H0 := s.heap) (F := [(2, 0), (2, 1)]) (C := RX0) (T := TX0) (N := 2) rfl (by decide) hh_199.2.2.2.2.1 (hd_200))
                    clear hh_199
                    try simp only at hr_191
                    obtain ⟨hr_191_0, hr_191_1, hr_191_2, hr_191_3, hr_191_4⟩ := hr_191
                    have hh_202 := hh_201.wk (zc1 := (m_qa_190 - n_pa) / 16) (zs1 := 2 * (m_qa_190 - n_pa)) (by omega) (by omega)
                    clear hh_201
                    try clear hsz_190 htt_190 hrc_190 hrs_190
                    try clear hb_1904 hb_1905
                    obtain ⟨z_203, ez_203⟩ : ∃ y : Int32, y = v4_81 + 1 := ⟨_, rfl⟩
                    refine lv_iinc (v := z_203) (lv' := [(4, .int z_203), (3, .int 0), (0, .ref r0), (1, .ref r1), (2, .int a2)]) hx hb dX11_publish_140 hl (k := 4) rfl (by rw [ez_203]; rfl) (by decide) rfl (fun ls hl => ?_)
                    have hz_203 : z_203.toInt = v4_81.toInt + 1 := by rw [ez_203]; exact jb_iadd2 (rfl) (by decide) (by omega)
                    refine lv_goto (tgt := 75) hx hb dX11_publish_143 (by decide) ?_
                    refine W.tight (c2 := ((m_qa_190 - n_pa) / 16)) (n2 := (2 * (m_qa_190 - n_pa))) hh_202.2.2.2.2.2.1 hh_202.2.2.2.2.2.2.1 ?_
                    exact L75 G_190 ((m_qa_190 - n_pa) / 16) (2 * (m_qa_190 - n_pa)) 0 z_203 qc_190 qa_190 m_qa_190 _ _ (hh_202.sub (L1 := [(bo, 2, 1, .int qc_190), (bo, 2, 0, .ref qa_190), (r1, 3, 1, .int version_52), (r1, 3, 0, .ref uri_22), (r0, 13, 4, .ref bo), (r0, 13, 3, .ref ou)]) [0, 1, 5, 6, 7, 8] rfl (M1 := []) [] rfl (I1 := [(jFy, jYb dC dI G_190), ([(2, 0), (2, 1)], jOl (dC, dI) G0 2 [bo, ou] s.heap)]) [1, 0] rfl) (hNn_190) ((hle_81).tr hb_1902) (Or.inl rfl) hgq_190_0 (⟨(by first | omega | rfl | assumption | fail), (by first | omega | rfl | assumption | fail), (by first | omega | rfl | assumption | fail), (by first | omega | rfl | assumption | fail), (by first | assumption | fail | omega), (by first | omega | rfl | assumption | fail), (by first | omega | rfl | assumption | fail), (by first | omega | rfl | assumption | fail), (by first | omega | rfl | assumption | fail)⟩) (by omega) _ (lv_sub hl [2, 3, 4, 1, 0] rfl)
                  · skip
                    have c_189' : v3_81.toInt = 0 := jb_ne_n (rfl) ((by decide)) c_189
                    refine lv_aload_n hx hb dX11_publish_122 rfl (lv_at hl 0 rfl) ?_
                    refine j7_read hx hb hown hK (C := RX11) (T := TX11) (N := 19) rfl hly_13_4 hlk_35 (hh_185.at 7 rfl) dX11_publish_123 ?_
                    refine lv_bipush (v := 44) hx hb dX11_publish_126 (by decide) ?_
                    have hsz_204 := hh_185.2.2.2.2.2.1
                    have htt_204 := hh_185.2.2.2.2.2.2.1
                    refine W.room (fun hrc_204 hrs_204 => ?_)
                    refine va_callv (A0 := jA base) (H0 := s.heap) (va_runV (As := [.int 44]) (rest := []) ⟨hx, hb, hml, hown, hts⟩ (uX0_put l dC dI ca base B hB hAp hB2 hB196 Gx_81 H_81 bo 44 wc_81 wr_81 m_wr_81 LC LS) (cwV 1 hts (jgV (jWr_15 _ (List.mem_of_getElem? (i := 23) rfl)) (jWr_16 _ (List.mem_of_getElem? (i := 0) rfl)) (jWr_16 _ (List.mem_of_getElem? (i := 1) rfl)) (jWr_1 _ (List.mem_of_getElem? (i := 14) rfl)) (jWr_16 _ (List.mem_of_getElem? (i := 2) rfl))) rfl rfl rfl (by decide +kernel) ⟨by rw [← hR]; exact Nat.le_of_ble_eq_true rfl, by rw [← hR]; exact Nat.le_of_ble_eq_true rfl⟩) ⟨fun a U g mk q => by obtain ⟨q0, q1, q2, qK, q10, q11, q12, q13⟩ := q; exact ⟨q0, q1, q2, jG.calling g mk a qK, q10, q11, q12, q13⟩, hh_185.recv (C := RX0) (T := TX0) (N := 2) hB2 rfl (by decide) hg_85 hK, fun U hU hW => ⟨rfl, hU, hh_185.2.1, hG.step hW hU hh_185.1, hg_85, hg_wr_81, (hh_185.2.2.1.sub (L1 := [(bo, 2, 1, .int wc_81), (bo, 2, 0, .ref wr_81)]) [3, 4] rfl), (by omega), (by omega), ⟨(by first | omega | rfl | assumption | fail), (by first | omega | rfl | assumption | fail), (by first | omega | rfl | assumption | fail), (by first | omega | rfl | assumption | fail), (by first | assumption | fail | omega)⟩⟩⟩ rfl rfl hl.1 rfl (lv_room (Nat.le_of_ble_eq_true rfl)) dX11_publish_128 ⟨by rw [hRc]; omega, by rw [hRs]; omega⟩) hh_185.1 (fun q _ h => h) (fun q h => h) (fun u_204 t_204 H_204 locs_204 ht_204 hvm_204 hr_205 hb_204 hz_204 hk_204 hS_204 => ?_)
                    obtain ⟨qc_204, qa_204, m_qa_204, G_204⟩ := u_204
                    rw [ht_204] at hb_204
                    simp only at hb_204
                    obtain ⟨⟨hb_2041, hb_2042, hb_2043, hb_2044, hb_2045, hb_2046⟩, hgq_204_0, hN_204, hbO_204⟩ := hb_204
                    have hy_206 := hh_185.iv 1 rfl
                    have hh_204 : jSt (dC, dI) B base G0 G_204 EX11_publish s.heap (zcx_81 + ((m_qa_204 - m_wr_81) / 16)) (zsx_81 + (2 * (m_qa_204 - m_wr_81))) [(bo, 2, 1, .int qc_204), (bo, 2, 0, .ref qa_204), (el_180, 11, 2, .int fault_186), (r1, 3, 10, .int checked_122), (r1, 3, 9, .ref behind_89), (r1, 3, 1, .int version_52), (r1, 3, 0, .ref uri_22), (r0, 13, 4, .ref bo), (r0, 13, 3, .ref ou)] [] [([(210, 0)], jQc dC dI (ca 6) behind_89 40 fq_90)] H_204 locs_204 := (hh_185.callG hb_2041 hb_2042 hb_2043 hb_2044 hb_2045 hS_204 rfl (L1 := [(el_180, 11, 2, .int fault_186), (r1, 3, 10, .int checked_122), (r1, 3, 9, .ref behind_89), (r1, 3, 1, .int version_52), (r1, 3, 0, .ref uri_22), (r0, 13, 4, .ref bo), (r0, 13, 3, .ref ou)]) [0, 1, 2, 5, 6, 7, 8] rfl rfl (M1 := []) [] rfl rfl (I1 := [([(210, 0)], jQc dC dI (ca 6) behind_89 40 fq_90)]) [0] rfl rfl).more hb_2046
                    have hNn_204 : (jNk [0, 1, 2, 3, 4, 5, 6, 7, 8, 9, 10, 11, 12, 13, 14, 15, 16]) G0 G_204 := (hN_81).tr hN_204
                    have hg_207 := hb_2042 _ _ hg_82
                    have hg_208 := hb_2042 _ _ hg_83
                    have hg_209 := hb_2042 _ _ hg_behind_89
                    have hg_210 := hb_2042 _ _ hg_84
                    have hg_211 := hb_2042 _ _ hg_85
                    have hg_212 := hb_2042 _ _ hg_86
                    have hd_214 := jOl.trO (hh_185.iv 2 rfl) hh_185.2.2.2.2.1 hbO_204 (by simp)
                    have hh_215 := hh_204.addI (jOl.ie (dC := dC) (dI := dI) (G0 := G0) (k := 2) (rs := [bo, ou]) (H0 := s.heap) (F := [(2, 0), (2, 1)]) (C := RX0) (T := TX0) (N := 2) rfl (by decide) hh_204.2.2.2.2.1 (hd_214))
                    clear hh_204
                    have hyp_204 : qc_204.toInt ≤ (m_qa_204 : Nat) ∧ m_qa_204 ≤ 1048576 := by (try simp only at hr_205); omega
                    have hy_216 := jYb.own hy_206 hbO_204 hb_2042 hN_204 (by decide) (fun _ => ⟨_, _, _, hh_215.at 0 rfl, hh_215.at 1 rfl, hgq_204_0, hyp_204⟩)
                    have hh_217 := hh_215.addI (jYb.ie hy_216)
                    clear hh_215
                    try simp only at hr_205
                    obtain ⟨hr_205_0, hr_205_1, hr_205_2, hr_205_3, hr_205_4⟩ := hr_205
                    have hh_218 := hh_217.wk (zc1 := (m_qa_204 - n_pa) / 16) (zs1 := 2 * (m_qa_204 - n_pa)) (by omega) (by omega)
                    clear hh_217
                    try clear hsz_204 htt_204 hrc_204 hrs_204
                    try clear hb_2044 hb_2045
                    refine lv_iconst (v := 0) hx hb dX11_publish_131 (by decide) ?_
                    refine lv_istore_n (lv' := [(3, .int 0), (0, .ref r0), (1, .ref r1), (2, .int a2), (4, .int v4_81)]) hx hb dX11_publish_132 rfl hl (by decide) rfl (fun ls hl => ?_)
                    refine lv_aload_n hx hb dX11_publish_133 rfl (lv_at hl 1 rfl) ?_
                    refine lv_aload_n hx hb dX11_publish_134 rfl (lv_at hl 2 rfl) ?_
                    refine lv_iload hx hb dX11_publish_135 (lv_at hl 4 rfl) ?_
                    have hsz_219 := hh_218.2.2.2.2.2.1
                    have htt_219 := hh_218.2.2.2.2.2.2.1
                    refine W.room (fun hrc_219 hrs_219 => ?_)
                    refine va_callv (A0 := jA base) (H0 := s.heap) (va_runV (As := [.ref r1, .int v4_81]) (rest := []) ⟨hx, hb, hml, hown, hts⟩ (uX11_diagnostic l dC dI ca base B hB hAp hB2 hB3 hB11 hB13 hB171 hB172 hB173 hB196 hB210 G_204 H_204 r0 r1 v4_81 bo qc_204 qa_204 m_qa_204 behind_89 fq_90 LC LS) (cwV 2 hts (jgV (jWr_40 _ (List.mem_of_getElem? (i := 9) rfl)) (jWr_40 _ (List.mem_of_getElem? (i := 10) rfl)) (jWr_40 _ (List.mem_of_getElem? (i := 11) rfl)) (jWr_1 _ (List.mem_of_getElem? (i := 2) rfl)) (jWr_40 _ (List.mem_of_getElem? (i := 12) rfl))) rfl rfl rfl (by decide +kernel) ⟨by rw [← hR]; exact Nat.le_of_ble_eq_true rfl, by rw [← hR]; exact Nat.le_of_ble_eq_true rfl⟩) ⟨fun a U g mk q => by obtain ⟨q0, q1, q2, qK, q10, q11, q12, q13, q14, q15, q16, q17, q18⟩ := q; exact ⟨q0, q1, q2, jG.calling g mk a qK, (va_K.moved (Vm.Alike.refl U.vm) q10), q11, q12, q13, q14, q15, q16, q17, q18⟩, hh_218.recv (C := RX11) (T := TX11) (N := 19) hB13 rfl (by decide) hg_207 hK, fun U hU hW => ⟨rfl, hU, hh_218.2.1, hG.step hW hU hh_218.1, va_K.moved hW.alike hK2, hg_208, hg_207, hg_211, hgq_204_0, hg_209, (hh_218.2.2.1.sub (L1 := [(r0, 13, 4, .ref bo), (bo, 2, 1, .int qc_204), (bo, 2, 0, .ref qa_204), (r1, 3, 9, .ref behind_89)]) [7, 0, 1, 4] rfl), (hh_218.2.2.2.2.2.2.2.2.sub (L1 := [(jFy, jYb dC dI G_204), ([(210, 0)], jQc dC dI (ca 6) behind_89 40 fq_90)]) [0, 2] rfl), (by omega), (by omega), ⟨(by first | omega | rfl | assumption | (rw [← heo_182]; exact fun q => nomatch q)), (by first | omega | rfl | assumption | (rw [← heo_182]; exact fun q => nomatch q)), (by first | omega | rfl | assumption | (rw [← heo_182]; exact fun q => nomatch q)), (by first | omega | rfl | assumption | (rw [← heo_182]; exact fun q => nomatch q)), (by first | assumption | (rw [← heo_182]; exact fun q => nomatch q) | omega), (by first | omega | rfl | assumption | (rw [← heo_182]; exact fun q => nomatch q)), (by first | omega | rfl | assumption | (rw [← heo_182]; exact fun q => nomatch q)), (by first | omega | rfl | assumption | (rw [← heo_182]; exact fun q => nomatch q))⟩⟩⟩ rfl rfl hl.1 rfl (lv_room (Nat.le_of_ble_eq_true rfl)) dX11_publish_137 ⟨by rw [hRc]; omega, by rw [hRs]; omega⟩) hh_218.1 (fun q _ h => h) (fun q h => h) (fun u_219 t_219 H_219 locs_219 ht_219 hvm_219 hr_220 hb_219 hz_219 hk_219 hS_219 => ?_)
                    obtain ⟨qc_219, qa_219, m_qa_219, G_219⟩ := u_219
                    rw [ht_219] at hb_219
                    simp only at hb_219
                    obtain ⟨⟨hb_2191, hb_2192, hb_2193, hb_2194, hb_2195, hb_2196⟩, hgq_219_0, hN_219, hbO_219, hbE_219⟩ := hb_219
                    have hh_219 : jSt (dC, dI) B base G0 G_219 EX11_publish s.heap (((m_qa_204 - n_pa) / 16) + ((m_qa_219 - m_qa_204) / 16)) ((2 * (m_qa_204 - n_pa)) + (2 * (m_qa_219 - m_qa_204))) [(bo, 2, 1, .int qc_219), (bo, 2, 0, .ref qa_219), (el_180, 11, 2, .int fault_186), (r1, 3, 10, .int checked_122), (r1, 3, 9, .ref behind_89), (r1, 3, 1, .int version_52), (r1, 3, 0, .ref uri_22), (r0, 13, 4, .ref bo), (r0, 13, 3, .ref ou)] [] [([(210, 0)], jQc dC dI (ca 6) behind_89 40 fq_90)] H_219 locs_219 := (hh_218.callG hb_2191 hb_2192 hb_2193 hb_2194 hb_2195 hS_219 rfl (L1 := [(el_180, 11, 2, .int fault_186), (r1, 3, 10, .int checked_122), (r1, 3, 9, .ref behind_89), (r1, 3, 1, .int version_52), (r1, 3, 0, .ref uri_22), (r0, 13, 4, .ref bo), (r0, 13, 3, .ref ou)]) [2, 3, 4, 5, 6, 7, 8] rfl rfl (M1 := []) [] rfl rfl (I1 := [([(210, 0)], jQc dC dI (ca 6) behind_89 40 fq_90)]) [2] rfl rfl).more hb_2196
                    have hNn_219 : (jNk [0, 1, 2, 3, 4, 5, 6, 7, 8, 9, 10, 11, 12, 13, 14, 15, 16]) G0 G_219 := (hNn_204).tr hN_219
                    have hg_221 := hb_2192 _ _ hg_207
                    have hg_222 := hb_2192 _ _ hg_208
                    have hg_223 := hb_2192 _ _ hg_209
                    have hg_224 := hb_2192 _ _ hg_210
                    have hg_225 := hb_2192 _ _ hg_211
                    have hg_226 := hb_2192 _ _ hg_212
                    have hh_228 := hh_219.addIs hbE_219
                    have hd_229 := jOl.trL (hh_218.iv 1 rfl) hh_218.2.2.2.2.1 hbO_219 (by simp)
                    have hh_230 := hh_228.addI (jOl.ie (dC := dC) (dI := dI) (G0 := G0) (k := 2) (rs := [bo, ou]) (H0 := s.heap) (F := [(2, 0), (2, 1)]) (C := RX0) (T := TX0) (N := 2) rfl (by decide) hh_228.2.2.2.2.1 (hd_229))
                    clear hh_228
                    try simp only at hr_220
                    obtain ⟨hr_220_0, hr_220_1, hr_220_2, hr_220_3, hr_220_4⟩ := hr_220
                    have hh_231 := hh_230.wk (zc1 := (m_qa_219 - n_pa) / 16) (zs1 := 2 * (m_qa_219 - n_pa)) (by omega) (by omega)
                    clear hh_230
                    try clear hsz_219 htt_219 hrc_219 hrs_219
                    try clear hb_2194 hb_2195
                    obtain ⟨z_232, ez_232⟩ : ∃ y : Int32, y = v4_81 + 1 := ⟨_, rfl⟩
                    refine lv_iinc (v := z_232) (lv' := [(4, .int z_232), (3, .int 0), (0, .ref r0), (1, .ref r1), (2, .int a2)]) hx hb dX11_publish_140 hl (k := 4) rfl (by rw [ez_232]; rfl) (by decide) rfl (fun ls hl => ?_)
                    have hz_232 : z_232.toInt = v4_81.toInt + 1 := by rw [ez_232]; exact jb_iadd2 (rfl) (by decide) (by omega)
                    refine lv_goto (tgt := 75) hx hb dX11_publish_143 (by decide) ?_
                    refine W.tight (c2 := ((m_qa_219 - n_pa) / 16)) (n2 := (2 * (m_qa_219 - n_pa))) hh_231.2.2.2.2.2.1 hh_231.2.2.2.2.2.2.1 ?_
                    exact L75 G_219 ((m_qa_219 - n_pa) / 16) (2 * (m_qa_219 - n_pa)) 0 z_232 qc_219 qa_219 m_qa_219 _ _ (hh_231.sub (L1 := [(bo, 2, 1, .int qc_219), (bo, 2, 0, .ref qa_219), (r1, 3, 1, .int version_52), (r1, 3, 0, .ref uri_22), (r0, 13, 4, .ref bo), (r0, 13, 3, .ref ou)]) [0, 1, 5, 6, 7, 8] rfl (M1 := []) [] rfl (I1 := [(jFy, jYb dC dI G_219), ([(2, 0), (2, 1)], jOl (dC, dI) G0 2 [bo, ou] s.heap)]) [1, 0] rfl) (hNn_219) (((hle_81).tr hb_2042).tr hb_2192) (Or.inl rfl) hgq_219_0 (⟨(by first | omega | rfl | assumption | fail), (by first | omega | rfl | assumption | fail), (by first | omega | rfl | assumption | fail), (by first | omega | rfl | assumption | fail), (by first | assumption | fail | omega), (by first | omega | rfl | assumption | fail), (by first | omega | rfl | assumption | fail), (by first | omega | rfl | assumption | fail), (by first | omega | rfl | assumption | fail)⟩) (by omega) _ (lv_sub hl [2, 3, 4, 1, 0] rfl)
  refine W.tight (c2 := ((m_qa_66 - n_pa) / 16)) (n2 := (2 * (m_qa_66 - n_pa))) hh_79.2.2.2.2.2.1 hh_79.2.2.2.2.2.2.1 ?_
  exact L75 (40 - (0 : Int32).toInt : Int).toNat.succ G_66 ((m_qa_66 - n_pa) / 16) (2 * (m_qa_66 - n_pa)) 1 0 qc_66 qa_66 m_qa_66 _ _ hh_79 (hNn_66) (jLe.rf) (Or.inr rfl) hgq_66_0 (⟨(by first | omega | rfl | assumption | fail), (by first | omega | rfl | assumption | fail), (by first | omega | rfl | assumption | fail), (by first | omega | rfl | assumption | fail), (by first | assumption | fail | omega), (by first | omega | rfl | assumption | fail), (by first | omega | rfl | assumption | fail), (by first | omega | rfl | assumption | fail), (by first | omega | rfl | assumption | fail)⟩) (by omega) _ (lv_sub hl [2, 3, 4, 1, 0] rfl)
end
