section
theorem dX11_publish_0 : decode cX11_publish 0 = .ok (.aload_n 0, 1) := by decide +kernel
theorem dX11_publish_1 : decode cX11_publish 1 = .ok (.getfield 35, 3) := by decide +kernel
theorem dX11_publish_4 : decode cX11_publish 4 = .ok (.iconst 0, 1) := by decide +kernel
theorem dX11_publish_5 : decode cX11_publish 5 = .ok (.putfield 92, 3) := by decide +kernel
theorem dX11_publish_8 : decode cX11_publish 8 = .ok (.aload_n 0, 1) := by decide +kernel
theorem dX11_publish_9 : decode cX11_publish 9 = .ok (.getfield 35, 3) := by decide +kernel
theorem dX11_publish_12 : decode cX11_publish 12 = .ok (.ldc_w 499, 3) := by decide +kernel
theorem dX11_publish_15 : decode cX11_publish 15 = .ok (.invokevirtual 297, 3) := by decide +kernel
theorem dX11_publish_18 : decode cX11_publish 18 = .ok (.aload_n 0, 1) := by decide +kernel
theorem dX11_publish_19 : decode cX11_publish 19 = .ok (.getfield 35, 3) := by decide +kernel
theorem dX11_publish_22 : decode cX11_publish 22 = .ok (.aload_n 1, 1) := by decide +kernel
theorem dX11_publish_23 : decode cX11_publish 23 = .ok (.getfield 348, 3) := by decide +kernel
theorem dX11_publish_26 : decode cX11_publish 26 = .ok (.iconst 0, 1) := by decide +kernel
theorem dX11_publish_27 : decode cX11_publish 27 = .ok (.aload_n 1, 1) := by decide +kernel
theorem dX11_publish_28 : decode cX11_publish 28 = .ok (.getfield 348, 3) := by decide +kernel
theorem dX11_publish_31 : decode cX11_publish 31 = .ok (.arraylength, 1) := by decide +kernel
theorem dX11_publish_32 : decode cX11_publish 32 = .ok (.invokevirtual 501, 3) := by decide +kernel
theorem dX11_publish_35 : decode cX11_publish 35 = .ok (.aload_n 0, 1) := by decide +kernel
theorem dX11_publish_36 : decode cX11_publish 36 = .ok (.getfield 35, 3) := by decide +kernel
theorem dX11_publish_39 : decode cX11_publish 39 = .ok (.ldc_w 505, 3) := by decide +kernel
theorem dX11_publish_42 : decode cX11_publish 42 = .ok (.invokevirtual 297, 3) := by decide +kernel
theorem dX11_publish_45 : decode cX11_publish 45 = .ok (.aload_n 0, 1) := by decide +kernel
theorem dX11_publish_46 : decode cX11_publish 46 = .ok (.getfield 35, 3) := by decide +kernel
theorem dX11_publish_49 : decode cX11_publish 49 = .ok (.aload_n 1, 1) := by decide +kernel
theorem dX11_publish_50 : decode cX11_publish 50 = .ok (.getfield 162, 3) := by decide +kernel
theorem dX11_publish_53 : decode cX11_publish 53 = .ok (.invokevirtual 466, 3) := by decide +kernel
theorem dX11_publish_56 : decode cX11_publish 56 = .ok (.aload_n 0, 1) := by decide +kernel
theorem dX11_publish_57 : decode cX11_publish 57 = .ok (.getfield 35, 3) := by decide +kernel
theorem dX11_publish_60 : decode cX11_publish 60 = .ok (.ldc_w 507, 3) := by decide +kernel
theorem dX11_publish_63 : decode cX11_publish 63 = .ok (.invokevirtual 297, 3) := by decide +kernel
theorem dX11_publish_66 : decode cX11_publish 66 = .ok (.iconst 1, 1) := by decide +kernel
theorem dX11_publish_67 : decode cX11_publish 67 = .ok (.istore_n 3, 1) := by decide +kernel
theorem dX11_publish_68 : decode cX11_publish 68 = .ok (.aload_n 1, 1) := by decide +kernel
theorem dX11_publish_69 : decode cX11_publish 69 = .ok (.invokevirtual 509, 3) := by decide +kernel
theorem dX11_publish_72 : decode cX11_publish 72 = .ok (.iconst 0, 1) := by decide +kernel
theorem dX11_publish_73 : decode cX11_publish 73 = .ok (.istore 4, 2) := by decide +kernel
theorem dX11_publish_75 : decode cX11_publish 75 = .ok (.iload_n 2, 1) := by decide +kernel
theorem dX11_publish_76 : decode cX11_publish 76 = .ok (.ifCond .eq 70, 3) := by decide +kernel
theorem dX11_publish_79 : decode cX11_publish 79 = .ok (.iload 4, 2) := by decide +kernel
theorem dX11_publish_81 : decode cX11_publish 81 = .ok (.aload_n 1, 1) := by decide +kernel
theorem dX11_publish_82 : decode cX11_publish 82 = .ok (.getfield 171, 3) := by decide +kernel
theorem dX11_publish_85 : decode cX11_publish 85 = .ok (.if_icmp .ge 61, 3) := by decide +kernel
theorem dX11_publish_88 : decode cX11_publish 88 = .ok (.iload 4, 2) := by decide +kernel
theorem dX11_publish_90 : decode cX11_publish 90 = .ok (.bipush 40, 2) := by decide +kernel
theorem dX11_publish_92 : decode cX11_publish 92 = .ok (.if_icmp .ge 54, 3) := by decide +kernel
theorem dX11_publish_95 : decode cX11_publish 95 = .ok (.aload_n 1, 1) := by decide +kernel
theorem dX11_publish_96 : decode cX11_publish 96 = .ok (.getfield 178, 3) := by decide +kernel
theorem dX11_publish_99 : decode cX11_publish 99 = .ok (.iload 4, 2) := by decide +kernel
theorem dX11_publish_101 : decode cX11_publish 101 = .ok (.aaload, 1) := by decide +kernel
theorem dX11_publish_102 : decode cX11_publish 102 = .ok (.ifnull 38, 3) := by decide +kernel
theorem dX11_publish_105 : decode cX11_publish 105 = .ok (.aload_n 1, 1) := by decide +kernel
theorem dX11_publish_106 : decode cX11_publish 106 = .ok (.getfield 178, 3) := by decide +kernel
theorem dX11_publish_109 : decode cX11_publish 109 = .ok (.iload 4, 2) := by decide +kernel
theorem dX11_publish_111 : decode cX11_publish 111 = .ok (.aaload, 1) := by decide +kernel
theorem dX11_publish_112 : decode cX11_publish 112 = .ok (.getfield 188, 3) := by decide +kernel
theorem dX11_publish_115 : decode cX11_publish 115 = .ok (.ifCond .le 25, 3) := by decide +kernel
theorem dX11_publish_118 : decode cX11_publish 118 = .ok (.iload_n 3, 1) := by decide +kernel
theorem dX11_publish_119 : decode cX11_publish 119 = .ok (.ifCond .ne 12, 3) := by decide +kernel
theorem dX11_publish_122 : decode cX11_publish 122 = .ok (.aload_n 0, 1) := by decide +kernel
theorem dX11_publish_123 : decode cX11_publish 123 = .ok (.getfield 35, 3) := by decide +kernel
theorem dX11_publish_126 : decode cX11_publish 126 = .ok (.bipush 44, 2) := by decide +kernel
theorem dX11_publish_128 : decode cX11_publish 128 = .ok (.invokevirtual 246, 3) := by decide +kernel
theorem dX11_publish_131 : decode cX11_publish 131 = .ok (.iconst 0, 1) := by decide +kernel
theorem dX11_publish_132 : decode cX11_publish 132 = .ok (.istore_n 3, 1) := by decide +kernel
theorem dX11_publish_133 : decode cX11_publish 133 = .ok (.aload_n 0, 1) := by decide +kernel
theorem dX11_publish_134 : decode cX11_publish 134 = .ok (.aload_n 1, 1) := by decide +kernel
theorem dX11_publish_135 : decode cX11_publish 135 = .ok (.iload 4, 2) := by decide +kernel
theorem dX11_publish_137 : decode cX11_publish 137 = .ok (.invokevirtual 512, 3) := by decide +kernel
theorem dX11_publish_140 : decode cX11_publish 140 = .ok (.iinc 4 1, 3) := by decide +kernel
theorem dX11_publish_143 : decode cX11_publish 143 = .ok (.goto (-68), 3) := by decide +kernel
theorem dX11_publish_146 : decode cX11_publish 146 = .ok (.aload_n 0, 1) := by decide +kernel
theorem dX11_publish_147 : decode cX11_publish 147 = .ok (.getfield 35, 3) := by decide +kernel
theorem dX11_publish_150 : decode cX11_publish 150 = .ok (.ldc_w 516, 3) := by decide +kernel
theorem dX11_publish_153 : decode cX11_publish 153 = .ok (.invokevirtual 297, 3) := by decide +kernel
theorem dX11_publish_156 : decode cX11_publish 156 = .ok (.aload_n 0, 1) := by decide +kernel
theorem dX11_publish_157 : decode cX11_publish 157 = .ok (.invokevirtual 300, 3) := by decide +kernel
theorem dX11_publish_160 : decode cX11_publish 160 = .ok (.return_, 1) := by decide +kernel
def EX11_publish : List (Nat × Nat) := [(2, 0), (2, 1), (3, 14), (3, 15), (3, 16), (13, 14), (196, 0)]
set_option maxHeartbeats 4000000 in
set_option maxRecDepth 20000 in
theorem uX11_publish (l : Launch) (dC : Nat → ClassId) (dI : Nat → Nat → Nat) (ca : Nat → ClassId) (base : Nat) (B : jF) (hB : jBok B) (hAp : jAp (dC, dI)) (hB2 : ∀ n G a H, B 2 n G a H ↔ jOb (dC, dI) 2 2 (F2 n G) a H) (hB3 : ∀ n G a H, B 3 n G a H ↔ jOb (dC, dI) 3 17 (F3 n G) a H) (hB4 : ∀ n G a H, B 4 n G a H ↔ jOb (dC, dI) 4 12 (F4 n G) a H) (hB11 : ∀ n G a H, B 11 n G a H ↔ jOb (dC, dI) 11 9 (F11 n G) a H) (hB13 : ∀ n G a H, B 13 n G a H ↔ jOb (dC, dI) 13 19 (F13 n G) a H) (hB17 : ∀ n G a H, B 17 n G a H ↔ jOb (dC, dI) 17 2 (F17 n G) a H) (hB101 : ∀ n G a H, B 101 n G a H ↔ jAr (dC, dI) (ca 1) (fun j z => True) n a H) (hB171 : ∀ n G a H, B 171 n G a H ↔ jAr (dC, dI) (ca 1) (fun j z => 0 ≤ z.toInt ∧ z.toInt ≤ 1500) n a H) (hB172 : ∀ n G a H, B 172 n G a H ↔ jAr (dC, dI) (ca 1) (fun j z => 0 ≤ z.toInt ∧ z.toInt ≤ 1500) n a H) (hB173 : ∀ n G a H, B 173 n G a H ↔ jAr (dC, dI) (ca 1) (fun j z => True) n a H) (hB174 : ∀ n G a H, B 174 n G a H ↔ jAr (dC, dI) (ca 1) (fun j z => True) n a H) (hB196 : ∀ n G a H, B 196 n G a H ↔ jAr (dC, dI) (ca 0) (fun j z => jBf j z) n a H) (hB199 : ∀ n G a H, B 199 n G a H ↔ jAr (dC, dI) (ca 0) (fun j z => jBf j z) n a H) (hB210 : ∀ n G a H, B 210 n G a H ↔ jAq (dC, dI) (ca 6) (jQn 11 0) n G a H) (G0 : jT) (H0 : Heap) (r0 : Nat) (r1 : Nat) (a2 : Int32) (bo : Nat) (pc : Int32) (pa : Nat) (n_pa : Nat) (ou : Nat) (LC LS : Nat) : Met l yX11_publish (jw yX11_publish cX11_publish 5 none) ({ frames := 7, cells := LC - H0.size, slots := LS - jTot H0, locals := 207 }) (va_Pc [.ref r0, .ref r1, .int a2] (fun U => U.heap = H0 ∧ jX B base G0 [] H0 ∧ jG dC dI ca base U ∧ jK2 dC dI ca U ∧ G0 r1 = some (3, 0) ∧ G0 r0 = some (13, 0) ∧ (a2 = 0 ∨ a2 = 1) ∧ G0 bo = some (2, 0) ∧ G0 pa = some (196, n_pa) ∧ G0 ou = some (2, 20000) ∧ jP (dC, dI) G0 H0 [(r0, 13, 4, .ref bo), (bo, 2, 1, .int pc), (bo, 2, 0, .ref pa), (r0, 13, 3, .ref ou)] ∧ jIs (dC, dI) G0 H0 [(jFy, jYb dC dI G0)] ∧ H0.size + (1048576 - n_pa) / 16 + 1 ≤ LC ∧ jTot H0 + 2 * (1048576 - n_pa) ≤ LS ∧ 0 ≤ pc.toInt ∧ pc.toInt ≤ n_pa ∧ 16 ≤ n_pa ∧ n_pa ≤ 1048576 ∧ jPw n_pa)) (va_Qv (S := Int32 × Nat × Nat × jT) (fun u => 0 ≤ u.1.toInt ∧ u.1.toInt ≤ u.2.2.1 ∧ n_pa ≤ u.2.2.1 ∧ u.2.2.1 ≤ 1048576 ∧ jPw u.2.2.1) (fun u t => jRa (dC, dI) B base G0 u.2.2.2 EX11_publish H0 ((u.2.2.1 - n_pa) / 16) (2 * (u.2.2.1 - n_pa)) [(bo, 2, 1, .int u.1), (bo, 2, 0, .ref u.2.1)] t.heap ∧ u.2.2.2 u.2.1 = some (196, u.2.2.1) ∧ (jNk [0, 1, 2, 3, 4, 5, 6, 7, 8, 9, 10, 11, 12, 13, 14, 15, 16, 17, 175]) G0 u.2.2.2 ∧ jOl (dC, dI) G0 2 [bo, ou] H0 t.heap ∧ jIs (dC, dI) u.2.2.2 t.heap [(jFy, jYb dC dI u.2.2.2)]) (jA base)) (LC - H0.size) (LS - jTot H0) (jA base) := by
  refine Met.ofW (cc := cX11_publish) (maxL := 5) (ret := none) (by decide) rfl ?_
  intro p e s m args below meth c s₁ Bd hml hv
  obtain ⟨rfl, hH0, hX, hG, hK2, hg_r1, hg_r0, hz_a2, hg_bo, hg_pa, hg_ou, hP0, hI0, hLC0, hLS0, hp0, hp1, hp2, hp3, hp4⟩ := hv
  have hK := hG.1
  have hx := Bd.exec
  have hb := Bd.bytes
  have hr := Bd.returns
  have hts := atoms_spec (ws := (jw yX11_publish cX11_publish 5 none)) Bd.pre
  have htw : ∀ w ∈ jWl, w.before _ s = true := fun w h => hts w (List.mem_cons_of_mem _ h)
  have hown : s.vm.findClass RX11 = some m.cls := findClass_of_methodNamed Bd.named
  have hlocks := Bd.notSynchronized
  obtain ⟨Q, hQ⟩ : ∃ Q, Q = MQ below (va_Qv (S := Int32 × Nat × Nat × jT) (fun u => 0 ≤ u.1.toInt ∧ u.1.toInt ≤ u.2.2.1 ∧ n_pa ≤ u.2.2.1 ∧ u.2.2.1 ≤ 1048576 ∧ jPw u.2.2.1) (fun u t => jRa (dC, dI) B base G0 u.2.2.2 EX11_publish H0 ((u.2.2.1 - n_pa) / 16) (2 * (u.2.2.1 - n_pa)) [(bo, 2, 1, .int u.1), (bo, 2, 0, .ref u.2.1)] t.heap ∧ u.2.2.2 u.2.1 = some (196, u.2.2.1) ∧ (jNk [0, 1, 2, 3, 4, 5, 6, 7, 8, 9, 10, 11, 12, 13, 14, 15, 16, 17, 175]) G0 u.2.2.2 ∧ jOl (dC, dI) G0 2 [bo, ou] H0 t.heap ∧ jIs (dC, dI) u.2.2.2 t.heap [(jFy, jYb dC dI u.2.2.2)]) (jA base)) ([.ref r0, .ref r1, .int a2] : List Value).toArray s (LC - H0.size) (LS - jTot H0) (jA base) := ⟨_, rfl⟩
  rw [← hQ]
  have hl := lv_entry ([.ref r0, .ref r1, .int a2]) (n := 5) (Nat.le_of_ble_eq_true rfl)
  rw [lg_entry_eq]
  generalize (lg_sl ([.ref r0, .ref r1, .int a2]) ++ List.replicate (5 - (lg_sl ([.ref r0, .ref r1, .int a2])).length) Slot.unset).toArray = ls at hl ⊢
  have hl : lv_has ls 5 [(0, .ref r0), (1, .ref r1), (2, .int a2)] := hl
  generalize hR : (headSpec (jw yX11_publish cX11_publish 5 none) ({ frames := 7, cells := LC - H0.size, slots := LS - jTot H0, locals := 207 })).room = R
  subst hH0
  have hh : jSt (dC, dI) B base G0 G0 EX11_publish s.heap 0 0 [(r0, 13, 4, .ref bo), (bo, 2, 1, .int pc), (bo, 2, 0, .ref pa), (r0, 13, 3, .ref ou)] [] [(jFy, jYb dC dI G0)] s.heap [] := jSt.start hX hP0 jMc.nil hI0
  clear hX hP0
  have hk0 : (0 : Int32).toInt = 0 := by decide
  have hk1 : (1 : Int32).toInt = 1 := by decide
  have hk40 : (40 : Int32).toInt = 40 := by decide
  have hk44 : (44 : Int32).toInt = 44 := by decide
  have hly_2_1 := htw (u_lay RX0 TX0 1) (jWc_wsX00 _ (u_in_lay (by decide)))
  have hly_3_0 := htw (u_lay RX1 TX1 0) (jWc_wsX10 _ (u_in_lay (by decide)))
  have hly_3_1 := htw (u_lay RX1 TX1 1) (jWc_wsX10 _ (u_in_lay (by decide)))
  have hly_3_9 := htw (u_lay RX1 TX1 9) (jWc_wsX10 _ (u_in_lay (by decide)))
  have hly_3_10 := htw (u_lay RX1 TX1 10) (jWc_wsX10 _ (u_in_lay (by decide)))
  have hly_11_2 := htw (u_lay RX9 TX9 2) (jWc_wsX90 _ (u_in_lay (by decide)))
  have hly_13_4 := htw (u_lay RX11 TX11 4) (jWc_wsX110 _ (u_in_lay (by decide)))
  have hlk_35 := (htw (.fieldLink RX11 35 "ProofServer" "body" "LProofServer$Bytes;") (jWr_2 _ (List.mem_of_getElem? (i := 1) rfl)))
  have hlk_92 := (htw (.fieldLink RX11 92 "ProofServer$Bytes" "count" "I") (jWr_15 _ (List.mem_of_getElem? (i := 18) rfl)))
  obtain ⟨str499, rstr499, hstr4990⟩ := hG.str (o := RX11) (k := 499) (tx := "{\"jsonrpc\":\"2.0\",\"method\":\"textDocument/publishDiagnostics\",\"params\":{\"uri\":") (List.mem_of_getElem? (i := 1212) (by decide +kernel))
  have hstr499 : jStr base str499 76 s s.heap := hstr4990
  have hlk_348 := (htw (.fieldLink RX11 348 "ProofServer$Document" "uri" "[I") (jWr_27 _ (List.mem_of_getElem? (i := 21) rfl)))
  obtain ⟨str505, rstr505, hstr5050⟩ := hG.str (o := RX11) (k := 505) (tx := ",\"version\":") (List.mem_of_getElem? (i := 1214) (by decide +kernel))
  have hstr505 : jStr base str505 11 s s.heap := hstr5050
  have hlk_162 := (htw (.fieldLink RX11 162 "ProofServer$Document" "version" "I") (jWr_35 _ (List.mem_of_getElem? (i := 15) rfl)))
  obtain ⟨str507, rstr507, hstr5070⟩ := hG.str (o := RX11) (k := 507) (tx := ",\"diagnostics\":[") (List.mem_of_getElem? (i := 1215) (by decide +kernel))
  have hstr507 : jStr base str507 16 s s.heap := hstr5070
  have hlk_171 := (htw (.fieldLink RX11 171 "ProofServer$Document" "checked" "I") (jWr_35 _ (List.mem_of_getElem? (i := 17) rfl)))
  have hlk_178 := (htw (.fieldLink RX11 178 "ProofServer$Document" "behind" "[LProofServer$State;") (jWr_39 _ (List.mem_of_getElem? (i := 23) rfl)))
  have hlk_188 := (htw (.fieldLink RX11 188 "ProofServer$State" "fault" "I") (jWr_40 _ (List.mem_of_getElem? (i := 0) rfl)))
  obtain ⟨str516, rstr516, hstr5160⟩ := hG.str (o := RX11) (k := 516) (tx := "]}}") (List.mem_of_getElem? (i := 1250) (by decide +kernel))
  have hstr516 : jStr base str516 3 s s.heap := hstr5160
  have hrg_a2 := jb_rng a2
  have hbs : base ≤ s.heap.size := Nat.le_of_lt (Nat.lt_of_le_of_lt (hh.ab hg_r0).1 (hh.ab hg_r0).2)
  have hRc : R.cells = LC - s.heap.size := by rw [← hR]; rfl
  have hRs : R.slots = LS - jTot s.heap := by rw [← hR]; rfl
  have hh_1 := hh.addI (jOl.ie (dC := dC) (dI := dI) (G0 := G0) (k := 2) (rs := [bo, ou]) (H0 := s.heap) (F := [(2, 0), (2, 1)]) (C := RX0) (T := TX0) (N := 2) rfl (by decide) hh.2.2.2.2.1 (jOl.rf))
  clear hh
  refine lv_aload_n hx hb dX11_publish_0 rfl (lv_at hl 0 rfl) ?_
  refine j7_read hx hb hown hK (C := RX11) (T := TX11) (N := 19) rfl hly_13_4 hlk_35 (hh_1.at 0 rfl) dX11_publish_1 ?_
  refine lv_iconst (v := 0) hx hb dX11_publish_4 (by decide) ?_
  have hd_3 := hh_1.iv 0 rfl
  have hd_4 := hh_1.iv 1 rfl
  have hh_5 := hh_1.sub (L1 := [(r0, 13, 4, .ref bo), (bo, 2, 1, .int pc), (bo, 2, 0, .ref pa), (r0, 13, 3, .ref ou)]) [0, 1, 2, 3] rfl (M1 := []) [] rfl (I1 := []) [] rfl
  clear hh_1
  refine j7_putX hx hb hown hK hh_5 hB hAp hB2 (C := RX0) (T := TX0) (N := 2) rfl (by decide) hg_bo (i := 1) (by decide) hly_2_1 rfl hlk_92 rfl (ty := .int) (v := .int 0) (by decide +kernel) rfl rfl (⟨_, rfl, by omega, by omega, by omega⟩) rfl (L1 := [(r0, 13, 4, .ref bo), (bo, 2, 0, .ref pa), (r0, 13, 3, .ref ou)]) [0, 2, 3] rfl rfl rfl dX11_publish_5 (fun H_2 locs_2 hr_2 hh_2 => ?_)
  clear hh_5
  have hd_4n := jYb.put hd_4 hr_2 hg_bo (fun h9 => ⟨_, _, _, hh_2.at 0 rfl, hh_2.at 2 rfl, hg_pa, by omega⟩)
  have hd_3n := jOl.put hd_3 hr_2 (by simp)
  have hh_6 := hh_2.addI (jYb.ie hd_4n)
  clear hh_2
  have hh_7 := hh_6.addI (jOl.ie (dC := dC) (dI := dI) (G0 := G0) (k := 2) (rs := [bo, ou]) (H0 := s.heap) (F := [(2, 0), (2, 1)]) (C := RX0) (T := TX0) (N := 2) rfl (by decide) hh_6.2.2.2.2.1 (hd_3n))
  clear hh_6
  clear hd_3 hd_3n hd_4 hd_4n hr_2
  refine lv_aload_n hx hb dX11_publish_8 rfl (lv_at hl 0 rfl) ?_
  refine j7_read hx hb hown hK (C := RX11) (T := TX11) (N := 19) rfl hly_13_4 hlk_35 (hh_7.at 1 rfl) dX11_publish_9 ?_
  refine j_ldcSw hx hb hown rstr499 dX11_publish_12 ?_
  have hsz_8 := hh_7.2.2.2.2.2.1
  have htt_8 := hh_7.2.2.2.2.2.2.1
  refine W.room (fun hrc_8 hrs_8 => ?_)
  refine va_callv (A0 := jA base) (H0 := s.heap) (va_runV (As := [.ref str499]) (rest := []) ⟨hx, hb, hml, hown, hts⟩ (uX0_text l dC dI ca base B hB hAp hB2 hB196 G0 H_2 bo str499 76 0 pa n_pa LC LS) (cwV 1 hts (jgV (jWr_26 _ (List.mem_of_getElem? (i := 11) rfl)) (jWr_25 _ (List.mem_of_getElem? (i := 22) rfl)) (jWr_25 _ (List.mem_of_getElem? (i := 23) rfl)) (jWr_1 _ (List.mem_of_getElem? (i := 14) rfl)) (jWr_26 _ (List.mem_of_getElem? (i := 0) rfl))) rfl rfl rfl (by decide +kernel) ⟨by rw [← hR]; exact Nat.le_of_ble_eq_true rfl, by rw [← hR]; exact Nat.le_of_ble_eq_true rfl⟩) ⟨fun a U g mk q => by obtain ⟨q0, q1, q2, qK, q10, q11, q12, q13, q14⟩ := q; exact ⟨q0, q1, q2, jG.calling g mk a qK, (q10.moved (Vm.Alike.refl U.vm)), q11, q12, q13, q14⟩, hh_7.recv (C := RX0) (T := TX0) (N := 2) hB2 rfl (by decide) hg_bo hK, fun U hU hW => ⟨rfl, hU, hh_7.2.1, hG.step hW hU hh_7.1, (hstr499.moved hW.alike).kept hh_7.1.2.1, hg_bo, hg_pa, (hh_7.2.2.1.sub (L1 := [(bo, 2, 1, .int 0), (bo, 2, 0, .ref pa)]) [0, 2] rfl), (by omega), (by omega), ⟨(by first | omega | rfl | assumption | fail), (by first | omega | rfl | assumption | fail), (by first | omega | rfl | assumption | fail), (by first | omega | rfl | assumption | fail), (by first | assumption | fail | omega), (by first | omega | rfl | assumption | fail)⟩⟩⟩ rfl rfl hl.1 rfl (lv_room (Nat.le_of_ble_eq_true rfl)) dX11_publish_15 ⟨by rw [hRc]; omega, by rw [hRs]; omega⟩) hh_7.1 (fun q _ h => h) (fun q h => h) (fun u_8 t_8 H_8 locs_8 ht_8 hvm_8 hr_9 hb_8 hz_8 hk_8 hS_8 => ?_)
  obtain ⟨qc_8, qa_8, m_qa_8, G_8⟩ := u_8
  rw [ht_8] at hb_8
  simp only at hb_8
  obtain ⟨⟨hb_81, hb_82, hb_83, hb_84, hb_85, hb_86⟩, hgq_8_0, hN_8, hbO_8⟩ := hb_8
  have hy_10 := hh_7.iv 1 rfl
  have hh_8 : jSt (dC, dI) B base G0 G_8 EX11_publish s.heap (0 + ((m_qa_8 - n_pa) / 16)) (0 + (2 * (m_qa_8 - n_pa))) [(bo, 2, 1, .int qc_8), (bo, 2, 0, .ref qa_8), (r0, 13, 4, .ref bo), (r0, 13, 3, .ref ou)] [] [] H_8 locs_8 := (hh_7.callG hb_81 hb_82 hb_83 hb_84 hb_85 hS_8 rfl (L1 := [(r0, 13, 4, .ref bo), (r0, 13, 3, .ref ou)]) [1, 3] rfl rfl (M1 := []) [] rfl rfl (I1 := []) [] rfl rfl).more hb_86
  have hNn_8 : (jNk [0, 1, 2, 3, 4, 5, 6, 7, 8, 9, 10, 11, 12, 13, 14, 15, 16, 17, 175]) G0 G_8 := (jNk.rf).tr hN_8
  have hg_11 := hb_82 _ _ hg_r0
  have hg_12 := hb_82 _ _ hg_r1
  have hg_13 := hb_82 _ _ hg_bo
  have hg_14 := hb_82 _ _ hg_ou
  have hd_15 := jOl.trO (hh_7.iv 0 rfl) hh_7.2.2.2.2.1 hbO_8 (by simp)
  have hh_16 := hh_8.addI (jOl.ie (dC := dC) (dI := dI) (G0 := G0) (k := 2) (rs := [bo, ou]) (H0 := s.heap) (F := [(2, 0), (2, 1)]) (C := RX0) (T := TX0) (N := 2) rfl (by decide) hh_8.2.2.2.2.1 (hd_15))
  clear hh_8
  have hyp_8 : qc_8.toInt ≤ (m_qa_8 : Nat) ∧ m_qa_8 ≤ 1048576 := by (try simp only at hr_9); omega
  have hy_17 := jYb.own hy_10 hbO_8 hb_82 hN_8 (by decide) (fun _ => ⟨_, _, _, hh_16.at 0 rfl, hh_16.at 1 rfl, hgq_8_0, hyp_8⟩)
  have hh_18 := hh_16.addI (jYb.ie hy_17)
  clear hh_16
  try simp only at hr_9
  obtain ⟨hr_9_0, hr_9_1, hr_9_2, hr_9_3, hr_9_4⟩ := hr_9
  have hh_19 := hh_18.wk (zc1 := (m_qa_8 - n_pa) / 16) (zs1 := 2 * (m_qa_8 - n_pa)) (by omega) (by omega)
  clear hh_18
  try clear hsz_8 htt_8 hrc_8 hrs_8
  try clear hb_84 hb_85
  refine lv_aload_n hx hb dX11_publish_18 rfl (lv_at hl 0 rfl) ?_
  refine j7_read hx hb hown hK (C := RX11) (T := TX11) (N := 19) rfl hly_13_4 hlk_35 (hh_19.at 2 rfl) dX11_publish_19 ?_
  refine lv_aload_n hx hb dX11_publish_22 rfl (lv_at hl 1 rfl) ?_
  obtain ⟨v_20, hv_20, hh_21⟩ := hh_19.pin (C := RX1) (T := TX1) (N := 17) hB3 rfl (by decide) hg_12 (i := 0) (by decide) rfl
  clear hh_19
  obtain ⟨uri_22, nuri_22, rfl, hg_uri_22, hn_uri_22⟩ := hv_20
  refine j7_read hx hb hown hK (C := RX1) (T := TX1) (N := 17) rfl hly_3_0 hlk_348 (hh_21.at 0 rfl) dX11_publish_23 ?_
  refine lv_iconst (v := 0) hx hb dX11_publish_26 (by decide) ?_
  refine lv_aload_n hx hb dX11_publish_27 rfl (lv_at hl 1 rfl) ?_
  refine j7_read hx hb hown hK (C := RX1) (T := TX1) (N := 17) rfl hly_3_0 hlk_348 (hh_21.at 0 rfl) dX11_publish_28 ?_
  refine j7_len hx hb hK hh_21 hB174 1 rfl (by decide) hg_uri_22 (by omega) dX11_publish_31 (fun z_23 hz_23 => ?_)
  have hsz_24 := hh_21.2.2.2.2.2.1
  have htt_24 := hh_21.2.2.2.2.2.2.1
  refine W.room (fun hrc_24 hrs_24 => ?_)
  refine va_callv (A0 := jA base) (H0 := s.heap) (va_runV (As := [.ref uri_22, .int 0, .int z_23]) (rest := []) ⟨hx, hb, hml, hown, hts⟩ (uX0_quotedu9 l dC dI ca base B hB hAp hB2 hB174 hB196 G_8 H_8 bo uri_22 0 z_23 nuri_22 qc_8 qa_8 m_qa_8 LC LS) (cwV 3 hts (jgV (jWr_40 _ (List.mem_of_getElem? (i := 1) rfl)) (jWr_25 _ (List.mem_of_getElem? (i := 10) rfl)) (jWr_25 _ (List.mem_of_getElem? (i := 11) rfl)) (jWr_1 _ (List.mem_of_getElem? (i := 14) rfl)) (jWr_25 _ (List.mem_of_getElem? (i := 12) rfl))) rfl rfl rfl (by decide +kernel) ⟨by rw [← hR]; exact Nat.le_of_ble_eq_true rfl, by rw [← hR]; exact Nat.le_of_ble_eq_true rfl⟩) ⟨fun a U g mk q => by obtain ⟨q0, q1, q2, qK, q10, q11, q12, q13, q14⟩ := q; exact ⟨q0, q1, q2, jG.calling g mk a qK, q10, q11, q12, q13, q14⟩, hh_21.recv (C := RX0) (T := TX0) (N := 2) hB2 rfl (by decide) hg_13 hK, fun U hU hW => ⟨rfl, hU, hh_21.2.1, hG.step hW hU hh_21.1, hg_13, hg_uri_22, hgq_8_0, (hh_21.2.2.1.sub (L1 := [(bo, 2, 1, .int qc_8), (bo, 2, 0, .ref qa_8)]) [1, 2] rfl), (by omega), (by omega), ⟨(by first | omega | rfl | assumption | fail), (by first | omega | rfl | assumption | fail), (by first | omega | rfl | assumption | fail), (by first | omega | rfl | assumption | fail), (by first | assumption | fail | omega), (by first | omega | rfl | assumption | fail), (by first | omega | rfl | assumption | fail), (by first | omega | rfl | assumption | fail), (by first | omega | rfl | assumption | fail), (by first | omega | rfl | assumption | fail)⟩⟩⟩ rfl rfl hl.1 rfl (lv_room (Nat.le_of_ble_eq_true rfl)) dX11_publish_32 ⟨by rw [hRc]; omega, by rw [hRs]; omega⟩) hh_21.1 (fun q _ h => h) (fun q h => h) (fun u_24 t_24 H_24 locs_24 ht_24 hvm_24 hr_25 hb_24 hz_24 hk_24 hS_24 => ?_)
  obtain ⟨qc_24, qa_24, m_qa_24, G_24⟩ := u_24
  rw [ht_24] at hb_24
  simp only at hb_24
  obtain ⟨⟨hb_241, hb_242, hb_243, hb_244, hb_245, hb_246⟩, hgq_24_0, hN_24, hbO_24⟩ := hb_24
  have hy_26 := hh_21.iv 0 rfl
  have hh_24 : jSt (dC, dI) B base G0 G_24 EX11_publish s.heap (((m_qa_8 - n_pa) / 16) + ((m_qa_24 - m_qa_8) / 16)) ((2 * (m_qa_8 - n_pa)) + (2 * (m_qa_24 - m_qa_8))) [(bo, 2, 1, .int qc_24), (bo, 2, 0, .ref qa_24), (r1, 3, 0, .ref uri_22), (r0, 13, 4, .ref bo), (r0, 13, 3, .ref ou)] [] [] H_24 locs_24 := (hh_21.callG hb_241 hb_242 hb_243 hb_244 hb_245 hS_24 rfl (L1 := [(r1, 3, 0, .ref uri_22), (r0, 13, 4, .ref bo), (r0, 13, 3, .ref ou)]) [0, 3, 4] rfl rfl (M1 := []) [] rfl rfl (I1 := []) [] rfl rfl).more hb_246
  have hNn_24 : (jNk [0, 1, 2, 3, 4, 5, 6, 7, 8, 9, 10, 11, 12, 13, 14, 15, 16, 17, 175]) G0 G_24 := (hNn_8).tr hN_24
  have hg_27 := hb_242 _ _ hg_11
  have hg_28 := hb_242 _ _ hg_12
  have hg_29 := hb_242 _ _ hg_uri_22
  have hg_30 := hb_242 _ _ hg_13
  have hg_31 := hb_242 _ _ hg_14
  have hd_32 := jOl.trO (hh_21.iv 1 rfl) hh_21.2.2.2.2.1 hbO_24 (by simp)
  have hh_33 := hh_24.addI (jOl.ie (dC := dC) (dI := dI) (G0 := G0) (k := 2) (rs := [bo, ou]) (H0 := s.heap) (F := [(2, 0), (2, 1)]) (C := RX0) (T := TX0) (N := 2) rfl (by decide) hh_24.2.2.2.2.1 (hd_32))
  clear hh_24
  have hyp_24 : qc_24.toInt ≤ (m_qa_24 : Nat) ∧ m_qa_24 ≤ 1048576 := by (try simp only at hr_25); omega
  have hy_34 := jYb.own hy_26 hbO_24 hb_242 hN_24 (by decide) (fun _ => ⟨_, _, _, hh_33.at 0 rfl, hh_33.at 1 rfl, hgq_24_0, hyp_24⟩)
  have hh_35 := hh_33.addI (jYb.ie hy_34)
  clear hh_33
  try simp only at hr_25
  obtain ⟨hr_25_0, hr_25_1, hr_25_2, hr_25_3, hr_25_4⟩ := hr_25
  have hh_36 := hh_35.wk (zc1 := (m_qa_24 - n_pa) / 16) (zs1 := 2 * (m_qa_24 - n_pa)) (by omega) (by omega)
  clear hh_35
  try clear hsz_24 htt_24 hrc_24 hrs_24
  try clear hb_244 hb_245
  refine lv_aload_n hx hb dX11_publish_35 rfl (lv_at hl 0 rfl) ?_
  refine j7_read hx hb hown hK (C := RX11) (T := TX11) (N := 19) rfl hly_13_4 hlk_35 (hh_36.at 3 rfl) dX11_publish_36 ?_
  refine j_ldcSw hx hb hown rstr505 dX11_publish_39 ?_
  have hsz_37 := hh_36.2.2.2.2.2.1
  have htt_37 := hh_36.2.2.2.2.2.2.1
  refine W.room (fun hrc_37 hrs_37 => ?_)
  refine va_callv (A0 := jA base) (H0 := s.heap) (va_runV (As := [.ref str505]) (rest := []) ⟨hx, hb, hml, hown, hts⟩ (uX0_text l dC dI ca base B hB hAp hB2 hB196 G_24 H_24 bo str505 11 qc_24 qa_24 m_qa_24 LC LS) (cwV 1 hts (jgV (jWr_26 _ (List.mem_of_getElem? (i := 11) rfl)) (jWr_25 _ (List.mem_of_getElem? (i := 22) rfl)) (jWr_25 _ (List.mem_of_getElem? (i := 23) rfl)) (jWr_1 _ (List.mem_of_getElem? (i := 14) rfl)) (jWr_26 _ (List.mem_of_getElem? (i := 0) rfl))) rfl rfl rfl (by decide +kernel) ⟨by rw [← hR]; exact Nat.le_of_ble_eq_true rfl, by rw [← hR]; exact Nat.le_of_ble_eq_true rfl⟩) ⟨fun a U g mk q => by obtain ⟨q0, q1, q2, qK, q10, q11, q12, q13, q14⟩ := q; exact ⟨q0, q1, q2, jG.calling g mk a qK, (q10.moved (Vm.Alike.refl U.vm)), q11, q12, q13, q14⟩, hh_36.recv (C := RX0) (T := TX0) (N := 2) hB2 rfl (by decide) hg_30 hK, fun U hU hW => ⟨rfl, hU, hh_36.2.1, hG.step hW hU hh_36.1, (hstr505.moved hW.alike).kept hh_36.1.2.1, hg_30, hgq_24_0, (hh_36.2.2.1.sub (L1 := [(bo, 2, 1, .int qc_24), (bo, 2, 0, .ref qa_24)]) [0, 1] rfl), (by omega), (by omega), ⟨(by first | omega | rfl | assumption | fail), (by first | omega | rfl | assumption | fail), (by first | omega | rfl | assumption | fail), (by first | omega | rfl | assumption | fail), (by first | assumption | fail | omega), (by first | omega | rfl | assumption | fail)⟩⟩⟩ rfl rfl hl.1 rfl (lv_room (Nat.le_of_ble_eq_true rfl)) dX11_publish_42 ⟨by rw [hRc]; omega, by rw [hRs]; omega⟩) hh_36.1 (fun q _ h => h) (fun q h => h) (fun u_37 t_37 H_37 locs_37 ht_37 hvm_37 hr_38 hb_37 hz_37 hk_37 hS_37 => ?_)
  obtain ⟨qc_37, qa_37, m_qa_37, G_37⟩ := u_37
  rw [ht_37] at hb_37
  simp only at hb_37
  obtain ⟨⟨hb_371, hb_372, hb_373, hb_374, hb_375, hb_376⟩, hgq_37_0, hN_37, hbO_37⟩ := hb_37
  have hy_39 := hh_36.iv 0 rfl
  have hh_37 : jSt (dC, dI) B base G0 G_37 EX11_publish s.heap (((m_qa_24 - n_pa) / 16) + ((m_qa_37 - m_qa_24) / 16)) ((2 * (m_qa_24 - n_pa)) + (2 * (m_qa_37 - m_qa_24))) [(bo, 2, 1, .int qc_37), (bo, 2, 0, .ref qa_37), (r1, 3, 0, .ref uri_22), (r0, 13, 4, .ref bo), (r0, 13, 3, .ref ou)] [] [] H_37 locs_37 := (hh_36.callG hb_371 hb_372 hb_373 hb_374 hb_375 hS_37 rfl (L1 := [(r1, 3, 0, .ref uri_22), (r0, 13, 4, .ref bo), (r0, 13, 3, .ref ou)]) [2, 3, 4] rfl rfl (M1 := []) [] rfl rfl (I1 := []) [] rfl rfl).more hb_376
  have hNn_37 : (jNk [0, 1, 2, 3, 4, 5, 6, 7, 8, 9, 10, 11, 12, 13, 14, 15, 16, 17, 175]) G0 G_37 := (hNn_24).tr hN_37
  have hg_40 := hb_372 _ _ hg_27
  have hg_41 := hb_372 _ _ hg_28
  have hg_42 := hb_372 _ _ hg_29
  have hg_43 := hb_372 _ _ hg_30
  have hg_44 := hb_372 _ _ hg_31
  have hd_45 := jOl.trO (hh_36.iv 1 rfl) hh_36.2.2.2.2.1 hbO_37 (by simp)
  have hh_46 := hh_37.addI (jOl.ie (dC := dC) (dI := dI) (G0 := G0) (k := 2) (rs := [bo, ou]) (H0 := s.heap) (F := [(2, 0), (2, 1)]) (C := RX0) (T := TX0) (N := 2) rfl (by decide) hh_37.2.2.2.2.1 (hd_45))
  clear hh_37
  have hyp_37 : qc_37.toInt ≤ (m_qa_37 : Nat) ∧ m_qa_37 ≤ 1048576 := by (try simp only at hr_38); omega
  have hy_47 := jYb.own hy_39 hbO_37 hb_372 hN_37 (by decide) (fun _ => ⟨_, _, _, hh_46.at 0 rfl, hh_46.at 1 rfl, hgq_37_0, hyp_37⟩)
  have hh_48 := hh_46.addI (jYb.ie hy_47)
  clear hh_46
  try simp only at hr_38
  obtain ⟨hr_38_0, hr_38_1, hr_38_2, hr_38_3, hr_38_4⟩ := hr_38
  have hh_49 := hh_48.wk (zc1 := (m_qa_37 - n_pa) / 16) (zs1 := 2 * (m_qa_37 - n_pa)) (by omega) (by omega)
  clear hh_48
  try clear hsz_37 htt_37 hrc_37 hrs_37
  try clear hb_374 hb_375
  refine lv_aload_n hx hb dX11_publish_45 rfl (lv_at hl 0 rfl) ?_
  refine j7_read hx hb hown hK (C := RX11) (T := TX11) (N := 19) rfl hly_13_4 hlk_35 (hh_49.at 3 rfl) dX11_publish_46 ?_
  refine lv_aload_n hx hb dX11_publish_49 rfl (lv_at hl 1 rfl) ?_
  obtain ⟨v_50, hv_50, hh_51⟩ := hh_49.pin (C := RX1) (T := TX1) (N := 17) hB3 rfl (by decide) hg_41 (i := 1) (by decide) rfl
  clear hh_49
  obtain ⟨version_52, rfl⟩ := hv_50
  refine j7_read hx hb hown hK (C := RX1) (T := TX1) (N := 17) rfl hly_3_1 hlk_162 (hh_51.at 0 rfl) dX11_publish_50 ?_
  have hsz_53 := hh_51.2.2.2.2.2.1
  have htt_53 := hh_51.2.2.2.2.2.2.1
  refine W.room (fun hrc_53 hrs_53 => ?_)
  refine va_callv (A0 := jA base) (H0 := s.heap) (va_runV (As := [.int version_52]) (rest := []) ⟨hx, hb, hml, hown, hts⟩ (uX0_number l dC dI ca base B hB hAp hB2 hB196 G_37 H_37 bo version_52 qc_37 qa_37 m_qa_37 LC LS) (cwV 1 hts (jgV (jWr_26 _ (List.mem_of_getElem? (i := 16) rfl)) (jWr_24 _ (List.mem_of_getElem? (i := 16) rfl)) (jWr_24 _ (List.mem_of_getElem? (i := 17) rfl)) (jWr_1 _ (List.mem_of_getElem? (i := 14) rfl)) (jWr_24 _ (List.mem_of_getElem? (i := 18) rfl))) rfl rfl rfl (by decide +kernel) ⟨by rw [← hR]; exact Nat.le_of_ble_eq_true rfl, by rw [← hR]; exact Nat.le_of_ble_eq_true rfl⟩) ⟨fun a U g mk q => by obtain ⟨q0, q1, q2, qK, q10, q11, q12, q13⟩ := q; exact ⟨q0, q1, q2, jG.calling g mk a qK, q10, q11, q12, q13⟩, hh_51.recv (C := RX0) (T := TX0) (N := 2) hB2 rfl (by decide) hg_43 hK, fun U hU hW => ⟨rfl, hU, hh_51.2.1, hG.step hW hU hh_51.1, hg_43, hgq_37_0, (hh_51.2.2.1.sub (L1 := [(bo, 2, 1, .int qc_37), (bo, 2, 0, .ref qa_37)]) [1, 2] rfl), (by omega), (by omega), ⟨(by first | omega | rfl | assumption | fail), (by first | omega | rfl | assumption | fail), (by first | omega | rfl | assumption | fail), (by first | omega | rfl | assumption | fail), (by first | assumption | fail | omega)⟩⟩⟩ rfl rfl hl.1 rfl (lv_room (Nat.le_of_ble_eq_true rfl)) dX11_publish_53 ⟨by rw [hRc]; omega, by rw [hRs]; omega⟩) hh_51.1 (fun q _ h => h) (fun q h => h) (fun u_53 t_53 H_53 locs_53 ht_53 hvm_53 hr_54 hb_53 hz_53 hk_53 hS_53 => ?_)
  obtain ⟨qc_53, qa_53, m_qa_53, G_53⟩ := u_53
  rw [ht_53] at hb_53
  simp only at hb_53
  obtain ⟨⟨hb_531, hb_532, hb_533, hb_534, hb_535, hb_536⟩, hgq_53_0, hN_53, hbO_53⟩ := hb_53
  have hy_55 := hh_51.iv 0 rfl
  have hh_53 : jSt (dC, dI) B base G0 G_53 EX11_publish s.heap (((m_qa_37 - n_pa) / 16) + ((m_qa_53 - m_qa_37) / 16)) ((2 * (m_qa_37 - n_pa)) + (2 * (m_qa_53 - m_qa_37))) [(bo, 2, 1, .int qc_53), (bo, 2, 0, .ref qa_53), (r1, 3, 1, .int version_52), (r1, 3, 0, .ref uri_22), (r0, 13, 4, .ref bo), (r0, 13, 3, .ref ou)] [] [] H_53 locs_53 := (hh_51.callG hb_531 hb_532 hb_533 hb_534 hb_535 hS_53 rfl (L1 := [(r1, 3, 1, .int version_52), (r1, 3, 0, .ref uri_22), (r0, 13, 4, .ref bo), (r0, 13, 3, .ref ou)]) [0, 3, 4, 5] rfl rfl (M1 := []) [] rfl rfl (I1 := []) [] rfl rfl).more hb_536
  have hNn_53 : (jNk [0, 1, 2, 3, 4, 5, 6, 7, 8, 9, 10, 11, 12, 13, 14, 15, 16, 17, 175]) G0 G_53 := (hNn_37).tr hN_53
  have hg_56 := hb_532 _ _ hg_40
  have hg_57 := hb_532 _ _ hg_41
  have hg_58 := hb_532 _ _ hg_42
  have hg_59 := hb_532 _ _ hg_43
  have hg_60 := hb_532 _ _ hg_44
  have hd_61 := jOl.trO (hh_51.iv 1 rfl) hh_51.2.2.2.2.1 hbO_53 (by simp)
  have hh_62 := hh_53.addI (jOl.ie (dC := dC) (dI := dI) (G0 := G0) (k := 2) (rs := [bo, ou]) (H0 := s.heap) (F := [(2, 0), (2, 1)]) (C := RX0) (T := TX0) (N := 2) rfl (by decide) hh_53.2.2.2.2.1 (hd_61))
  clear hh_53
  have hyp_53 : qc_53.toInt ≤ (m_qa_53 : Nat) ∧ m_qa_53 ≤ 1048576 := by (try simp only at hr_54); omega
  have hy_63 := jYb.own hy_55 hbO_53 hb_532 hN_53 (by decide) (fun _ => ⟨_, _, _, hh_62.at 0 rfl, hh_62.at 1 rfl, hgq_53_0, hyp_53⟩)
  have hh_64 := hh_62.addI (jYb.ie hy_63)
  clear hh_62
  try simp only at hr_54
  obtain ⟨hr_54_0, hr_54_1, hr_54_2, hr_54_3, hr_54_4⟩ := hr_54
  have hh_65 := hh_64.wk (zc1 := (m_qa_53 - n_pa) / 16) (zs1 := 2 * (m_qa_53 - n_pa)) (by omega) (by omega)
  clear hh_64
  try clear hsz_53 htt_53 hrc_53 hrs_53
  try clear hb_534 hb_535
  refine lv_aload_n hx hb dX11_publish_56 rfl (lv_at hl 0 rfl) ?_
  refine j7_read hx hb hown hK (C := RX11) (T := TX11) (N := 19) rfl hly_13_4 hlk_35 (hh_65.at 4 rfl) dX11_publish_57 ?_
  refine j_ldcSw hx hb hown rstr507 dX11_publish_60 ?_
  have hsz_66 := hh_65.2.2.2.2.2.1
  have htt_66 := hh_65.2.2.2.2.2.2.1
  refine W.room (fun hrc_66 hrs_66 => ?_)
  refine va_callv (A0 := jA base) (H0 := s.heap) (va_runV (As := [.ref str507]) (rest := []) ⟨hx, hb, hml, hown, hts⟩ (uX0_text l dC dI ca base B hB hAp hB2 hB196 G_53 H_53 bo str507 16 qc_53 qa_53 m_qa_53 LC LS) (cwV 1 hts (jgV (jWr_26 _ (List.mem_of_getElem? (i := 11) rfl)) (jWr_25 _ (List.mem_of_getElem? (i := 22) rfl)) (jWr_25 _ (List.mem_of_getElem? (i := 23) rfl)) (jWr_1 _ (List.mem_of_getElem? (i := 14) rfl)) (jWr_26 _ (List.mem_of_getElem? (i := 0) rfl))) rfl rfl rfl (by decide +kernel) ⟨by rw [← hR]; exact Nat.le_of_ble_eq_true rfl, by rw [← hR]; exact Nat.le_of_ble_eq_true rfl⟩) ⟨fun a U g mk q => by obtain ⟨q0, q1, q2, qK, q10, q11, q12, q13, q14⟩ := q; exact ⟨q0, q1, q2, jG.calling g mk a qK, (q10.moved (Vm.Alike.refl U.vm)), q11, q12, q13, q14⟩, hh_65.recv (C := RX0) (T := TX0) (N := 2) hB2 rfl (by decide) hg_59 hK, fun U hU hW => ⟨rfl, hU, hh_65.2.1, hG.step hW hU hh_65.1, (hstr507.moved hW.alike).kept hh_65.1.2.1, hg_59, hgq_53_0, (hh_65.2.2.1.sub (L1 := [(bo, 2, 1, .int qc_53), (bo, 2, 0, .ref qa_53)]) [0, 1] rfl), (by omega), (by omega), ⟨(by first | omega | rfl | assumption | fail), (by first | omega | rfl | assumption | fail), (by first | omega | rfl | assumption | fail), (by first | omega | rfl | assumption | fail), (by first | assumption | fail | omega), (by first | omega | rfl | assumption | fail)⟩⟩⟩ rfl rfl hl.1 rfl (lv_room (Nat.le_of_ble_eq_true rfl)) dX11_publish_63 ⟨by rw [hRc]; omega, by rw [hRs]; omega⟩) hh_65.1 (fun q _ h => h) (fun q h => h) (fun u_66 t_66 H_66 locs_66 ht_66 hvm_66 hr_67 hb_66 hz_66 hk_66 hS_66 => ?_)
  obtain ⟨qc_66, qa_66, m_qa_66, G_66⟩ := u_66
  rw [ht_66] at hb_66
  simp only at hb_66
  obtain ⟨⟨hb_661, hb_662, hb_663, hb_664, hb_665, hb_666⟩, hgq_66_0, hN_66, hbO_66⟩ := hb_66
  have hy_68 := hh_65.iv 0 rfl
  have hh_66 : jSt (dC, dI) B base G0 G_66 EX11_publish s.heap (((m_qa_53 - n_pa) / 16) + ((m_qa_66 - m_qa_53) / 16)) ((2 * (m_qa_53 - n_pa)) + (2 * (m_qa_66 - m_qa_53))) [(bo, 2, 1, .int qc_66), (bo, 2, 0, .ref qa_66), (r1, 3, 1, .int version_52), (r1, 3, 0, .ref uri_22), (r0, 13, 4, .ref bo), (r0, 13, 3, .ref ou)] [] [] H_66 locs_66 := (hh_65.callG hb_661 hb_662 hb_663 hb_664 hb_665 hS_66 rfl (L1 := [(r1, 3, 1, .int version_52), (r1, 3, 0, .ref uri_22), (r0, 13, 4, .ref bo), (r0, 13, 3, .ref ou)]) [2, 3, 4, 5] rfl rfl (M1 := []) [] rfl rfl (I1 := []) [] rfl rfl).more hb_666
  have hNn_66 : (jNk [0, 1, 2, 3, 4, 5, 6, 7, 8, 9, 10, 11, 12, 13, 14, 15, 16, 17, 175]) G0 G_66 := (hNn_53).tr hN_66
  have hg_69 := hb_662 _ _ hg_56
  have hg_70 := hb_662 _ _ hg_57
  have hg_71 := hb_662 _ _ hg_58
  have hg_72 := hb_662 _ _ hg_59
  have hg_73 := hb_662 _ _ hg_60
  have hd_74 := jOl.trO (hh_65.iv 1 rfl) hh_65.2.2.2.2.1 hbO_66 (by simp)
  have hh_75 := hh_66.addI (jOl.ie (dC := dC) (dI := dI) (G0 := G0) (k := 2) (rs := [bo, ou]) (H0 := s.heap) (F := [(2, 0), (2, 1)]) (C := RX0) (T := TX0) (N := 2) rfl (by decide) hh_66.2.2.2.2.1 (hd_74))
  clear hh_66
  have hyp_66 : qc_66.toInt ≤ (m_qa_66 : Nat) ∧ m_qa_66 ≤ 1048576 := by (try simp only at hr_67); omega
  have hy_76 := jYb.own hy_68 hbO_66 hb_662 hN_66 (by decide) (fun _ => ⟨_, _, _, hh_75.at 0 rfl, hh_75.at 1 rfl, hgq_66_0, hyp_66⟩)
  have hh_77 := hh_75.addI (jYb.ie hy_76)
  clear hh_75
  try simp only at hr_67
  obtain ⟨hr_67_0, hr_67_1, hr_67_2, hr_67_3, hr_67_4⟩ := hr_67
  have hh_78 := hh_77.wk (zc1 := (m_qa_66 - n_pa) / 16) (zs1 := 2 * (m_qa_66 - n_pa)) (by omega) (by omega)
  clear hh_77
  try clear hsz_66 htt_66 hrc_66 hrs_66
  try clear hb_664 hb_665
  refine lv_iconst (v := 1) hx hb dX11_publish_66 (by decide) ?_
  refine lv_istore_n (lv' := [(3, .int 1), (0, .ref r0), (1, .ref r1), (2, .int a2)]) hx hb dX11_publish_67 rfl hl (by decide) rfl (fun ls hl => ?_)
  refine lv_aload_n hx hb dX11_publish_68 rfl (lv_at hl 2 rfl) ?_
  have hsz_79 := hh_78.2.2.2.2.2.1
  have htt_79 := hh_78.2.2.2.2.2.2.1
  refine W.room (fun hrc_79 hrs_79 => ?_)
  refine va_callv (A0 := jA base) (H0 := s.heap) (va_runV (As := []) (rest := []) ⟨hx, hb, hml, hown, hts⟩ (uX1_rewind l dC dI ca base B hB hAp hB3 G_66 H_66 r1) (cwV 0 hts (jgV (jWr_40 _ (List.mem_of_getElem? (i := 2) rfl)) (jWr_40 _ (List.mem_of_getElem? (i := 3) rfl)) (jWr_40 _ (List.mem_of_getElem? (i := 4) rfl)) (jWr_2 _ (List.mem_of_getElem? (i := 21) rfl)) (jWr_40 _ (List.mem_of_getElem? (i := 5) rfl))) rfl rfl rfl (by decide +kernel) ⟨by rw [← hR]; exact Nat.le_of_ble_eq_true rfl, by rw [← hR]; exact Nat.le_of_ble_eq_true rfl⟩) ⟨fun a U g mk q => by obtain ⟨q0, q1, q2, qK, q10, q11, q12⟩ := q; exact ⟨q0, q1, q2, jG.calling g mk a qK, q10, q11, q12⟩, hh_78.recv (C := RX1) (T := TX1) (N := 17) hB3 rfl (by decide) hg_70 hK, fun U hU hW => ⟨rfl, hU, hh_78.2.1, hG.step hW hU hh_78.1, hg_70, jP.nil, trivial⟩⟩ rfl rfl hl.1 rfl (lv_room (Nat.le_of_ble_eq_true rfl)) dX11_publish_69 ⟨by rw [hRc]; show _ + 0 ≤ _; omega, by rw [hRs]; show _ + 0 ≤ _; omega⟩) hh_78.1 (fun q _ h => h) (fun q h => h) (fun u_79 t_79 H_79 locs_79 ht_79 hvm_79 hr_80 hb_79 hz_79 hk_79 hS_79 => ?_)
  rw [ht_79] at hb_79
  obtain ⟨hb_791, hb_792, hb_793, hb_794, hb_795⟩ := hb_79
  have hh_79 : jSt (dC, dI) B base G0 G_66 EX11_publish s.heap ((m_qa_66 - n_pa) / 16) (2 * (m_qa_66 - n_pa)) [(bo, 2, 1, .int qc_66), (bo, 2, 0, .ref qa_66), (r1, 3, 1, .int version_52), (r1, 3, 0, .ref uri_22), (r0, 13, 4, .ref bo), (r0, 13, 3, .ref ou)] [] [(jFy, jYb dC dI G_66), ([(2, 0), (2, 1)], jOl (dC, dI) G0 2 [bo, ou] s.heap)] H_79 locs_79 := ((hh_78.call hb_791 hb_792 hb_793 hb_794 hS_79 rfl (L1 := [(bo, 2, 1, .int qc_66), (bo, 2, 0, .ref qa_66), (r1, 3, 1, .int version_52), (r1, 3, 0, .ref uri_22), (r0, 13, 4, .ref bo), (r0, 13, 3, .ref ou)]) [0, 1, 2, 3, 4, 5] rfl rfl (M1 := []) [] rfl rfl (I1 := [(jFy, jYb dC dI G_66), ([(2, 0), (2, 1)], jOl (dC, dI) G0 2 [bo, ou] s.heap)]) [0, 1] rfl rfl).more hb_795)
  clear hh_78 ht_79 hvm_79 hz_79 hk_79 hS_79 hb_791 hb_792 hb_793 hb_794 hb_795
  refine lv_iconst (v := 0) hx hb dX11_publish_72 (by decide) ?_
  refine lv_istore (lv' := [(4, .int 0), (3, .int 1), (0, .ref r0), (1, .ref r1), (2, .int a2)]) hx hb dX11_publish_73 hl (by decide) rfl (fun ls hl => ?_)
  have L75 : ∀ (N : Nat) (Gx_81 : jT) (zcx_81 : Nat) (zsx_81 : Nat) (v3_81 : Int32) (v4_81 : Int32) (wc_81 : Int32) (wr_81 : Nat) (m_wr_81 : Nat) (H_81 : Heap) (locs_81 : List Loc), jSt (dC, dI) B base G0 Gx_81 EX11_publish s.heap zcx_81 zsx_81 [(bo, 2, 1, .int wc_81), (bo, 2, 0, .ref wr_81), (r1, 3, 1, .int version_52), (r1, 3, 0, .ref uri_22), (r0, 13, 4, .ref bo), (r0, 13, 3, .ref ou)] [] [(jFy, jYb dC dI Gx_81), ([(2, 0), (2, 1)], jOl (dC, dI) G0 2 [bo, ou] s.heap)] H_81 locs_81 → (jNk [0, 1, 2, 3, 4, 5, 6, 7, 8, 9, 10, 11, 12, 13, 14, 15, 16, 17, 175]) G0 Gx_81 → jLe G_66 Gx_81 → (v3_81 = 0 ∨ v3_81 = 1) → Gx_81 wr_81 = some (196, m_wr_81) → (0 ≤ wc_81.toInt ∧ wc_81.toInt ≤ m_wr_81 ∧ n_pa ≤ m_wr_81 ∧ m_wr_81 ≤ 1048576 ∧ jPw m_wr_81 ∧ zcx_81 ≤ (m_wr_81 - n_pa) / 16 ∧ zsx_81 ≤ 2 * (m_wr_81 - n_pa) ∧ 0 ≤ v4_81.toInt ∧ v4_81.toInt ≤ 40) → (40 - v4_81.toInt : Int) < N → ∀ ls : Array Slot, lv_has ls 5 [(0, .ref r0), (1, .ref r1), (2, .int a2), (3, .int v3_81), (4, .int v4_81)] → W p l e R s m ([.ref r0, .ref r1, .int a2] : List Value).toArray below meth c H_81 locs_81 zcx_81 zsx_81 Q (F0 m 75 ls []) := by
    intro N
    induction N with
    | zero => intro Gx_81 zcx_81 zsx_81 v3_81 v4_81 wc_81 wr_81 m_wr_81 H_81 locs_81 hh_81 hN_81 hle_81 hb_v3_81 hg_wr_81 hi_81 hm; exact absurd hm (by omega)
    | succ N L75 =>
      intro Gx_81 zcx_81 zsx_81 v3_81 v4_81 wc_81 wr_81 m_wr_81 H_81 locs_81 hh_81 hN_81 hle_81 hb_v3_81 hg_wr_81 hi_81 hm_81 ls hl
      have hg_82 := hle_81 _ _ hg_69
      have hg_83 := hle_81 _ _ hg_70
      have hg_84 := hle_81 _ _ hg_71
      have hg_85 := hle_81 _ _ hg_72
      have hg_86 := hle_81 _ _ hg_73
      obtain ⟨hi_81_0, hi_81_1, hi_81_2, hi_81_3, hi_81_4, hi_81_5, hi_81_6, hi_81_7, hi_81_8⟩ := hi_81
      have hb_v3_81' := jb_01 hb_v3_81
      obtain ⟨v_87, hv_87, hh_88⟩ := hh_81.pin (C := RX1) (T := TX1) (N := 17) hB3 rfl (by decide) hg_83 (i := 9) (by decide) rfl
      obtain ⟨behind_89, rfl, hg_behind_89⟩ := hv_87
      obtain ⟨fq_90, hfq_90a, hfq_90p⟩ := hh_88.aq hB210 (by decide) hg_behind_89
      have hh_91 := hh_88.addI (jQc.ie hfq_90a hg_behind_89 (by decide) (by decide))
      clear hh_88
      refine lv_iload_n hx hb dX11_publish_75 rfl (lv_at hl 2 rfl) ?_
      refine lv_if_eq (tgt := 146) hx hb dX11_publish_76 (by decide) (fun c_92 => ?_) (fun c_92 => ?_)
      · skip
        have c_92' : a2.toInt = 0 := jb_eq (rfl) ((by decide)) c_92
        refine lv_aload_n hx hb dX11_publish_146 rfl (lv_at hl 0 rfl) ?_
        refine j7_read hx hb hown hK (C := RX11) (T := TX11) (N := 19) rfl hly_13_4 hlk_35 (hh_91.at 5 rfl) dX11_publish_147 ?_
        refine j_ldcSw hx hb hown rstr516 dX11_publish_150 ?_
        have hsz_93 := hh_91.2.2.2.2.2.1
        have htt_93 := hh_91.2.2.2.2.2.2.1
        refine W.room (fun hrc_93 hrs_93 => ?_)
        refine va_callv (A0 := jA base) (H0 := s.heap) (va_runV (As := [.ref str516]) (rest := []) ⟨hx, hb, hml, hown, hts⟩ (uX0_text l dC dI ca base B hB hAp hB2 hB196 Gx_81 H_81 bo str516 3 wc_81 wr_81 m_wr_81 LC LS) (cwV 1 hts (jgV (jWr_26 _ (List.mem_of_getElem? (i := 11) rfl)) (jWr_25 _ (List.mem_of_getElem? (i := 22) rfl)) (jWr_25 _ (List.mem_of_getElem? (i := 23) rfl)) (jWr_1 _ (List.mem_of_getElem? (i := 14) rfl)) (jWr_26 _ (List.mem_of_getElem? (i := 0) rfl))) rfl rfl rfl (by decide +kernel) ⟨by rw [← hR]; exact Nat.le_of_ble_eq_true rfl, by rw [← hR]; exact Nat.le_of_ble_eq_true rfl⟩) ⟨fun a U g mk q => by obtain ⟨q0, q1, q2, qK, q10, q11, q12, q13, q14⟩ := q; exact ⟨q0, q1, q2, jG.calling g mk a qK, (q10.moved (Vm.Alike.refl U.vm)), q11, q12, q13, q14⟩, hh_91.recv (C := RX0) (T := TX0) (N := 2) hB2 rfl (by decide) hg_85 hK, fun U hU hW => ⟨rfl, hU, hh_91.2.1, hG.step hW hU hh_91.1, (hstr516.moved hW.alike).kept hh_91.1.2.1, hg_85, hg_wr_81, (hh_91.2.2.1.sub (L1 := [(bo, 2, 1, .int wc_81), (bo, 2, 0, .ref wr_81)]) [1, 2] rfl), (by omega), (by omega), ⟨(by first | omega | rfl | assumption | fail), (by first | omega | rfl | assumption | fail), (by first | omega | rfl | assumption | fail), (by first | omega | rfl | assumption | fail), (by first | assumption | fail | omega), (by first | omega | rfl | assumption | fail)⟩⟩⟩ rfl rfl hl.1 rfl (lv_room (Nat.le_of_ble_eq_true rfl)) dX11_publish_153 ⟨by rw [hRc]; omega, by rw [hRs]; omega⟩) hh_91.1 (fun q _ h => h) (fun q h => h) (fun u_93 t_93 H_93 locs_93 ht_93 hvm_93 hr_94 hb_93 hz_93 hk_93 hS_93 => ?_)
        obtain ⟨qc_93, qa_93, m_qa_93, G_93⟩ := u_93
        rw [ht_93] at hb_93
        simp only at hb_93
        obtain ⟨⟨hb_931, hb_932, hb_933, hb_934, hb_935, hb_936⟩, hgq_93_0, hN_93, hbO_93⟩ := hb_93
        have hy_95 := hh_91.iv 1 rfl
        have hh_93 : jSt (dC, dI) B base G0 G_93 EX11_publish s.heap (zcx_81 + ((m_qa_93 - m_wr_81) / 16)) (zsx_81 + (2 * (m_qa_93 - m_wr_81))) [(bo, 2, 1, .int qc_93), (bo, 2, 0, .ref qa_93), (r1, 3, 9, .ref behind_89), (r1, 3, 1, .int version_52), (r1, 3, 0, .ref uri_22), (r0, 13, 4, .ref bo), (r0, 13, 3, .ref ou)] [] [([(210, 0)], jQc dC dI (ca 6) behind_89 40 fq_90)] H_93 locs_93 := (hh_91.callG hb_931 hb_932 hb_933 hb_934 hb_935 hS_93 rfl (L1 := [(r1, 3, 9, .ref behind_89), (r1, 3, 1, .int version_52), (r1, 3, 0, .ref uri_22), (r0, 13, 4, .ref bo), (r0, 13, 3, .ref ou)]) [0, 3, 4, 5, 6] rfl rfl (M1 := []) [] rfl rfl (I1 := [([(210, 0)], jQc dC dI (ca 6) behind_89 40 fq_90)]) [0] rfl rfl).more hb_936
        have hNn_93 : (jNk [0, 1, 2, 3, 4, 5, 6, 7, 8, 9, 10, 11, 12, 13, 14, 15, 16, 17, 175]) G0 G_93 := (hN_81).tr hN_93
        have hg_96 := hb_932 _ _ hg_82
        have hg_97 := hb_932 _ _ hg_83
        have hg_98 := hb_932 _ _ hg_behind_89
        have hg_99 := hb_932 _ _ hg_84
        have hg_100 := hb_932 _ _ hg_85
        have hg_101 := hb_932 _ _ hg_86
        have hd_103 := jOl.trO (hh_91.iv 2 rfl) hh_91.2.2.2.2.1 hbO_93 (by simp)
        have hh_104 := hh_93.addI (jOl.ie (dC := dC) (dI := dI) (G0 := G0) (k := 2) (rs := [bo, ou]) (H0 := s.heap) (F := [(2, 0), (2, 1)]) (C := RX0) (T := TX0) (N := 2) rfl (by decide) hh_93.2.2.2.2.1 (hd_103))
        clear hh_93
        have hyp_93 : qc_93.toInt ≤ (m_qa_93 : Nat) ∧ m_qa_93 ≤ 1048576 := by (try simp only at hr_94); omega
        have hy_105 := jYb.own hy_95 hbO_93 hb_932 hN_93 (by decide) (fun _ => ⟨_, _, _, hh_104.at 0 rfl, hh_104.at 1 rfl, hgq_93_0, hyp_93⟩)
        have hh_106 := hh_104.addI (jYb.ie hy_105)
        clear hh_104
        try simp only at hr_94
        obtain ⟨hr_94_0, hr_94_1, hr_94_2, hr_94_3, hr_94_4⟩ := hr_94
        have hh_107 := hh_106.wk (zc1 := (m_qa_93 - n_pa) / 16) (zs1 := 2 * (m_qa_93 - n_pa)) (by omega) (by omega)
        clear hh_106
        try clear hsz_93 htt_93 hrc_93 hrs_93
        try clear hb_934 hb_935
        refine lv_aload_n hx hb dX11_publish_156 rfl (lv_at hl 0 rfl) ?_
        obtain ⟨v_110, hv_110, hh_111⟩ := hh_107.pin (C := RX0) (T := TX0) (N := 2) hB2 rfl (by decide) hg_101 (i := 1) (by decide) rfl
        obtain ⟨count_112, rfl, hlocount_112, hhicount_112, hfxcount_112⟩ := hv_110
        obtain ⟨v_113, hv_113, hh_114⟩ := hh_111.pin (C := RX0) (T := TX0) (N := 2) hB2 rfl (by decide) hg_101 (i := 0) (by decide) rfl
        obtain ⟨row_115, nrow_115, rfl, hg_row_115, hlorow_115, hhirow_115, hpwrow_115, hfxrow_115⟩ := jBr.k6 (by decide) hv_113
        have hsz_108 := hh_114.2.2.2.2.2.1
        have htt_108 := hh_114.2.2.2.2.2.2.1
        refine W.room (fun hrc_108 hrs_108 => ?_)
        refine va_callv (A0 := jA base) (H0 := s.heap) (va_runV (As := []) (rest := []) ⟨hx, hb, hml, hown, hts⟩ (uX11_send l dC dI ca base B hB hAp hB2 hB4 hB13 hB17 hB196 hB199 G_93 H_93 r0 bo qc_93 qa_93 m_qa_93 ou count_112 row_115 nrow_115) (cwV 0 hts (jgV (jWr_26 _ (List.mem_of_getElem? (i := 20) rfl)) (jWr_26 _ (List.mem_of_getElem? (i := 21) rfl)) (jWr_26 _ (List.mem_of_getElem? (i := 22) rfl)) (jWr_1 _ (List.mem_of_getElem? (i := 2) rfl)) (jWr_26 _ (List.mem_of_getElem? (i := 23) rfl))) rfl rfl rfl (by decide +kernel) ⟨by rw [← hR]; exact Nat.le_of_ble_eq_true rfl, by rw [← hR]; exact Nat.le_of_ble_eq_true rfl⟩) ⟨fun a U g mk q => by obtain ⟨q0, q1, q2, qK, q10, q11, q12, q13, q14, q15, q16, q17⟩ := q; exact ⟨q0, q1, q2, jG.calling g mk a qK, q10, q11, q12, q13, q14, q15, q16, q17⟩, hh_114.recv (C := RX11) (T := TX11) (N := 19) hB13 rfl (by decide) hg_96 hK, fun U hU hW => ⟨rfl, hU, hh_114.2.1, hG.step hW hU hh_114.1, hg_96, hg_100, hgq_93_0, hg_101, hg_row_115, (hh_114.2.2.1.sub (L1 := [(r0, 13, 4, .ref bo), (bo, 2, 1, .int qc_93), (bo, 2, 0, .ref qa_93), (r0, 13, 3, .ref ou), (ou, 2, 1, .int count_112), (ou, 2, 0, .ref row_115)]) [7, 2, 3, 8, 1, 0] rfl), (hh_114.2.2.2.2.2.2.2.2.sub (L1 := [(jFy, jYb dC dI G_93)]) [0] rfl), ⟨(by first | omega | rfl | assumption | fail), (by first | omega | rfl | assumption | fail), (by first | omega | rfl | assumption | fail), (by first | omega | rfl | assumption | fail), (by first | omega | rfl | assumption | fail), (by first | omega | rfl | assumption | fail)⟩⟩⟩ rfl rfl hl.1 rfl (lv_room (Nat.le_of_ble_eq_true rfl)) dX11_publish_157 ⟨by rw [hRc]; show _ + 0 ≤ _; omega, by rw [hRs]; show _ + 0 ≤ _; omega⟩) hh_114.1 (fun q _ h => h) (fun q h => h) (fun u_108 t_108 H_108 locs_108 ht_108 hvm_108 hr_109 hb_108 hz_108 hk_108 hS_108 => ?_)
        rw [ht_108] at hb_108
        obtain ⟨hb_108, hbE_108⟩ := hb_108
        obtain ⟨hb_108, hbO_108⟩ := hb_108
        obtain ⟨hb_1081, hb_1082, hb_1083, hb_1084, hb_1085⟩ := hb_108
        have hh_108 : jSt (dC, dI) B base G0 G_93 EX11_publish s.heap ((m_qa_93 - n_pa) / 16) (2 * (m_qa_93 - n_pa)) [(r1, 3, 9, .ref behind_89), (r1, 3, 1, .int version_52), (r1, 3, 0, .ref uri_22), (r0, 13, 4, .ref bo), (r0, 13, 3, .ref ou)] [] [(jFy, jYb dC dI G_93), ([(210, 0)], jQc dC dI (ca 6) behind_89 40 fq_90)] H_108 locs_108 := (((hh_114.call hb_1081 hb_1082 hb_1083 hb_1084 hS_108 rfl (L1 := [(r1, 3, 9, .ref behind_89), (r1, 3, 1, .int version_52), (r1, 3, 0, .ref uri_22), (r0, 13, 4, .ref bo), (r0, 13, 3, .ref ou)]) [4, 5, 6, 7, 8] rfl rfl (M1 := []) [] rfl rfl (I1 := [([(210, 0)], jQc dC dI (ca 6) behind_89 40 fq_90)]) [2] rfl rfl).more hb_1085)).addIs hbE_108
        have hh_116 := hh_108.more (P1 := [(bo, 2, 1, .int qc_93), (bo, 2, 0, .ref qa_93)]) (jP.cons hg_100 (hbO_108 _ _ _ _ (jn1 (by first | assumption | exact Ne.symm (by assumption) | exact jnek hg_100 hg_101 (by decide))) hg_100 (hh_114.at 2 rfl)) (jP.cons hg_100 (hbO_108 _ _ _ _ (jn1 (by first | assumption | exact Ne.symm (by assumption) | exact jnek hg_100 hg_101 (by decide))) hg_100 (hh_114.at 3 rfl)) jP.nil))
        have hd_117 := jOl.trL (hh_114.iv 1 rfl) hh_114.2.2.2.2.1 hbO_108 (by simp)
        have hh_118 := hh_116.addI (jOl.ie (dC := dC) (dI := dI) (G0 := G0) (k := 2) (rs := [bo, ou]) (H0 := s.heap) (F := [(2, 0), (2, 1)]) (C := RX0) (T := TX0) (N := 2) rfl (by decide) hh_116.2.2.2.2.1 (hd_117))
        clear hh_116
        clear hh_114 ht_108 hvm_108 hz_108 hk_108 hS_108 hb_1081 hb_1082 hb_1083 hb_1084 hb_1085
        clear  hbE_108
        have hsz_119 := hh_118.2.2.2.2.2.1
        have htt_119 := hh_118.2.2.2.2.2.2.1
        refine W.room (fun hrc_119 hrs_119 => ?_)
        refine W.widen (k := LC - s.heap.size) (n := LS - jTot s.heap) (by omega) (by omega) ?_
        rw [hQ]
        exact W.vret hx hb hr (fun t ht hW => ⟨⟨(qc_93, qa_93, m_qa_93, G_93), rfl, by (try dsimp only); exact ⟨(by first | omega | rfl | assumption | fail), (by first | omega | rfl | assumption | fail), (by first | omega | rfl | assumption | fail), (by first | omega | rfl | assumption | fail), (by first | assumption | fail | omega)⟩, ⟨hh_118.ra (by first | omega | (simp only; omega)) (by first | omega | (simp only; omega)) (M1 := [(bo, 2, 1, .int qc_93), (bo, 2, 0, .ref qa_93)]) [0, 1] rfl ht, hgq_93_0, hNn_93, by rw [ht]; exact hh_118.iv 0 rfl, by rw [ht]; exact hh_118.2.2.2.2.2.2.2.2.sub (L1 := [(jFy, jYb dC dI G_93)]) [1] rfl⟩⟩, by rw [ht]; try exact hh_118.1.1, fun q h9 hq => by rw [ht]; try exact hh_118.1.2.1 q h9 hq⟩) hh_118.1.2.2 dX11_publish_160
      · skip
        have c_92' : a2.toInt ≠ 0 := jb_eq_n (rfl) ((by decide)) c_92
        refine lv_iload hx hb dX11_publish_79 (lv_at hl 4 rfl) ?_
        refine lv_aload_n hx hb dX11_publish_81 rfl (lv_at hl 1 rfl) ?_
        obtain ⟨v_120, hv_120, hh_121⟩ := hh_91.pin (C := RX1) (T := TX1) (N := 17) hB3 rfl (by decide) hg_83 (i := 10) (by decide) rfl
        clear hh_91
        obtain ⟨checked_122, rfl, hlochecked_122, hhichecked_122⟩ := hv_120
        refine j7_read hx hb hown hK (C := RX1) (T := TX1) (N := 17) rfl hly_3_10 hlk_171 (hh_121.at 0 rfl) dX11_publish_82 ?_
        refine lv_icmp_ge (tgt := 146) hx hb dX11_publish_85 (by decide) (fun c_123 => ?_) (fun c_123 => ?_)
        · skip
          have c_123' : v4_81.toInt ≥ checked_122.toInt := jb_ge (rfl) (rfl) c_123
          refine lv_aload_n hx hb dX11_publish_146 rfl (lv_at hl 0 rfl) ?_
          refine j7_read hx hb hown hK (C := RX11) (T := TX11) (N := 19) rfl hly_13_4 hlk_35 (hh_121.at 6 rfl) dX11_publish_147 ?_
          refine j_ldcSw hx hb hown rstr516 dX11_publish_150 ?_
          have hsz_124 := hh_121.2.2.2.2.2.1
          have htt_124 := hh_121.2.2.2.2.2.2.1
          refine W.room (fun hrc_124 hrs_124 => ?_)
          refine va_callv (A0 := jA base) (H0 := s.heap) (va_runV (As := [.ref str516]) (rest := []) ⟨hx, hb, hml, hown, hts⟩ (uX0_text l dC dI ca base B hB hAp hB2 hB196 Gx_81 H_81 bo str516 3 wc_81 wr_81 m_wr_81 LC LS) (cwV 1 hts (jgV (jWr_26 _ (List.mem_of_getElem? (i := 11) rfl)) (jWr_25 _ (List.mem_of_getElem? (i := 22) rfl)) (jWr_25 _ (List.mem_of_getElem? (i := 23) rfl)) (jWr_1 _ (List.mem_of_getElem? (i := 14) rfl)) (jWr_26 _ (List.mem_of_getElem? (i := 0) rfl))) rfl rfl rfl (by decide +kernel) ⟨by rw [← hR]; exact Nat.le_of_ble_eq_true rfl, by rw [← hR]; exact Nat.le_of_ble_eq_true rfl⟩) ⟨fun a U g mk q => by obtain ⟨q0, q1, q2, qK, q10, q11, q12, q13, q14⟩ := q; exact ⟨q0, q1, q2, jG.calling g mk a qK, (q10.moved (Vm.Alike.refl U.vm)), q11, q12, q13, q14⟩, hh_121.recv (C := RX0) (T := TX0) (N := 2) hB2 rfl (by decide) hg_85 hK, fun U hU hW => ⟨rfl, hU, hh_121.2.1, hG.step hW hU hh_121.1, (hstr516.moved hW.alike).kept hh_121.1.2.1, hg_85, hg_wr_81, (hh_121.2.2.1.sub (L1 := [(bo, 2, 1, .int wc_81), (bo, 2, 0, .ref wr_81)]) [2, 3] rfl), (by omega), (by omega), ⟨(by first | omega | rfl | assumption | fail), (by first | omega | rfl | assumption | fail), (by first | omega | rfl | assumption | fail), (by first | omega | rfl | assumption | fail), (by first | assumption | fail | omega), (by first | omega | rfl | assumption | fail)⟩⟩⟩ rfl rfl hl.1 rfl (lv_room (Nat.le_of_ble_eq_true rfl)) dX11_publish_153 ⟨by rw [hRc]; omega, by rw [hRs]; omega⟩) hh_121.1 (fun q _ h => h) (fun q h => h) (fun u_124 t_124 H_124 locs_124 ht_124 hvm_124 hr_125 hb_124 hz_124 hk_124 hS_124 => ?_)
          obtain ⟨qc_124, qa_124, m_qa_124, G_124⟩ := u_124
          rw [ht_124] at hb_124
          simp only at hb_124
          obtain ⟨⟨hb_1241, hb_1242, hb_1243, hb_1244, hb_1245, hb_1246⟩, hgq_124_0, hN_124, hbO_124⟩ := hb_124
          have hy_126 := hh_121.iv 1 rfl
          have hh_124 : jSt (dC, dI) B base G0 G_124 EX11_publish s.heap (zcx_81 + ((m_qa_124 - m_wr_81) / 16)) (zsx_81 + (2 * (m_qa_124 - m_wr_81))) [(bo, 2, 1, .int qc_124), (bo, 2, 0, .ref qa_124), (r1, 3, 10, .int checked_122), (r1, 3, 9, .ref behind_89), (r1, 3, 1, .int version_52), (r1, 3, 0, .ref uri_22), (r0, 13, 4, .ref bo), (r0, 13, 3, .ref ou)] [] [([(210, 0)], jQc dC dI (ca 6) behind_89 40 fq_90)] H_124 locs_124 := (hh_121.callG hb_1241 hb_1242 hb_1243 hb_1244 hb_1245 hS_124 rfl (L1 := [(r1, 3, 10, .int checked_122), (r1, 3, 9, .ref behind_89), (r1, 3, 1, .int version_52), (r1, 3, 0, .ref uri_22), (r0, 13, 4, .ref bo), (r0, 13, 3, .ref ou)]) [0, 1, 4, 5, 6, 7] rfl rfl (M1 := []) [] rfl rfl (I1 := [([(210, 0)], jQc dC dI (ca 6) behind_89 40 fq_90)]) [0] rfl rfl).more hb_1246
          have hNn_124 : (jNk [0, 1, 2, 3, 4, 5, 6, 7, 8, 9, 10, 11, 12, 13, 14, 15, 16, 17, 175]) G0 G_124 := (hN_81).tr hN_124
          have hg_127 := hb_1242 _ _ hg_82
          have hg_128 := hb_1242 _ _ hg_83
          have hg_129 := hb_1242 _ _ hg_behind_89
          have hg_130 := hb_1242 _ _ hg_84
          have hg_131 := hb_1242 _ _ hg_85
          have hg_132 := hb_1242 _ _ hg_86
          have hd_134 := jOl.trO (hh_121.iv 2 rfl) hh_121.2.2.2.2.1 hbO_124 (by simp)
          have hh_135 := hh_124.addI (jOl.ie (dC := dC) (dI := dI) (G0 := G0) (k := 2) (rs := [bo, ou]) (H0 := s.heap) (F := [(2, 0), (2, 1)]) (C := RX0) (T := TX0) (N := 2) rfl (by decide) hh_124.2.2.2.2.1 (hd_134))
          clear hh_124
          have hyp_124 : qc_124.toInt ≤ (m_qa_124 : Nat) ∧ m_qa_124 ≤ 1048576 := by (try simp only at hr_125); omega
          have hy_136 := jYb.own hy_126 hbO_124 hb_1242 hN_124 (by decide) (fun _ => ⟨_, _, _, hh_135.at 0 rfl, hh_135.at 1 rfl, hgq_124_0, hyp_124⟩)
          have hh_137 := hh_135.addI (jYb.ie hy_136)
          clear hh_135
          try simp only at hr_125
          obtain ⟨hr_125_0, hr_125_1, hr_125_2, hr_125_3, hr_125_4⟩ := hr_125
          have hh_138 := hh_137.wk (zc1 := (m_qa_124 - n_pa) / 16) (zs1 := 2 * (m_qa_124 - n_pa)) (by omega) (by omega)
          clear hh_137
          try clear hsz_124 htt_124 hrc_124 hrs_124
          try clear hb_1244 hb_1245
          refine lv_aload_n hx hb dX11_publish_156 rfl (lv_at hl 0 rfl) ?_
          obtain ⟨v_141, hv_141, hh_142⟩ := hh_138.pin (C := RX0) (T := TX0) (N := 2) hB2 rfl (by decide) hg_132 (i := 1) (by decide) rfl
          obtain ⟨count_143, rfl, hlocount_143, hhicount_143, hfxcount_143⟩ := hv_141
          obtain ⟨v_144, hv_144, hh_145⟩ := hh_142.pin (C := RX0) (T := TX0) (N := 2) hB2 rfl (by decide) hg_132 (i := 0) (by decide) rfl
          obtain ⟨row_146, nrow_146, rfl, hg_row_146, hlorow_146, hhirow_146, hpwrow_146, hfxrow_146⟩ := jBr.k6 (by decide) hv_144
          have hsz_139 := hh_145.2.2.2.2.2.1
          have htt_139 := hh_145.2.2.2.2.2.2.1
          refine W.room (fun hrc_139 hrs_139 => ?_)
          refine va_callv (A0 := jA base) (H0 := s.heap) (va_runV (As := []) (rest := []) ⟨hx, hb, hml, hown, hts⟩ (uX11_send l dC dI ca base B hB hAp hB2 hB4 hB13 hB17 hB196 hB199 G_124 H_124 r0 bo qc_124 qa_124 m_qa_124 ou count_143 row_146 nrow_146) (cwV 0 hts (jgV (jWr_26 _ (List.mem_of_getElem? (i := 20) rfl)) (jWr_26 _ (List.mem_of_getElem? (i := 21) rfl)) (jWr_26 _ (List.mem_of_getElem? (i := 22) rfl)) (jWr_1 _ (List.mem_of_getElem? (i := 2) rfl)) (jWr_26 _ (List.mem_of_getElem? (i := 23) rfl))) rfl rfl rfl (by decide +kernel) ⟨by rw [← hR]; exact Nat.le_of_ble_eq_true rfl, by rw [← hR]; exact Nat.le_of_ble_eq_true rfl⟩) ⟨fun a U g mk q => by obtain ⟨q0, q1, q2, qK, q10, q11, q12, q13, q14, q15, q16, q17⟩ := q; exact ⟨q0, q1, q2, jG.calling g mk a qK, q10, q11, q12, q13, q14, q15, q16, q17⟩, hh_145.recv (C := RX11) (T := TX11) (N := 19) hB13 rfl (by decide) hg_127 hK, fun U hU hW => ⟨rfl, hU, hh_145.2.1, hG.step hW hU hh_145.1, hg_127, hg_131, hgq_124_0, hg_132, hg_row_146, (hh_145.2.2.1.sub (L1 := [(r0, 13, 4, .ref bo), (bo, 2, 1, .int qc_124), (bo, 2, 0, .ref qa_124), (r0, 13, 3, .ref ou), (ou, 2, 1, .int count_143), (ou, 2, 0, .ref row_146)]) [8, 2, 3, 9, 1, 0] rfl), (hh_145.2.2.2.2.2.2.2.2.sub (L1 := [(jFy, jYb dC dI G_124)]) [0] rfl), ⟨(by first | omega | rfl | assumption | fail), (by first | omega | rfl | assumption | fail), (by first | omega | rfl | assumption | fail), (by first | omega | rfl | assumption | fail), (by first | omega | rfl | assumption | fail), (by first | omega | rfl | assumption | fail)⟩⟩⟩ rfl rfl hl.1 rfl (lv_room (Nat.le_of_ble_eq_true rfl)) dX11_publish_157 ⟨by rw [hRc]; show _ + 0 ≤ _; omega, by rw [hRs]; show _ + 0 ≤ _; omega⟩) hh_145.1 (fun q _ h => h) (fun q h => h) (fun u_139 t_139 H_139 locs_139 ht_139 hvm_139 hr_140 hb_139 hz_139 hk_139 hS_139 => ?_)
          rw [ht_139] at hb_139
          obtain ⟨hb_139, hbE_139⟩ := hb_139
          obtain ⟨hb_139, hbO_139⟩ := hb_139
          obtain ⟨hb_1391, hb_1392, hb_1393, hb_1394, hb_1395⟩ := hb_139
          have hh_139 : jSt (dC, dI) B base G0 G_124 EX11_publish s.heap ((m_qa_124 - n_pa) / 16) (2 * (m_qa_124 - n_pa)) [(r1, 3, 10, .int checked_122), (r1, 3, 9, .ref behind_89), (r1, 3, 1, .int version_52), (r1, 3, 0, .ref uri_22), (r0, 13, 4, .ref bo), (r0, 13, 3, .ref ou)] [] [(jFy, jYb dC dI G_124), ([(210, 0)], jQc dC dI (ca 6) behind_89 40 fq_90)] H_139 locs_139 := (((hh_145.call hb_1391 hb_1392 hb_1393 hb_1394 hS_139 rfl (L1 := [(r1, 3, 10, .int checked_122), (r1, 3, 9, .ref behind_89), (r1, 3, 1, .int version_52), (r1, 3, 0, .ref uri_22), (r0, 13, 4, .ref bo), (r0, 13, 3, .ref ou)]) [4, 5, 6, 7, 8, 9] rfl rfl (M1 := []) [] rfl rfl (I1 := [([(210, 0)], jQc dC dI (ca 6) behind_89 40 fq_90)]) [2] rfl rfl).more hb_1395)).addIs hbE_139
          have hh_147 := hh_139.more (P1 := [(bo, 2, 1, .int qc_124), (bo, 2, 0, .ref qa_124)]) (jP.cons hg_131 (hbO_139 _ _ _ _ (jn1 (by first | assumption | exact Ne.symm (by assumption) | exact jnek hg_131 hg_132 (by decide))) hg_131 (hh_145.at 2 rfl)) (jP.cons hg_131 (hbO_139 _ _ _ _ (jn1 (by first | assumption | exact Ne.symm (by assumption) | exact jnek hg_131 hg_132 (by decide))) hg_131 (hh_145.at 3 rfl)) jP.nil))
          have hd_148 := jOl.trL (hh_145.iv 1 rfl) hh_145.2.2.2.2.1 hbO_139 (by simp)
          have hh_149 := hh_147.addI (jOl.ie (dC := dC) (dI := dI) (G0 := G0) (k := 2) (rs := [bo, ou]) (H0 := s.heap) (F := [(2, 0), (2, 1)]) (C := RX0) (T := TX0) (N := 2) rfl (by decide) hh_147.2.2.2.2.1 (hd_148))
          clear hh_147
          clear hh_145 ht_139 hvm_139 hz_139 hk_139 hS_139 hb_1391 hb_1392 hb_1393 hb_1394 hb_1395
          clear  hbE_139
          have hsz_150 := hh_149.2.2.2.2.2.1
          have htt_150 := hh_149.2.2.2.2.2.2.1
          refine W.room (fun hrc_150 hrs_150 => ?_)
          refine W.widen (k := LC - s.heap.size) (n := LS - jTot s.heap) (by omega) (by omega) ?_
          rw [hQ]
          exact W.vret hx hb hr (fun t ht hW => ⟨⟨(qc_124, qa_124, m_qa_124, G_124), rfl, by (try dsimp only); exact ⟨(by first | omega | rfl | assumption | fail), (by first | omega | rfl | assumption | fail), (by first | omega | rfl | assumption | fail), (by first | omega | rfl | assumption | fail), (by first | assumption | fail | omega)⟩, ⟨hh_149.ra (by first | omega | (simp only; omega)) (by first | omega | (simp only; omega)) (M1 := [(bo, 2, 1, .int qc_124), (bo, 2, 0, .ref qa_124)]) [0, 1] rfl ht, hgq_124_0, hNn_124, by rw [ht]; exact hh_149.iv 0 rfl, by rw [ht]; exact hh_149.2.2.2.2.2.2.2.2.sub (L1 := [(jFy, jYb dC dI G_124)]) [1] rfl⟩⟩, by rw [ht]; try exact hh_149.1.1, fun q h9 hq => by rw [ht]; try exact hh_149.1.2.1 q h9 hq⟩) hh_149.1.2.2 dX11_publish_160
        · skip
          have c_123' : v4_81.toInt < checked_122.toInt := jb_ge_n (rfl) (rfl) c_123
          refine lv_iload hx hb dX11_publish_88 (lv_at hl 4 rfl) ?_
          refine lv_bipush (v := 40) hx hb dX11_publish_90 (by decide) ?_
          refine lv_icmp_ge (tgt := 146) hx hb dX11_publish_92 (by decide) (fun c_151 => ?_) (fun c_151 => ?_)
          · skip
            have c_151' : v4_81.toInt ≥ 40 := jb_ge (rfl) ((by decide)) c_151
            refine lv_aload_n hx hb dX11_publish_146 rfl (lv_at hl 0 rfl) ?_
            refine j7_read hx hb hown hK (C := RX11) (T := TX11) (N := 19) rfl hly_13_4 hlk_35 (hh_121.at 6 rfl) dX11_publish_147 ?_
            refine j_ldcSw hx hb hown rstr516 dX11_publish_150 ?_
            have hsz_152 := hh_121.2.2.2.2.2.1
            have htt_152 := hh_121.2.2.2.2.2.2.1
            refine W.room (fun hrc_152 hrs_152 => ?_)
            refine va_callv (A0 := jA base) (H0 := s.heap) (va_runV (As := [.ref str516]) (rest := []) ⟨hx, hb, hml, hown, hts⟩ (uX0_text l dC dI ca base B hB hAp hB2 hB196 Gx_81 H_81 bo str516 3 wc_81 wr_81 m_wr_81 LC LS) (cwV 1 hts (jgV (jWr_26 _ (List.mem_of_getElem? (i := 11) rfl)) (jWr_25 _ (List.mem_of_getElem? (i := 22) rfl)) (jWr_25 _ (List.mem_of_getElem? (i := 23) rfl)) (jWr_1 _ (List.mem_of_getElem? (i := 14) rfl)) (jWr_26 _ (List.mem_of_getElem? (i := 0) rfl))) rfl rfl rfl (by decide +kernel) ⟨by rw [← hR]; exact Nat.le_of_ble_eq_true rfl, by rw [← hR]; exact Nat.le_of_ble_eq_true rfl⟩) ⟨fun a U g mk q => by obtain ⟨q0, q1, q2, qK, q10, q11, q12, q13, q14⟩ := q; exact ⟨q0, q1, q2, jG.calling g mk a qK, (q10.moved (Vm.Alike.refl U.vm)), q11, q12, q13, q14⟩, hh_121.recv (C := RX0) (T := TX0) (N := 2) hB2 rfl (by decide) hg_85 hK, fun U hU hW => ⟨rfl, hU, hh_121.2.1, hG.step hW hU hh_121.1, (hstr516.moved hW.alike).kept hh_121.1.2.1, hg_85, hg_wr_81, (hh_121.2.2.1.sub (L1 := [(bo, 2, 1, .int wc_81), (bo, 2, 0, .ref wr_81)]) [2, 3] rfl), (by omega), (by omega), ⟨(by first | omega | rfl | assumption | fail), (by first | omega | rfl | assumption | fail), (by first | omega | rfl | assumption | fail), (by first | omega | rfl | assumption | fail), (by first | assumption | fail | omega), (by first | omega | rfl | assumption | fail)⟩⟩⟩ rfl rfl hl.1 rfl (lv_room (Nat.le_of_ble_eq_true rfl)) dX11_publish_153 ⟨by rw [hRc]; omega, by rw [hRs]; omega⟩) hh_121.1 (fun q _ h => h) (fun q h => h) (fun u_152 t_152 H_152 locs_152 ht_152 hvm_152 hr_153 hb_152 hz_152 hk_152 hS_152 => ?_)
            obtain ⟨qc_152, qa_152, m_qa_152, G_152⟩ := u_152
            rw [ht_152] at hb_152
            simp only at hb_152
            obtain ⟨⟨hb_1521, hb_1522, hb_1523, hb_1524, hb_1525, hb_1526⟩, hgq_152_0, hN_152, hbO_152⟩ := hb_152
            have hy_154 := hh_121.iv 1 rfl
            have hh_152 : jSt (dC, dI) B base G0 G_152 EX11_publish s.heap (zcx_81 + ((m_qa_152 - m_wr_81) / 16)) (zsx_81 + (2 * (m_qa_152 - m_wr_81))) [(bo, 2, 1, .int qc_152), (bo, 2, 0, .ref qa_152), (r1, 3, 10, .int checked_122), (r1, 3, 9, .ref behind_89), (r1, 3, 1, .int version_52), (r1, 3, 0, .ref uri_22), (r0, 13, 4, .ref bo), (r0, 13, 3, .ref ou)] [] [([(210, 0)], jQc dC dI (ca 6) behind_89 40 fq_90)] H_152 locs_152 := (hh_121.callG hb_1521 hb_1522 hb_1523 hb_1524 hb_1525 hS_152 rfl (L1 := [(r1, 3, 10, .int checked_122), (r1, 3, 9, .ref behind_89), (r1, 3, 1, .int version_52), (r1, 3, 0, .ref uri_22), (r0, 13, 4, .ref bo), (r0, 13, 3, .ref ou)]) [0, 1, 4, 5, 6, 7] rfl rfl (M1 := []) [] rfl rfl (I1 := [([(210, 0)], jQc dC dI (ca 6) behind_89 40 fq_90)]) [0] rfl rfl).more hb_1526
            have hNn_152 : (jNk [0, 1, 2, 3, 4, 5, 6, 7, 8, 9, 10, 11, 12, 13, 14, 15, 16, 17, 175]) G0 G_152 := (hN_81).tr hN_152
            have hg_155 := hb_1522 _ _ hg_82
            have hg_156 := hb_1522 _ _ hg_83
            have hg_157 := hb_1522 _ _ hg_behind_89
            have hg_158 := hb_1522 _ _ hg_84
            have hg_159 := hb_1522 _ _ hg_85
            have hg_160 := hb_1522 _ _ hg_86
            have hd_162 := jOl.trO (hh_121.iv 2 rfl) hh_121.2.2.2.2.1 hbO_152 (by simp)
            have hh_163 := hh_152.addI (jOl.ie (dC := dC) (dI := dI) (G0 := G0) (k := 2) (rs := [bo, ou]) (H0 := s.heap) (F := [(2, 0), (2, 1)]) (C := RX0) (T := TX0) (N := 2) rfl (by decide) hh_152.2.2.2.2.1 (hd_162))
            clear hh_152
            have hyp_152 : qc_152.toInt ≤ (m_qa_152 : Nat) ∧ m_qa_152 ≤ 1048576 := by (try simp only at hr_153); omega
            have hy_164 := jYb.own hy_154 hbO_152 hb_1522 hN_152 (by decide) (fun _ => ⟨_, _, _, hh_163.at 0 rfl, hh_163.at 1 rfl, hgq_152_0, hyp_152⟩)
            have hh_165 := hh_163.addI (jYb.ie hy_164)
            clear hh_163
            try simp only at hr_153
            obtain ⟨hr_153_0, hr_153_1, hr_153_2, hr_153_3, hr_153_4⟩ := hr_153
            have hh_166 := hh_165.wk (zc1 := (m_qa_152 - n_pa) / 16) (zs1 := 2 * (m_qa_152 - n_pa)) (by omega) (by omega)
            clear hh_165
            try clear hsz_152 htt_152 hrc_152 hrs_152
            try clear hb_1524 hb_1525
            refine lv_aload_n hx hb dX11_publish_156 rfl (lv_at hl 0 rfl) ?_
            obtain ⟨v_169, hv_169, hh_170⟩ := hh_166.pin (C := RX0) (T := TX0) (N := 2) hB2 rfl (by decide) hg_160 (i := 1) (by decide) rfl
            obtain ⟨count_171, rfl, hlocount_171, hhicount_171, hfxcount_171⟩ := hv_169
            obtain ⟨v_172, hv_172, hh_173⟩ := hh_170.pin (C := RX0) (T := TX0) (N := 2) hB2 rfl (by decide) hg_160 (i := 0) (by decide) rfl
            obtain ⟨row_174, nrow_174, rfl, hg_row_174, hlorow_174, hhirow_174, hpwrow_174, hfxrow_174⟩ := jBr.k6 (by decide) hv_172
            have hsz_167 := hh_173.2.2.2.2.2.1
            have htt_167 := hh_173.2.2.2.2.2.2.1
            refine W.room (fun hrc_167 hrs_167 => ?_)
            refine va_callv (A0 := jA base) (H0 := s.heap) (va_runV (As := []) (rest := []) ⟨hx, hb, hml, hown, hts⟩ (uX11_send l dC dI ca base B hB hAp hB2 hB4 hB13 hB17 hB196 hB199 G_152 H_152 r0 bo qc_152 qa_152 m_qa_152 ou count_171 row_174 nrow_174) (cwV 0 hts (jgV (jWr_26 _ (List.mem_of_getElem? (i := 20) rfl)) (jWr_26 _ (List.mem_of_getElem? (i := 21) rfl)) (jWr_26 _ (List.mem_of_getElem? (i := 22) rfl)) (jWr_1 _ (List.mem_of_getElem? (i := 2) rfl)) (jWr_26 _ (List.mem_of_getElem? (i := 23) rfl))) rfl rfl rfl (by decide +kernel) ⟨by rw [← hR]; exact Nat.le_of_ble_eq_true rfl, by rw [← hR]; exact Nat.le_of_ble_eq_true rfl⟩) ⟨fun a U g mk q => by obtain ⟨q0, q1, q2, qK, q10, q11, q12, q13, q14, q15, q16, q17⟩ := q; exact ⟨q0, q1, q2, jG.calling g mk a qK, q10, q11, q12, q13, q14, q15, q16, q17⟩, hh_173.recv (C := RX11) (T := TX11) (N := 19) hB13 rfl (by decide) hg_155 hK, fun U hU hW => ⟨rfl, hU, hh_173.2.1, hG.step hW hU hh_173.1, hg_155, hg_159, hgq_152_0, hg_160, hg_row_174, (hh_173.2.2.1.sub (L1 := [(r0, 13, 4, .ref bo), (bo, 2, 1, .int qc_152), (bo, 2, 0, .ref qa_152), (r0, 13, 3, .ref ou), (ou, 2, 1, .int count_171), (ou, 2, 0, .ref row_174)]) [8, 2, 3, 9, 1, 0] rfl), (hh_173.2.2.2.2.2.2.2.2.sub (L1 := [(jFy, jYb dC dI G_152)]) [0] rfl), ⟨(by first | omega | rfl | assumption | fail), (by first | omega | rfl | assumption | fail), (by first | omega | rfl | assumption | fail), (by first | omega | rfl | assumption | fail), (by first | omega | rfl | assumption | fail), (by first | omega | rfl | assumption | fail)⟩⟩⟩ rfl rfl hl.1 rfl (lv_room (Nat.le_of_ble_eq_true rfl)) dX11_publish_157 ⟨by rw [hRc]; show _ + 0 ≤ _; omega, by rw [hRs]; show _ + 0 ≤ _; omega⟩) hh_173.1 (fun q _ h => h) (fun q h => h) (fun u_167 t_167 H_167 locs_167 ht_167 hvm_167 hr_168 hb_167 hz_167 hk_167 hS_167 => ?_)
            rw [ht_167] at hb_167
            obtain ⟨hb_167, hbE_167⟩ := hb_167
            obtain ⟨hb_167, hbO_167⟩ := hb_167
            obtain ⟨hb_1671, hb_1672, hb_1673, hb_1674, hb_1675⟩ := hb_167
            have hh_167 : jSt (dC, dI) B base G0 G_152 EX11_publish s.heap ((m_qa_152 - n_pa) / 16) (2 * (m_qa_152 - n_pa)) [(r1, 3, 10, .int checked_122), (r1, 3, 9, .ref behind_89), (r1, 3, 1, .int version_52), (r1, 3, 0, .ref uri_22), (r0, 13, 4, .ref bo), (r0, 13, 3, .ref ou)] [] [(jFy, jYb dC dI G_152), ([(210, 0)], jQc dC dI (ca 6) behind_89 40 fq_90)] H_167 locs_167 := (((hh_173.call hb_1671 hb_1672 hb_1673 hb_1674 hS_167 rfl (L1 := [(r1, 3, 10, .int checked_122), (r1, 3, 9, .ref behind_89), (r1, 3, 1, .int version_52), (r1, 3, 0, .ref uri_22), (r0, 13, 4, .ref bo), (r0, 13, 3, .ref ou)]) [4, 5, 6, 7, 8, 9] rfl rfl (M1 := []) [] rfl rfl (I1 := [([(210, 0)], jQc dC dI (ca 6) behind_89 40 fq_90)]) [2] rfl rfl).more hb_1675)).addIs hbE_167
            have hh_175 := hh_167.more (P1 := [(bo, 2, 1, .int qc_152), (bo, 2, 0, .ref qa_152)]) (jP.cons hg_159 (hbO_167 _ _ _ _ (jn1 (by first | assumption | exact Ne.symm (by assumption) | exact jnek hg_159 hg_160 (by decide))) hg_159 (hh_173.at 2 rfl)) (jP.cons hg_159 (hbO_167 _ _ _ _ (jn1 (by first | assumption | exact Ne.symm (by assumption) | exact jnek hg_159 hg_160 (by decide))) hg_159 (hh_173.at 3 rfl)) jP.nil))
            have hd_176 := jOl.trL (hh_173.iv 1 rfl) hh_173.2.2.2.2.1 hbO_167 (by simp)
            have hh_177 := hh_175.addI (jOl.ie (dC := dC) (dI := dI) (G0 := G0) (k := 2) (rs := [bo, ou]) (H0 := s.heap) (F := [(2, 0), (2, 1)]) (C := RX0) (T := TX0) (N := 2) rfl (by decide) hh_175.2.2.2.2.1 (hd_176))
            clear hh_175
            clear hh_173 ht_167 hvm_167 hz_167 hk_167 hS_167 hb_1671 hb_1672 hb_1673 hb_1674 hb_1675
            clear  hbE_167
            have hsz_178 := hh_177.2.2.2.2.2.1
            have htt_178 := hh_177.2.2.2.2.2.2.1
            refine W.room (fun hrc_178 hrs_178 => ?_)
            refine W.widen (k := LC - s.heap.size) (n := LS - jTot s.heap) (by omega) (by omega) ?_
            rw [hQ]
            exact W.vret hx hb hr (fun t ht hW => ⟨⟨(qc_152, qa_152, m_qa_152, G_152), rfl, by (try dsimp only); exact ⟨(by first | omega | rfl | assumption | fail), (by first | omega | rfl | assumption | fail), (by first | omega | rfl | assumption | fail), (by first | omega | rfl | assumption | fail), (by first | assumption | fail | omega)⟩, ⟨hh_177.ra (by first | omega | (simp only; omega)) (by first | omega | (simp only; omega)) (M1 := [(bo, 2, 1, .int qc_152), (bo, 2, 0, .ref qa_152)]) [0, 1] rfl ht, hgq_152_0, hNn_152, by rw [ht]; exact hh_177.iv 0 rfl, by rw [ht]; exact hh_177.2.2.2.2.2.2.2.2.sub (L1 := [(jFy, jYb dC dI G_152)]) [1] rfl⟩⟩, by rw [ht]; try exact hh_177.1.1, fun q h9 hq => by rw [ht]; try exact hh_177.1.2.1 q h9 hq⟩) hh_177.1.2.2 dX11_publish_160
          · skip
            have c_151' : v4_81.toInt < 40 := jb_ge_n (rfl) ((by decide)) c_151
            refine lv_aload_n hx hb dX11_publish_95 rfl (lv_at hl 1 rfl) ?_
            refine j7_read hx hb hown hK (C := RX1) (T := TX1) (N := 17) rfl hly_3_9 hlk_178 (hh_121.at 1 rfl) dX11_publish_96 ?_
            refine lv_iload hx hb dX11_publish_99 (lv_at hl 4 rfl) ?_
            refine j7_qaldI hx hb hK2 hh_121 hB210 2 rfl (by decide) hg_behind_89 (x := v4_81.toInt) (rfl) (by omega) (hh_121.iv 0 rfl) dX11_publish_101 (fun o_179 ho_179 heo_179 => ?_)
            rcases ho_179 with rfl | ⟨el_180, rfl, hg_el_180⟩
            · simp only [va_rf]
              refine lv_ifnullN (tgt := 140) hx hb dX11_publish_102 (by decide) ?_
              obtain ⟨z_181, ez_181⟩ : ∃ y : Int32, y = v4_81 + 1 := ⟨_, rfl⟩
              refine lv_iinc (v := z_181) (lv' := [(4, .int z_181), (0, .ref r0), (1, .ref r1), (2, .int a2), (3, .int v3_81)]) hx hb dX11_publish_140 hl (k := 4) rfl (by rw [ez_181]; rfl) (by decide) rfl (fun ls hl => ?_)
              have hz_181 : z_181.toInt = v4_81.toInt + 1 := by rw [ez_181]; exact jb_iadd2 (rfl) (by decide) (by omega)
              refine lv_goto (tgt := 75) hx hb dX11_publish_143 (by decide) ?_
              refine W.tight (c2 := zcx_81) (n2 := zsx_81) hh_121.2.2.2.2.2.1 hh_121.2.2.2.2.2.2.1 ?_
              exact L75 Gx_81 zcx_81 zsx_81 v3_81 z_181 wc_81 wr_81 m_wr_81 _ _ (hh_121.sub (L1 := [(bo, 2, 1, .int wc_81), (bo, 2, 0, .ref wr_81), (r1, 3, 1, .int version_52), (r1, 3, 0, .ref uri_22), (r0, 13, 4, .ref bo), (r0, 13, 3, .ref ou)]) [2, 3, 4, 5, 6, 7] rfl (M1 := []) [] rfl (I1 := [(jFy, jYb dC dI Gx_81), ([(2, 0), (2, 1)], jOl (dC, dI) G0 2 [bo, ou] s.heap)]) [1, 2] rfl) (hN_81) (hle_81) (hb_v3_81) hg_wr_81 (⟨(by first | omega | rfl | assumption | fail), (by first | omega | rfl | assumption | fail), (by first | omega | rfl | assumption | fail), (by first | omega | rfl | assumption | fail), (by first | assumption | fail | omega), (by first | omega | rfl | assumption | fail), (by first | omega | rfl | assumption | fail), (by first | omega | rfl | assumption | fail), (by first | omega | rfl | assumption | fail)⟩) (by omega) _ (lv_sub hl [1, 2, 3, 4, 0] rfl)
            · simp only [va_rf]
              refine lv_ifnull hx hb dX11_publish_102 ?_
              refine lv_aload_n hx hb dX11_publish_105 rfl (lv_at hl 1 rfl) ?_
              refine j7_read hx hb hown hK (C := RX1) (T := TX1) (N := 17) rfl hly_3_9 hlk_178 (hh_121.at 1 rfl) dX11_publish_106 ?_
              refine lv_iload hx hb dX11_publish_109 (lv_at hl 4 rfl) ?_
              refine j7_qaldI hx hb hK2 hh_121 hB210 2 rfl (by decide) hg_behind_89 (x := v4_81.toInt) (rfl) (by omega) (hh_121.iv 0 rfl) dX11_publish_111 (fun o_182 ho_182 heo_182 => ?_)
              rcases ho_182 with rfl | ⟨el_183, rfl, hg_el_183⟩
              · simp only [va_rf]
                exact absurd (heo_182.trans heo_179.symm) (by simp)
              · simp only [va_rf]
                obtain rfl : el_180 = el_183 := (Option.some.inj (heo_182.trans heo_179.symm)).symm
                obtain ⟨v_184, hv_184, hh_185⟩ := hh_121.pin (C := RX9) (T := TX9) (N := 9) hB11 rfl (by decide) hg_el_180 (i := 2) (by decide) rfl
                clear hh_121
                obtain ⟨fault_186, rfl⟩ := hv_184
                refine j7_read hx hb hown hK (C := RX9) (T := TX9) (N := 9) rfl hly_11_2 hlk_188 (hh_185.at 0 rfl) dX11_publish_112 ?_
                refine lv_if_le (tgt := 140) hx hb dX11_publish_115 (by decide) (fun c_187 => ?_) (fun c_187 => ?_)
                · skip
                  have c_187' : fault_186.toInt ≤ 0 := jb_le (rfl) ((by decide)) c_187
                  obtain ⟨z_188, ez_188⟩ : ∃ y : Int32, y = v4_81 + 1 := ⟨_, rfl⟩
                  refine lv_iinc (v := z_188) (lv' := [(4, .int z_188), (0, .ref r0), (1, .ref r1), (2, .int a2), (3, .int v3_81)]) hx hb dX11_publish_140 hl (k := 4) rfl (by rw [ez_188]; rfl) (by decide) rfl (fun ls hl => ?_)
                  have hz_188 : z_188.toInt = v4_81.toInt + 1 := by rw [ez_188]; exact jb_iadd2 (rfl) (by decide) (by omega)
                  refine lv_goto (tgt := 75) hx hb dX11_publish_143 (by decide) ?_
                  refine W.tight (c2 := zcx_81) (n2 := zsx_81) hh_185.2.2.2.2.2.1 hh_185.2.2.2.2.2.2.1 ?_
                  exact L75 Gx_81 zcx_81 zsx_81 v3_81 z_188 wc_81 wr_81 m_wr_81 _ _ (hh_185.sub (L1 := [(bo, 2, 1, .int wc_81), (bo, 2, 0, .ref wr_81), (r1, 3, 1, .int version_52), (r1, 3, 0, .ref uri_22), (r0, 13, 4, .ref bo), (r0, 13, 3, .ref ou)]) [3, 4, 5, 6, 7, 8] rfl (M1 := []) [] rfl (I1 := [(jFy, jYb dC dI Gx_81), ([(2, 0), (2, 1)], jOl (dC, dI) G0 2 [bo, ou] s.heap)]) [1, 2] rfl) (hN_81) (hle_81) (hb_v3_81) hg_wr_81 (⟨(by first | omega | rfl | assumption | fail), (by first | omega | rfl | assumption | fail), (by first | omega | rfl | assumption | fail), (by first | omega | rfl | assumption | fail), (by first | assumption | fail | omega), (by first | omega | rfl | assumption | fail), (by first | omega | rfl | assumption | fail), (by first | omega | rfl | assumption | fail), (by first | omega | rfl | assumption | fail)⟩) (by omega) _ (lv_sub hl [1, 2, 3, 4, 0] rfl)
                · skip
                  have c_187' : fault_186.toInt > 0 := jb_le_n (rfl) ((by decide)) c_187
                  refine lv_iload_n hx hb dX11_publish_118 rfl (lv_at hl 3 rfl) ?_
                  refine lv_if_ne (tgt := 131) hx hb dX11_publish_119 (by decide) (fun c_189 => ?_) (fun c_189 => ?_)
                  · skip
                    have c_189' : v3_81.toInt ≠ 0 := jb_ne (rfl) ((by decide)) c_189
                    refine lv_iconst (v := 0) hx hb dX11_publish_131 (by decide) ?_
                    refine lv_istore_n (lv' := [(3, .int 0), (0, .ref r0), (1, .ref r1), (2, .int a2), (4, .int v4_81)]) hx hb dX11_publish_132 rfl hl (by decide) rfl (fun ls hl => ?_)
                    refine lv_aload_n hx hb dX11_publish_133 rfl (lv_at hl 1 rfl) ?_
                    refine lv_aload_n hx hb dX11_publish_134 rfl (lv_at hl 2 rfl) ?_
                    refine lv_iload hx hb dX11_publish_135 (lv_at hl 4 rfl) ?_
                    have hsz_190 := hh_185.2.2.2.2.2.1
                    have htt_190 := hh_185.2.2.2.2.2.2.1
                    refine W.room (fun hrc_190 hrs_190 => ?_)
                    refine va_callv (A0 := jA base) (H0 := s.heap) (va_runV (As := [.ref r1, .int v4_81]) (rest := []) ⟨hx, hb, hml, hown, hts⟩ (uX11_diagnostic l dC dI ca base B hB hAp hB2 hB3 hB11 hB13 hB171 hB172 hB173 hB196 hB210 Gx_81 H_81 r0 r1 v4_81 bo wc_81 wr_81 m_wr_81 behind_89 fq_90 LC LS) (cwV 2 hts (jgV (jWr_40 _ (List.mem_of_getElem? (i := 9) rfl)) (jWr_40 _ (List.mem_of_getElem? (i := 10) rfl)) (jWr_40 _ (List.mem_of_getElem? (i := 11) rfl)) (jWr_1 _ (List.mem_of_getElem? (i := 2) rfl)) (jWr_40 _ (List.mem_of_getElem? (i := 12) rfl))) rfl rfl rfl (by decide +kernel) ⟨by rw [← hR]; exact Nat.le_of_ble_eq_true rfl, by rw [← hR]; exact Nat.le_of_ble_eq_true rfl⟩) ⟨fun a U g mk q => by obtain ⟨q0, q1, q2, qK, q10, q11, q12, q13, q14, q15, q16, q17, q18⟩ := q; exact ⟨q0, q1, q2, jG.calling g mk a qK, (va_K.moved (Vm.Alike.refl U.vm) q10), q11, q12, q13, q14, q15, q16, q17, q18⟩, hh_185.recv (C := RX11) (T := TX11) (N := 19) hB13 rfl (by decide) hg_82 hK, fun U hU hW => ⟨rfl, hU, hh_185.2.1, hG.step hW hU hh_185.1, va_K.moved hW.alike hK2, hg_83, hg_82, hg_85, hg_wr_81, hg_behind_89, (hh_185.2.2.1.sub (L1 := [(r0, 13, 4, .ref bo), (bo, 2, 1, .int wc_81), (bo, 2, 0, .ref wr_81), (r1, 3, 9, .ref behind_89)]) [7, 3, 4, 2] rfl), (hh_185.2.2.2.2.2.2.2.2.sub (L1 := [(jFy, jYb dC dI Gx_81), ([(210, 0)], jQc dC dI (ca 6) behind_89 40 fq_90)]) [1, 0] rfl), (by omega), (by omega), ⟨(by first | omega | rfl | assumption | (rw [← heo_182]; exact fun q => nomatch q)), (by first | omega | rfl | assumption | (rw [← heo_182]; exact fun q => nomatch q)), (by first | omega | rfl | assumption | (rw [← heo_182]; exact fun q => nomatch q)), (by first | omega | rfl | assumption | (rw [← heo_182]; exact fun q => nomatch q)), (by first | assumption | (rw [← heo_182]; exact fun q => nomatch q) | omega), (by first | omega | rfl | assumption | (rw [← heo_182]; exact fun q => nomatch q)), (by first | omega | rfl | assumption | (rw [← heo_182]; exact fun q => nomatch q)), (by first | omega | rfl | assumption | (rw [← heo_182]; exact fun q => nomatch q))⟩⟩⟩ rfl rfl hl.1 rfl (lv_room (Nat.le_of_ble_eq_true rfl)) dX11_publish_137 ⟨by rw [hRc]; omega, by rw [hRs]; omega⟩) hh_185.1 (fun q _ h => h) (fun q h => h) (fun u_190 t_190 H_190 locs_190 ht_190 hvm_190 hr_191 hb_190 hz_190 hk_190 hS_190 => ?_)
                    obtain ⟨qc_190, qa_190, m_qa_190, G_190⟩ := u_190
                    rw [ht_190] at hb_190
                    simp only at hb_190
                    obtain ⟨⟨hb_1901, hb_1902, hb_1903, hb_1904, hb_1905, hb_1906⟩, hgq_190_0, hN_190, hbO_190, hbE_190⟩ := hb_190
                    have hh_190 : jSt (dC, dI) B base G0 G_190 EX11_publish s.heap (zcx_81 + ((m_qa_190 - m_wr_81) / 16)) (zsx_81 + (2 * (m_qa_190 - m_wr_81))) [(bo, 2, 1, .int qc_190), (bo, 2, 0, .ref qa_190), (el_180, 11, 2, .int fault_186), (r1, 3, 10, .int checked_122), (r1, 3, 9, .ref behind_89), (r1, 3, 1, .int version_52), (r1, 3, 0, .ref uri_22), (r0, 13, 4, .ref bo), (r0, 13, 3, .ref ou)] [] [([(210, 0)], jQc dC dI (ca 6) behind_89 40 fq_90)] H_190 locs_190 := (hh_185.callG hb_1901 hb_1902 hb_1903 hb_1904 hb_1905 hS_190 rfl (L1 := [(el_180, 11, 2, .int fault_186), (r1, 3, 10, .int checked_122), (r1, 3, 9, .ref behind_89), (r1, 3, 1, .int version_52), (r1, 3, 0, .ref uri_22), (r0, 13, 4, .ref bo), (r0, 13, 3, .ref ou)]) [0, 1, 2, 5, 6, 7, 8] rfl rfl (M1 := []) [] rfl rfl (I1 := [([(210, 0)], jQc dC dI (ca 6) behind_89 40 fq_90)]) [0] rfl rfl).more hb_1906
                    have hNn_190 : (jNk [0, 1, 2, 3, 4, 5, 6, 7, 8, 9, 10, 11, 12, 13, 14, 15, 16, 17, 175]) G0 G_190 := (hN_81).tr hN_190
                    have hg_192 := hb_1902 _ _ hg_82
                    have hg_193 := hb_1902 _ _ hg_83
                    have hg_194 := hb_1902 _ _ hg_behind_89
                    have hg_195 := hb_1902 _ _ hg_84
                    have hg_196 := hb_1902 _ _ hg_85
                    have hg_197 := hb_1902 _ _ hg_86
                    have hh_199 := hh_190.addIs hbE_190
                    have hd_200 := jOl.trL (hh_185.iv 2 rfl) hh_185.2.2.2.2.1 hbO_190 (by simp)
                    have hh_201 := hh_199.addI (jOl.ie (dC := dC) (dI := dI) (G0 := G0) (k := 2) (rs := [bo, ou]) (H0 := s.heap) (F := [(2, 0), (2, 1)]) (C := RX0) (T := TX0) (N := 2) rfl (by decide) hh_199.2.2.2.2.1 (hd_200))
                    clear hh_199
                    try simp only at hr_191
                    obtain ⟨hr_191_0, hr_191_1, hr_191_2, hr_191_3, hr_191_4⟩ := hr_191
                    have hh_202 := hh_201.wk (zc1 := (m_qa_190 - n_pa) / 16) (zs1 := 2 * (m_qa_190 - n_pa)) (by omega) (by omega)
                    clear hh_201
                    try clear hsz_190 htt_190 hrc_190 hrs_190
                    try clear hb_1904 hb_1905
                    obtain ⟨z_203, ez_203⟩ : ∃ y : Int32, y = v4_81 + 1 := ⟨_, rfl⟩
                    refine lv_iinc (v := z_203) (lv' := [(4, .int z_203), (3, .int 0), (0, .ref r0), (1, .ref r1), (2, .int a2)]) hx hb dX11_publish_140 hl (k := 4) rfl (by rw [ez_203]; rfl) (by decide) rfl (fun ls hl => ?_)
                    have hz_203 : z_203.toInt = v4_81.toInt + 1 := by rw [ez_203]; exact jb_iadd2 (rfl) (by decide) (by omega)
                    refine lv_goto (tgt := 75) hx hb dX11_publish_143 (by decide) ?_
                    refine W.tight (c2 := ((m_qa_190 - n_pa) / 16)) (n2 := (2 * (m_qa_190 - n_pa))) hh_202.2.2.2.2.2.1 hh_202.2.2.2.2.2.2.1 ?_
                    exact L75 G_190 ((m_qa_190 - n_pa) / 16) (2 * (m_qa_190 - n_pa)) 0 z_203 qc_190 qa_190 m_qa_190 _ _ (hh_202.sub (L1 := [(bo, 2, 1, .int qc_190), (bo, 2, 0, .ref qa_190), (r1, 3, 1, .int version_52), (r1, 3, 0, .ref uri_22), (r0, 13, 4, .ref bo), (r0, 13, 3, .ref ou)]) [0, 1, 5, 6, 7, 8] rfl (M1 := []) [] rfl (I1 := [(jFy, jYb dC dI G_190), ([(2, 0), (2, 1)], jOl (dC, dI) G0 2 [bo, ou] s.heap)]) [1, 0] rfl) (hNn_190) ((hle_81).tr hb_1902) (Or.inl rfl) hgq_190_0 (⟨(by first | omega | rfl | assumption | fail), (by first | omega | rfl | assumption | fail), (by first | omega | rfl | assumption | fail), (by first | omega | rfl | assumption | fail), (by first | assumption | fail | omega), (by first | omega | rfl | assumption | fail), (by first | omega | rfl | assumption | fail), (by first | omega | rfl | assumption | fail), (by first | omega | rfl | assumption | fail)⟩) (by omega) _ (lv_sub hl [2, 3, 4, 1, 0] rfl)
                  · skip
                    have c_189' : v3_81.toInt = 0 := jb_ne_n (rfl) ((by decide)) c_189
                    refine lv_aload_n hx hb dX11_publish_122 rfl (lv_at hl 0 rfl) ?_
                    refine j7_read hx hb hown hK (C := RX11) (T := TX11) (N := 19) rfl hly_13_4 hlk_35 (hh_185.at 7 rfl) dX11_publish_123 ?_
                    refine lv_bipush (v := 44) hx hb dX11_publish_126 (by decide) ?_
                    have hsz_204 := hh_185.2.2.2.2.2.1
                    have htt_204 := hh_185.2.2.2.2.2.2.1
                    refine W.room (fun hrc_204 hrs_204 => ?_)
                    refine va_callv (A0 := jA base) (H0 := s.heap) (va_runV (As := [.int 44]) (rest := []) ⟨hx, hb, hml, hown, hts⟩ (uX0_put l dC dI ca base B hB hAp hB2 hB196 Gx_81 H_81 bo 44 wc_81 wr_81 m_wr_81 LC LS) (cwV 1 hts (jgV (jWr_15 _ (List.mem_of_getElem? (i := 23) rfl)) (jWr_16 _ (List.mem_of_getElem? (i := 0) rfl)) (jWr_16 _ (List.mem_of_getElem? (i := 1) rfl)) (jWr_1 _ (List.mem_of_getElem? (i := 14) rfl)) (jWr_16 _ (List.mem_of_getElem? (i := 2) rfl))) rfl rfl rfl (by decide +kernel) ⟨by rw [← hR]; exact Nat.le_of_ble_eq_true rfl, by rw [← hR]; exact Nat.le_of_ble_eq_true rfl⟩) ⟨fun a U g mk q => by obtain ⟨q0, q1, q2, qK, q10, q11, q12, q13⟩ := q; exact ⟨q0, q1, q2, jG.calling g mk a qK, q10, q11, q12, q13⟩, hh_185.recv (C := RX0) (T := TX0) (N := 2) hB2 rfl (by decide) hg_85 hK, fun U hU hW => ⟨rfl, hU, hh_185.2.1, hG.step hW hU hh_185.1, hg_85, hg_wr_81, (hh_185.2.2.1.sub (L1 := [(bo, 2, 1, .int wc_81), (bo, 2, 0, .ref wr_81)]) [3, 4] rfl), (by omega), (by omega), ⟨(by first | omega | rfl | assumption | fail), (by first | omega | rfl | assumption | fail), (by first | omega | rfl | assumption | fail), (by first | omega | rfl | assumption | fail), (by first | assumption | fail | omega)⟩⟩⟩ rfl rfl hl.1 rfl (lv_room (Nat.le_of_ble_eq_true rfl)) dX11_publish_128 ⟨by rw [hRc]; omega, by rw [hRs]; omega⟩) hh_185.1 (fun q _ h => h) (fun q h => h) (fun u_204 t_204 H_204 locs_204 ht_204 hvm_204 hr_205 hb_204 hz_204 hk_204 hS_204 => ?_)
                    obtain ⟨qc_204, qa_204, m_qa_204, G_204⟩ := u_204
                    rw [ht_204] at hb_204
                    simp only at hb_204
                    obtain ⟨⟨hb_2041, hb_2042, hb_2043, hb_2044, hb_2045, hb_2046⟩, hgq_204_0, hN_204, hbO_204⟩ := hb_204
                    have hy_206 := hh_185.iv 1 rfl
                    have hh_204 : jSt (dC, dI) B base G0 G_204 EX11_publish s.heap (zcx_81 + ((m_qa_204 - m_wr_81) / 16)) (zsx_81 + (2 * (m_qa_204 - m_wr_81))) [(bo, 2, 1, .int qc_204), (bo, 2, 0, .ref qa_204), (el_180, 11, 2, .int fault_186), (r1, 3, 10, .int checked_122), (r1, 3, 9, .ref behind_89), (r1, 3, 1, .int version_52), (r1, 3, 0, .ref uri_22), (r0, 13, 4, .ref bo), (r0, 13, 3, .ref ou)] [] [([(210, 0)], jQc dC dI (ca 6) behind_89 40 fq_90)] H_204 locs_204 := (hh_185.callG hb_2041 hb_2042 hb_2043 hb_2044 hb_2045 hS_204 rfl (L1 := [(el_180, 11, 2, .int fault_186), (r1, 3, 10, .int checked_122), (r1, 3, 9, .ref behind_89), (r1, 3, 1, .int version_52), (r1, 3, 0, .ref uri_22), (r0, 13, 4, .ref bo), (r0, 13, 3, .ref ou)]) [0, 1, 2, 5, 6, 7, 8] rfl rfl (M1 := []) [] rfl rfl (I1 := [([(210, 0)], jQc dC dI (ca 6) behind_89 40 fq_90)]) [0] rfl rfl).more hb_2046
                    have hNn_204 : (jNk [0, 1, 2, 3, 4, 5, 6, 7, 8, 9, 10, 11, 12, 13, 14, 15, 16, 17, 175]) G0 G_204 := (hN_81).tr hN_204
                    have hg_207 := hb_2042 _ _ hg_82
                    have hg_208 := hb_2042 _ _ hg_83
                    have hg_209 := hb_2042 _ _ hg_behind_89
                    have hg_210 := hb_2042 _ _ hg_84
                    have hg_211 := hb_2042 _ _ hg_85
                    have hg_212 := hb_2042 _ _ hg_86
                    have hd_214 := jOl.trO (hh_185.iv 2 rfl) hh_185.2.2.2.2.1 hbO_204 (by simp)
                    have hh_215 := hh_204.addI (jOl.ie (dC := dC) (dI := dI) (G0 := G0) (k := 2) (rs := [bo, ou]) (H0 := s.heap) (F := [(2, 0), (2, 1)]) (C := RX0) (T := TX0) (N := 2) rfl (by decide) hh_204.2.2.2.2.1 (hd_214))
                    clear hh_204
                    have hyp_204 : qc_204.toInt ≤ (m_qa_204 : Nat) ∧ m_qa_204 ≤ 1048576 := by (try simp only at hr_205); omega
                    have hy_216 := jYb.own hy_206 hbO_204 hb_2042 hN_204 (by decide) (fun _ => ⟨_, _, _, hh_215.at 0 rfl, hh_215.at 1 rfl, hgq_204_0, hyp_204⟩)
                    have hh_217 := hh_215.addI (jYb.ie hy_216)
                    clear hh_215
                    try simp only at hr_205
                    obtain ⟨hr_205_0, hr_205_1, hr_205_2, hr_205_3, hr_205_4⟩ := hr_205
                    have hh_218 := hh_217.wk (zc1 := (m_qa_204 - n_pa) / 16) (zs1 := 2 * (m_qa_204 - n_pa)) (by omega) (by omega)
                    clear hh_217
                    try clear hsz_204 htt_204 hrc_204 hrs_204
                    try clear hb_2044 hb_2045
                    refine lv_iconst (v := 0) hx hb dX11_publish_131 (by decide) ?_
                    refine lv_istore_n (lv' := [(3, .int 0), (0, .ref r0), (1, .ref r1), (2, .int a2), (4, .int v4_81)]) hx hb dX11_publish_132 rfl hl (by decide) rfl (fun ls hl => ?_)
                    refine lv_aload_n hx hb dX11_publish_133 rfl (lv_at hl 1 rfl) ?_
                    refine lv_aload_n hx hb dX11_publish_134 rfl (lv_at hl 2 rfl) ?_
                    refine lv_iload hx hb dX11_publish_135 (lv_at hl 4 rfl) ?_
                    have hsz_219 := hh_218.2.2.2.2.2.1
                    have htt_219 := hh_218.2.2.2.2.2.2.1
                    refine W.room (fun hrc_219 hrs_219 => ?_)
                    refine va_callv (A0 := jA base) (H0 := s.heap) (va_runV (As := [.ref r1, .int v4_81]) (rest := []) ⟨hx, hb, hml, hown, hts⟩ (uX11_diagnostic l dC dI ca base B hB hAp hB2 hB3 hB11 hB13 hB171 hB172 hB173 hB196 hB210 G_204 H_204 r0 r1 v4_81 bo qc_204 qa_204 m_qa_204 behind_89 fq_90 LC LS) (cwV 2 hts (jgV (jWr_40 _ (List.mem_of_getElem? (i := 9) rfl)) (jWr_40 _ (List.mem_of_getElem? (i := 10) rfl)) (jWr_40 _ (List.mem_of_getElem? (i := 11) rfl)) (jWr_1 _ (List.mem_of_getElem? (i := 2) rfl)) (jWr_40 _ (List.mem_of_getElem? (i := 12) rfl))) rfl rfl rfl (by decide +kernel) ⟨by rw [← hR]; exact Nat.le_of_ble_eq_true rfl, by rw [← hR]; exact Nat.le_of_ble_eq_true rfl⟩) ⟨fun a U g mk q => by obtain ⟨q0, q1, q2, qK, q10, q11, q12, q13, q14, q15, q16, q17, q18⟩ := q; exact ⟨q0, q1, q2, jG.calling g mk a qK, (va_K.moved (Vm.Alike.refl U.vm) q10), q11, q12, q13, q14, q15, q16, q17, q18⟩, hh_218.recv (C := RX11) (T := TX11) (N := 19) hB13 rfl (by decide) hg_207 hK, fun U hU hW => ⟨rfl, hU, hh_218.2.1, hG.step hW hU hh_218.1, va_K.moved hW.alike hK2, hg_208, hg_207, hg_211, hgq_204_0, hg_209, (hh_218.2.2.1.sub (L1 := [(r0, 13, 4, .ref bo), (bo, 2, 1, .int qc_204), (bo, 2, 0, .ref qa_204), (r1, 3, 9, .ref behind_89)]) [7, 0, 1, 4] rfl), (hh_218.2.2.2.2.2.2.2.2.sub (L1 := [(jFy, jYb dC dI G_204), ([(210, 0)], jQc dC dI (ca 6) behind_89 40 fq_90)]) [0, 2] rfl), (by omega), (by omega), ⟨(by first | omega | rfl | assumption | (rw [← heo_182]; exact fun q => nomatch q)), (by first | omega | rfl | assumption | (rw [← heo_182]; exact fun q => nomatch q)), (by first | omega | rfl | assumption | (rw [← heo_182]; exact fun q => nomatch q)), (by first | omega | rfl | assumption | (rw [← heo_182]; exact fun q => nomatch q)), (by first | assumption | (rw [← heo_182]; exact fun q => nomatch q) | omega), (by first | omega | rfl | assumption | (rw [← heo_182]; exact fun q => nomatch q)), (by first | omega | rfl | assumption | (rw [← heo_182]; exact fun q => nomatch q)), (by first | omega | rfl | assumption | (rw [← heo_182]; exact fun q => nomatch q))⟩⟩⟩ rfl rfl hl.1 rfl (lv_room (Nat.le_of_ble_eq_true rfl)) dX11_publish_137 ⟨by rw [hRc]; omega, by rw [hRs]; omega⟩) hh_218.1 (fun q _ h => h) (fun q h => h) (fun u_219 t_219 H_219 locs_219 ht_219 hvm_219 hr_220 hb_219 hz_219 hk_219 hS_219 => ?_)
                    obtain ⟨qc_219, qa_219, m_qa_219, G_219⟩ := u_219
                    rw [ht_219] at hb_219
                    simp only at hb_219
                    obtain ⟨⟨hb_2191, hb_2192, hb_2193, hb_2194, hb_2195, hb_2196⟩, hgq_219_0, hN_219, hbO_219, hbE_219⟩ := hb_219
                    have hh_219 : jSt (dC, dI) B base G0 G_219 EX11_publish s.heap (((m_qa_204 - n_pa) / 16) + ((m_qa_219 - m_qa_204) / 16)) ((2 * (m_qa_204 - n_pa)) + (2 * (m_qa_219 - m_qa_204))) [(bo, 2, 1, .int qc_219), (bo, 2, 0, .ref qa_219), (el_180, 11, 2, .int fault_186), (r1, 3, 10, .int checked_122), (r1, 3, 9, .ref behind_89), (r1, 3, 1, .int version_52), (r1, 3, 0, .ref uri_22), (r0, 13, 4, .ref bo), (r0, 13, 3, .ref ou)] [] [([(210, 0)], jQc dC dI (ca 6) behind_89 40 fq_90)] H_219 locs_219 := (hh_218.callG hb_2191 hb_2192 hb_2193 hb_2194 hb_2195 hS_219 rfl (L1 := [(el_180, 11, 2, .int fault_186), (r1, 3, 10, .int checked_122), (r1, 3, 9, .ref behind_89), (r1, 3, 1, .int version_52), (r1, 3, 0, .ref uri_22), (r0, 13, 4, .ref bo), (r0, 13, 3, .ref ou)]) [2, 3, 4, 5, 6, 7, 8] rfl rfl (M1 := []) [] rfl rfl (I1 := [([(210, 0)], jQc dC dI (ca 6) behind_89 40 fq_90)]) [2] rfl rfl).more hb_2196
                    have hNn_219 : (jNk [0, 1, 2, 3, 4, 5, 6, 7, 8, 9, 10, 11, 12, 13, 14, 15, 16, 17, 175]) G0 G_219 := (hNn_204).tr hN_219
                    have hg_221 := hb_2192 _ _ hg_207
                    have hg_222 := hb_2192 _ _ hg_208
                    have hg_223 := hb_2192 _ _ hg_209
                    have hg_224 := hb_2192 _ _ hg_210
                    have hg_225 := hb_2192 _ _ hg_211
                    have hg_226 := hb_2192 _ _ hg_212
                    have hh_228 := hh_219.addIs hbE_219
                    have hd_229 := jOl.trL (hh_218.iv 1 rfl) hh_218.2.2.2.2.1 hbO_219 (by simp)
                    have hh_230 := hh_228.addI (jOl.ie (dC := dC) (dI := dI) (G0 := G0) (k := 2) (rs := [bo, ou]) (H0 := s.heap) (F := [(2, 0), (2, 1)]) (C := RX0) (T := TX0) (N := 2) rfl (by decide) hh_228.2.2.2.2.1 (hd_229))
                    clear hh_228
                    try simp only at hr_220
                    obtain ⟨hr_220_0, hr_220_1, hr_220_2, hr_220_3, hr_220_4⟩ := hr_220
                    have hh_231 := hh_230.wk (zc1 := (m_qa_219 - n_pa) / 16) (zs1 := 2 * (m_qa_219 - n_pa)) (by omega) (by omega)
                    clear hh_230
                    try clear hsz_219 htt_219 hrc_219 hrs_219
                    try clear hb_2194 hb_2195
                    obtain ⟨z_232, ez_232⟩ : ∃ y : Int32, y = v4_81 + 1 := ⟨_, rfl⟩
                    refine lv_iinc (v := z_232) (lv' := [(4, .int z_232), (3, .int 0), (0, .ref r0), (1, .ref r1), (2, .int a2)]) hx hb dX11_publish_140 hl (k := 4) rfl (by rw [ez_232]; rfl) (by decide) rfl (fun ls hl => ?_)
                    have hz_232 : z_232.toInt = v4_81.toInt + 1 := by rw [ez_232]; exact jb_iadd2 (rfl) (by decide) (by omega)
                    refine lv_goto (tgt := 75) hx hb dX11_publish_143 (by decide) ?_
                    refine W.tight (c2 := ((m_qa_219 - n_pa) / 16)) (n2 := (2 * (m_qa_219 - n_pa))) hh_231.2.2.2.2.2.1 hh_231.2.2.2.2.2.2.1 ?_
                    exact L75 G_219 ((m_qa_219 - n_pa) / 16) (2 * (m_qa_219 - n_pa)) 0 z_232 qc_219 qa_219 m_qa_219 _ _ (hh_231.sub (L1 := [(bo, 2, 1, .int qc_219), (bo, 2, 0, .ref qa_219), (r1, 3, 1, .int version_52), (r1, 3, 0, .ref uri_22), (r0, 13, 4, .ref bo), (r0, 13, 3, .ref ou)]) [0, 1, 5, 6, 7, 8] rfl (M1 := []) [] rfl (I1 := [(jFy, jYb dC dI G_219), ([(2, 0), (2, 1)], jOl (dC, dI) G0 2 [bo, ou] s.heap)]) [1, 0] rfl) (hNn_219) (((hle_81).tr hb_2042).tr hb_2192) (Or.inl rfl) hgq_219_0 (⟨(by first | omega | rfl | assumption | fail), (by first | omega | rfl | assumption | fail), (by first | omega | rfl | assumption | fail), (by first | omega | rfl | assumption | fail), (by first | assumption | fail | omega), (by first | omega | rfl | assumption | fail), (by first | omega | rfl | assumption | fail), (by first | omega | rfl | assumption | fail), (by first | omega | rfl | assumption | fail)⟩) (by omega) _ (lv_sub hl [2, 3, 4, 1, 0] rfl)
  refine W.tight (c2 := ((m_qa_66 - n_pa) / 16)) (n2 := (2 * (m_qa_66 - n_pa))) hh_79.2.2.2.2.2.1 hh_79.2.2.2.2.2.2.1 ?_
  exact L75 (40 - (0 : Int32).toInt : Int).toNat.succ G_66 ((m_qa_66 - n_pa) / 16) (2 * (m_qa_66 - n_pa)) 1 0 qc_66 qa_66 m_qa_66 _ _ hh_79 (hNn_66) (jLe.rf) (Or.inr rfl) hgq_66_0 (⟨(by first | omega | rfl | assumption | fail), (by first | omega | rfl | assumption | fail), (by first | omega | rfl | assumption | fail), (by first | omega | rfl | assumption | fail), (by first | assumption | fail | omega), (by first | omega | rfl | assumption | fail), (by first | omega | rfl | assumption | fail), (by first | omega | rfl | assumption | fail), (by first | omega | rfl | assumption | fail)⟩) (by omega) _ (lv_sub hl [2, 3, 4, 1, 0] rfl)
end
section
-- System.arraycopy of ints in a walk
section J21
variable {p : Program} {l : Launch} {e : Env} {R : Room} {s : State} {m : MethodId} {args : Array Value} {below : List Frame} {meth : Method} {c : Code} {H : Heap} {locs : List Loc} {cells slots : Nat} {Q : State → Prop}
variable {cc : ByteArray} {pc : Nat} {ls : Array Slot} {rest : List Value} {dC : Nat → ClassId} {dI : Nat → Nat → Nat} {ca : Nat → ClassId} {B : jF} {base : Nat} {G0 G : jT} {E : List (Nat × Nat)} {H0 : Heap} {zc zs : Nat} {L : List jPin} {M : List jCt} {I : List jIv} {a a0 k k0 n n0 index : Nat} {tys : List (ClassId × FieldType)} {own : String} {P P0 : Nat → Int32 → Prop} {cA : ClassId}
theorem j7_acopyi (hexec : p.tables.exec = Jvm.exec) (hb : c.code = cc) (hml : c.maxLocals = ls.size) (hown : s.vm.findClass own = some m.cls) (hlink : (Cond.methodLink own index arraycopyName).before args s = true) (hnat : (Cond.native arraycopyName).before args s = true) (hstat : (Cond.static arraycopyName).before args s = true) (hini : (Cond.initialized "java/lang/System").before args s = true)
    (hK : va_K (dC, dI) vwCl tys s) (hh : jSt (dC, dI) B base G0 G E H0 zc zs L M I H locs) (hB : jBok B) (hBk : ∀ n G a H, B k n G a H ↔ jAr (dC, dI) cA P n a H) (hBk0 : ∀ n G a H, B k0 n G a H ↔ jAr (dC, dI) cA P0 n a H) (t0 : Nat) (ht : tys[t0]? = some (cA, .int)) (hk : k < 1000) (hk0 : k0 < 1000) (hk2 : 18 ≤ k) (hE : E.contains (k, 0) = true) (hM : M.all (fun q => !(q.2.1 == k)) = true) (hI : I.all (fun q => !(q.1.contains (k, 0))) = true) (ha0 : G a0 = some (k0, n0)) (ha : G a = some (k, n))
    {sp dp w : Int32} {x y z : Int} (hx : sp.toInt = x) (hy : dp.toInt = y) (hz : w.toInt = z) (h1 : 0 ≤ x ∧ 0 ≤ y ∧ 0 ≤ z ∧ x + z ≤ n0 ∧ y + z ≤ n) (hP : ∀ (i : Nat) (v : Int32), P0 (x.toNat + i) v → P (y.toNat + i) v)
    (hframes : 1 ≤ R.frames) (hlocals : (rest.map fun v => v.category).sum + (nativeFrameWords "java/lang/System" "arraycopy" 5 + 11) ≤ R.locals) (hdg : decode cc pc = .ok (.invokestatic index, 3))
    (kk : ∀ (H1 : Heap) (locs1 : List Loc), (∀ q, q ≠ a → H1[q]? = H[q]?) → jSt (dC, dI) B base G0 G E H0 zc zs L M I H1 locs1 → W p l e R s m args below meth c H1 locs1 cells slots Q (F0 m (pc + 3) ls rest)) : W p l e R s m args below meth c H locs cells slots Q (F0 m pc ls (.int w :: .int dp :: .ref a :: .int sp :: .ref a0 :: rest)) := by
  obtain ⟨q1, q2, q3, q4, q5⟩ := h1
  obtain ⟨f, f1, f2⟩ := hh.ar hBk0 hk0 ha0
  obtain ⟨g, g1, g2⟩ := hh.ar hBk hk ha
  have s0 : ¬ sp < 0 := jb_n0 hx q1
  have d0 : ¬ dp < 0 := jb_n0 hy q2
  have w0 : ¬ w < 0 := jb_n0 hz q3
  have es : sp.toNatClampNeg = x.toNat := jb_cl hx q1
  have ed : dp.toNatClampNeg = y.toNat := jb_cl hy q2
  have ew : w.toNatClampNeg = z.toNat := jb_cl hz q3
  have h4 : sp.toNatClampNeg + w.toNatClampNeg ≤ n0 := by rw [es, ew]; omega
  have c0 : H[a0]? = some (vp_cell cA (n0, .inl f)) := f1
  have c1 : H[a]? = some (vp_cell cA (n, .inl g)) := g1
  intro T hT X
  obtain ⟨-, k9, hk9, cm9, hkk9⟩ := (hK.2 t0 _ ht).1 n0 (fun j => .int (f j))
  obtain ⟨-, k8, hk8, cm8, hkk8⟩ := (hK.2 t0 _ ht).1 n (fun j => .int (g j))
  obtain ⟨vm', X', step⟩ := X.arraycopy hexec hown hlink hnat hstat hini (src := a0) (dst := a) (cs := vp_cell cA (n0, .inl f)) (cd := vp_cell cA (n, .inl g)) (srcPos := sp) (destPos := dp) (n := w) (by rw [hT]; exact c0) (by rw [hT]; exact c1)
    (fun _ h => by cases h) (fun _ h => by cases h) (fun h => by cases h) (fun h => by cases h) hk9 hk8 hkk9 hkk8 (by simp [refKind]) s0 d0 w0
    (by rw [hx, hz]; show ¬ _ > ((arrV cA n0 (fun j => .int (f j))).slots.size : Int); rw [arrV_size]; omega)
    (by rw [hy, hz]; show ¬ _ > ((arrV cA n (fun j => .int (g j))).slots.size : Int); rw [arrV_size]; omega)
    (fun vm₁ _ i hi => by
      have e9 : (vp_cell cA (n0, .inl f)).slots.getD (sp.toNatClampNeg + i) .null = .int (f (sp.toNatClampNeg + i)) := by
        show (arrV cA n0 (fun j => .int (f j))).slots.getD _ _ = _
        rw [Array.getD_eq_getD_getElem?, arrV_read _ _ (by omega)]
        rfl
      rw [e9]
      exact ⟨rfl, trivial⟩)
    (g := F0 m pc ls (.int w :: .int dp :: .ref a :: .int sp :: .ref a0 :: rest)) rfl (by rw [hml]) (rest := rest) rfl (by rw [hb]; exact hdg) hframes (by show 2 * 0 + _ + _ ≤ _; omega)
  have e1 : copied (vp_cell cA (n0, .inl f)) (vp_cell cA (n, .inl g)) sp dp w = vp_cell cA (n, .inl (va_cpy f g sp.toNatClampNeg dp.toNatClampNeg w.toNatClampNeg)) := va_copied (fun z => .int z) cA cA f g h4
  rw [e1] at X' step
  have hl : a < H.size := (Array.getElem?_eq_some_iff.mp c1).1
  have hheap : ((T.setVm vm').setCell a (vp_cell cA (n, .inl (va_cpy f g sp.toNatClampNeg dp.toNatClampNeg w.toNatClampNeg)))).heap = H.setIfInBounds a (vp_cell cA (n, .inl (va_cpy f g sp.toNatClampNeg dp.toNatClampNeg w.toNatClampNeg))) := by rw [← hT]; rfl
  have oq : ∀ q : Nat, q ≠ a → (H.setIfInBounds a (vp_cell cA (n, .inl (va_cpy f g sp.toNatClampNeg dp.toNatClampNeg w.toNatClampNeg))))[q]? = H[q]? := fun q hq => by simp [Array.getElem?_setIfInBounds, Ne.symm hq]
  have ha1 : (H.setIfInBounds a (vp_cell cA (n, .inl (va_cpy f g sp.toNatClampNeg dp.toNatClampNeg w.toNatClampNeg))))[a]? = some (vp_cell cA (n, .inl (va_cpy f g sp.toNatClampNeg dp.toNatClampNeg w.toNatClampNeg))) := by simp [Array.getElem?_setIfInBounds, hl]
  have hsz : (H.setIfInBounds a (vp_cell cA (n, .inl (va_cpy f g sp.toNatClampNeg dp.toNatClampNeg w.toNatClampNeg)))).size = H.size := by simp
  obtain ⟨t, a1, b1⟩ := kk _ _ oq (hh.arr hB ha hk hk2 hE hM hI hsz oq (jTot_set hsz c1 ha1 (by rw [vp_cell_i, vp_cell_i, arrV_size, arrV_size]) oq) (fun q hq => by
      rcases List.mem_append.mp hq with h | h
      · exact hh.1.2.2 q h
      · obtain ⟨z9, -, hz9⟩ := List.mem_map.mp h
        rw [← hz9]
        exact (hh.ab ha).1) ((hBk _ _ _ _).mpr ⟨_, ha1, fun j hj => by
      show P j (va_cpy f g sp.toNatClampNeg dp.toNatClampNeg w.toNatClampNeg j)
      unfold va_cpy
      split
      · rename_i hc
        have h9 := f2 (sp.toNatClampNeg + (j - dp.toNatClampNeg)) (by omega)
        have e9 : dp.toNatClampNeg + (j - dp.toNatClampNeg) = j := by omega
        have h8 := hP (j - dp.toNatClampNeg) (f (sp.toNatClampNeg + (j - dp.toNatClampNeg)))
        rw [← es, ← ed, e9] at h8
        exact h8 h9
      · exact g2 j hj⟩)) _ hheap X'
  exact ⟨t, step t a1, b1⟩
theorem j7_iastF (hexec : p.tables.exec = Jvm.exec) (hb : c.code = cc) (hK : va_K (dC, dI) vwCl tys s) (hh : jSt (dC, dI) B base G0 G E H0 zc zs L M I H locs) (hB : jBok B) (hBk : ∀ n G a H, B k n G a H ↔ jAr (dC, dI) cA P n a H) (t0 : Nat) (ht : tys[t0]? = some (cA, .int)) (hk : k < 1000) (hk2 : 18 ≤ k) (hE : E.contains (k, 0) = true) (hM : M.all (fun q => !(q.2.1 == k)) = true) (hI : I.all (fun q => !(q.1.contains (k, 0))) = true) (ha : G a = some (k, n)) {i v : Int32} {x : Int} (hi : i.toInt = x) (h12 : 0 ≤ x ∧ x < n) (hv : P x.toNat v) (hdg : decode cc pc = .ok (.iastore, 1))
    (kk : ∀ (H1 : Heap) (locs1 : List Loc), (∀ q, q ≠ a → H1[q]? = H[q]?) → jSt (dC, dI) B base G0 G E H0 zc zs L M I H1 locs1 → W p l e R s m args below meth c H1 locs1 cells slots Q (F0 m (pc + 1) ls rest)) : W p l e R s m args below meth c H locs cells slots Q (F0 m pc ls (.int v :: .int i :: .ref a :: rest)) := by
  obtain ⟨h1, h2⟩ := h12
  obtain ⟨f, g1, g2⟩ := hh.ar hBk hk ha
  exact j_iast (A := jA base) hexec hb hK t0 g1 (hh.ab ha).1 hh.1.2.2 ht (jb_in hi h1 h2) hdg (fun H1 locs1 hat hsz hfr hT hL => kk H1 locs1 hfr (hh.arr hB ha hk hk2 hE hM hI hsz hfr hT hL ((hBk _ _ _ _).mpr ⟨_, hat, jAr_upd g2 hi h1 hv⟩)))
end J21
end
section
theorem dJ7_fill_53178_0 : decode cJ7_fill_53178 0 = .ok (.iconst 0, 1) := by decide +kernel
theorem dJ7_fill_53178_1 : decode cJ7_fill_53178 1 = .ok (.istore_n 2, 1) := by decide +kernel
theorem dJ7_fill_53178_2 : decode cJ7_fill_53178 2 = .ok (.aload_n 0, 1) := by decide +kernel
theorem dJ7_fill_53178_3 : decode cJ7_fill_53178 3 = .ok (.arraylength, 1) := by decide +kernel
theorem dJ7_fill_53178_4 : decode cJ7_fill_53178 4 = .ok (.istore_n 3, 1) := by decide +kernel
theorem dJ7_fill_53178_5 : decode cJ7_fill_53178 5 = .ok (.iload_n 2, 1) := by decide +kernel
theorem dJ7_fill_53178_6 : decode cJ7_fill_53178 6 = .ok (.iload_n 3, 1) := by decide +kernel
theorem dJ7_fill_53178_7 : decode cJ7_fill_53178 7 = .ok (.if_icmp .ge 13, 3) := by decide +kernel
theorem dJ7_fill_53178_10 : decode cJ7_fill_53178 10 = .ok (.aload_n 0, 1) := by decide +kernel
theorem dJ7_fill_53178_11 : decode cJ7_fill_53178 11 = .ok (.iload_n 2, 1) := by decide +kernel
theorem dJ7_fill_53178_12 : decode cJ7_fill_53178 12 = .ok (.iload_n 1, 1) := by decide +kernel
theorem dJ7_fill_53178_13 : decode cJ7_fill_53178 13 = .ok (.iastore, 1) := by decide +kernel
theorem dJ7_fill_53178_14 : decode cJ7_fill_53178 14 = .ok (.iinc 2 1, 3) := by decide +kernel
theorem dJ7_fill_53178_17 : decode cJ7_fill_53178 17 = .ok (.goto (-12), 3) := by decide +kernel
theorem dJ7_fill_53178_20 : decode cJ7_fill_53178 20 = .ok (.return_, 1) := by decide +kernel
end
section
theorem dX9_longer_0 : decode cX9_longer 0 = .ok (.aload_n 0, 1) := by decide +kernel
theorem dX9_longer_1 : decode cX9_longer 1 = .ok (.aload_n 0, 1) := by decide +kernel
theorem dX9_longer_2 : decode cX9_longer 2 = .ok (.arraylength, 1) := by decide +kernel
theorem dX9_longer_3 : decode cX9_longer 3 = .ok (.iconst 1, 1) := by decide +kernel
theorem dX9_longer_4 : decode cX9_longer 4 = .ok (.iadd, 1) := by decide +kernel
theorem dX9_longer_5 : decode cX9_longer 5 = .ok (.invokestatic 43, 3) := by decide +kernel
theorem dX9_longer_8 : decode cX9_longer 8 = .ok (.astore_n 2, 1) := by decide +kernel
theorem dX9_longer_9 : decode cX9_longer 9 = .ok (.aload_n 2, 1) := by decide +kernel
theorem dX9_longer_10 : decode cX9_longer 10 = .ok (.aload_n 0, 1) := by decide +kernel
theorem dX9_longer_11 : decode cX9_longer 11 = .ok (.arraylength, 1) := by decide +kernel
theorem dX9_longer_12 : decode cX9_longer 12 = .ok (.iload_n 1, 1) := by decide +kernel
theorem dX9_longer_13 : decode cX9_longer 13 = .ok (.iastore, 1) := by decide +kernel
theorem dX9_longer_14 : decode cX9_longer 14 = .ok (.aload_n 2, 1) := by decide +kernel
theorem dX9_longer_15 : decode cX9_longer 15 = .ok (.areturn, 1) := by decide +kernel
theorem dX9_longer__0 : decode cX9_longer_ 0 = .ok (.aload_n 0, 1) := by decide +kernel
theorem dX9_longer__1 : decode cX9_longer_ 1 = .ok (.arraylength, 1) := by decide +kernel
theorem dX9_longer__2 : decode cX9_longer_ 2 = .ok (.iconst 1, 1) := by decide +kernel
theorem dX9_longer__3 : decode cX9_longer_ 3 = .ok (.iadd, 1) := by decide +kernel
theorem dX9_longer__4 : decode cX9_longer_ 4 = .ok (.anewarray 18, 3) := by decide +kernel
theorem dX9_longer__7 : decode cX9_longer_ 7 = .ok (.astore_n 2, 1) := by decide +kernel
theorem dX9_longer__8 : decode cX9_longer_ 8 = .ok (.iconst 0, 1) := by decide +kernel
theorem dX9_longer__9 : decode cX9_longer_ 9 = .ok (.istore_n 3, 1) := by decide +kernel
theorem dX9_longer__10 : decode cX9_longer_ 10 = .ok (.iload_n 3, 1) := by decide +kernel
theorem dX9_longer__11 : decode cX9_longer_ 11 = .ok (.aload_n 0, 1) := by decide +kernel
theorem dX9_longer__12 : decode cX9_longer_ 12 = .ok (.arraylength, 1) := by decide +kernel
theorem dX9_longer__13 : decode cX9_longer_ 13 = .ok (.if_icmp .ge 15, 3) := by decide +kernel
theorem dX9_longer__16 : decode cX9_longer_ 16 = .ok (.aload_n 2, 1) := by decide +kernel
theorem dX9_longer__17 : decode cX9_longer_ 17 = .ok (.iload_n 3, 1) := by decide +kernel
theorem dX9_longer__18 : decode cX9_longer_ 18 = .ok (.aload_n 0, 1) := by decide +kernel
theorem dX9_longer__19 : decode cX9_longer_ 19 = .ok (.iload_n 3, 1) := by decide +kernel
theorem dX9_longer__20 : decode cX9_longer_ 20 = .ok (.aaload, 1) := by decide +kernel
theorem dX9_longer__21 : decode cX9_longer_ 21 = .ok (.aastore, 1) := by decide +kernel
theorem dX9_longer__22 : decode cX9_longer_ 22 = .ok (.iinc 3 1, 3) := by decide +kernel
theorem dX9_longer__25 : decode cX9_longer_ 25 = .ok (.goto (-15), 3) := by decide +kernel
theorem dX9_longer__28 : decode cX9_longer_ 28 = .ok (.aload_n 2, 1) := by decide +kernel
theorem dX9_longer__29 : decode cX9_longer_ 29 = .ok (.aload_n 0, 1) := by decide +kernel
theorem dX9_longer__30 : decode cX9_longer_ 30 = .ok (.arraylength, 1) := by decide +kernel
theorem dX9_longer__31 : decode cX9_longer_ 31 = .ok (.aload_n 1, 1) := by decide +kernel
theorem dX9_longer__32 : decode cX9_longer_ 32 = .ok (.aastore, 1) := by decide +kernel
theorem dX9_longer__33 : decode cX9_longer_ 33 = .ok (.aload_n 2, 1) := by decide +kernel
theorem dX9_longer__34 : decode cX9_longer_ 34 = .ok (.areturn, 1) := by decide +kernel
theorem dJ7_copyOf_59c91_0 : decode cJ7_copyOf_59c91 0 = .ok (.iload_n 1, 1) := by decide +kernel
theorem dJ7_copyOf_59c91_1 : decode cJ7_copyOf_59c91 1 = .ok (.aload_n 0, 1) := by decide +kernel
theorem dJ7_copyOf_59c91_2 : decode cJ7_copyOf_59c91 2 = .ok (.arraylength, 1) := by decide +kernel
theorem dJ7_copyOf_59c91_3 : decode cJ7_copyOf_59c91 3 = .ok (.if_icmp .ne 11, 3) := by decide +kernel
theorem dJ7_copyOf_59c91_14 : decode cJ7_copyOf_59c91 14 = .ok (.iload_n 1, 1) := by decide +kernel
theorem dJ7_copyOf_59c91_15 : decode cJ7_copyOf_59c91 15 = .ok (.newarray .int, 2) := by decide +kernel
theorem dJ7_copyOf_59c91_17 : decode cJ7_copyOf_59c91 17 = .ok (.astore_n 2, 1) := by decide +kernel
theorem dJ7_copyOf_59c91_18 : decode cJ7_copyOf_59c91 18 = .ok (.aload_n 0, 1) := by decide +kernel
theorem dJ7_copyOf_59c91_19 : decode cJ7_copyOf_59c91 19 = .ok (.iconst 0, 1) := by decide +kernel
theorem dJ7_copyOf_59c91_20 : decode cJ7_copyOf_59c91 20 = .ok (.aload_n 2, 1) := by decide +kernel
theorem dJ7_copyOf_59c91_21 : decode cJ7_copyOf_59c91 21 = .ok (.iconst 0, 1) := by decide +kernel
theorem dJ7_copyOf_59c91_22 : decode cJ7_copyOf_59c91 22 = .ok (.aload_n 0, 1) := by decide +kernel
theorem dJ7_copyOf_59c91_23 : decode cJ7_copyOf_59c91 23 = .ok (.arraylength, 1) := by decide +kernel
theorem dJ7_copyOf_59c91_24 : decode cJ7_copyOf_59c91 24 = .ok (.iload_n 1, 1) := by decide +kernel
theorem dJ7_copyOf_59c91_25 : decode cJ7_copyOf_59c91 25 = .ok (.invokestatic 304, 3) := by decide +kernel
theorem dJ7_copyOf_59c91_28 : decode cJ7_copyOf_59c91 28 = .ok (.invokestatic 150, 3) := by decide +kernel
theorem dJ7_copyOf_59c91_31 : decode cJ7_copyOf_59c91 31 = .ok (.aload_n 2, 1) := by decide +kernel
theorem dJ7_copyOf_59c91_32 : decode cJ7_copyOf_59c91 32 = .ok (.areturn, 1) := by decide +kernel
def EJ7_copyOf_59c91 : List (Nat × Nat) := [(101, 0)]
def EX9_longer : List (Nat × Nat) := [(101, 0)]
set_option maxHeartbeats 4000000 in
set_option maxRecDepth 20000 in
theorem uJ7_copyOf_59c91 (l : Launch) (dC : Nat → ClassId) (dI : Nat → Nat → Nat) (ca : Nat → ClassId) (base : Nat) (B : jF) (hB : jBok B) (hAp : jAp (dC, dI)) (hB101 : ∀ n G a H, B 101 n G a H ↔ jAr (dC, dI) (ca 1) (fun j z => True) n a H) (G0 : jT) (H0 : Heap) (r0 : Nat) (a1 : Int32) (n0 : Nat) (LC LS : Nat) : Met l yJ7_copyOf_59c91 (jw yJ7_copyOf_59c91 cJ7_copyOf_59c91 3 (some (.array .int))) ({ frames := 1, cells := LC - H0.size, slots := LS - jTot H0, locals := 61 }) (va_Pc [.ref r0, .int a1] (fun U => U.heap = H0 ∧ jX B base G0 [] H0 ∧ jG dC dI ca base U ∧ G0 r0 = some (101, n0) ∧ jP (dC, dI) G0 H0 [] ∧ H0.size + 1 ≤ LC ∧ jTot H0 + a1.toInt.toNat ≤ LS ∧ 0 ≤ a1.toInt ∧ a1.toInt ≤ 3000 ∧ n0 ≤ 3000 ∧ a1.toInt ≠ n0)) (jQx (S := Nat × jT) (fun v u => jRf u.2 101 u.1 v ∧ jNwv v H0 ∧ u.1 = a1.toInt) (fun u t => jRa (dC, dI) B base G0 u.2 EJ7_copyOf_59c91 H0 (1) (u.1) [] t.heap ∧ (jNk [0, 1, 2, 3, 4, 5, 6, 7, 8, 9, 10, 11, 12, 13, 14, 15, 16, 17, 175]) G0 u.2 ∧ jKe G0 u.2 H0 t.heap) (jA base)) (LC - H0.size) (LS - jTot H0) (jA base) := by
  refine Met.ofW (cc := cJ7_copyOf_59c91) (maxL := 3) (ret := (some (.array .int))) (by decide) rfl ?_
  intro p e s m args below meth c s₁ Bd hml hv
  obtain ⟨rfl, hH0, hX, hG, hg_r0, hP0, hLC0, hLS0, hp0, hp1, hp2, hp3⟩ := hv
  have hK := hG.1
  have hx := Bd.exec
  have hb := Bd.bytes
  have hr := Bd.returns
  have hts := atoms_spec (ws := (jw yJ7_copyOf_59c91 cJ7_copyOf_59c91 3 (some (.array .int)))) Bd.pre
  have htw : ∀ w ∈ jWl, w.before _ s = true := fun w h => hts w (List.mem_cons_of_mem _ h)
  have hown : s.vm.findClass RJ7 = some m.cls := findClass_of_methodNamed Bd.named
  have hlocks := Bd.notSynchronized
  obtain ⟨Q, hQ⟩ : ∃ Q, Q = MQ below (jQx (S := Nat × jT) (fun v u => jRf u.2 101 u.1 v ∧ jNwv v H0 ∧ u.1 = a1.toInt) (fun u t => jRa (dC, dI) B base G0 u.2 EJ7_copyOf_59c91 H0 (1) (u.1) [] t.heap ∧ (jNk [0, 1, 2, 3, 4, 5, 6, 7, 8, 9, 10, 11, 12, 13, 14, 15, 16, 17, 175]) G0 u.2 ∧ jKe G0 u.2 H0 t.heap) (jA base)) ([.ref r0, .int a1] : List Value).toArray s (LC - H0.size) (LS - jTot H0) (jA base) := ⟨_, rfl⟩
  rw [← hQ]
  have hl := lv_entry ([.ref r0, .int a1]) (n := 3) (Nat.le_of_ble_eq_true rfl)
  rw [lg_entry_eq]
  generalize (lg_sl ([.ref r0, .int a1]) ++ List.replicate (3 - (lg_sl ([.ref r0, .int a1])).length) Slot.unset).toArray = ls at hl ⊢
  have hl : lv_has ls 3 [(0, .ref r0), (1, .int a1)] := hl
  generalize hR : (headSpec (jw yJ7_copyOf_59c91 cJ7_copyOf_59c91 3 (some (.array .int))) ({ frames := 1, cells := LC - H0.size, slots := LS - jTot H0, locals := 61 })).room = R
  subst hH0
  have hh : jSt (dC, dI) B base G0 G0 EJ7_copyOf_59c91 s.heap 0 0 [] [] [] s.heap [] := jSt.start hX hP0 jMc.nil jIs.nil
  clear hX hP0
  have hk0 : (0 : Int32).toInt = 0 := by decide
  have hk1 : (1 : Int32).toInt = 1 := by decide
  have hrg_a1 := jb_rng a1
  have hbs : base ≤ s.heap.size := Nat.le_of_lt (Nat.lt_of_le_of_lt (hh.ab hg_r0).1 (hh.ab hg_r0).2)
  have hRc : R.cells = LC - s.heap.size := by rw [← hR]; rfl
  have hRs : R.slots = LS - jTot s.heap := by rw [← hR]; rfl
  have hkp : jKe G0 G0 s.heap s.heap := jKe.rf
  refine lv_iload_n hx hb dJ7_copyOf_59c91_0 rfl (lv_at hl 1 rfl) ?_
  refine lv_aload_n hx hb dJ7_copyOf_59c91_1 rfl (lv_at hl 0 rfl) ?_
  refine j7_len hx hb hK hh hB101 1 rfl (by decide) hg_r0 (by omega) dJ7_copyOf_59c91_2 (fun z_1 hz_1 => ?_)
  refine lv_icmp_ne (tgt := 14) hx hb dJ7_copyOf_59c91_3 (by decide) (fun c_2 => ?_) (fun c_2 => ?_)
  · skip
    have c_2' : a1.toInt ≠ z_1.toInt := jb_ne (rfl) (rfl) c_2
    refine lv_iload_n hx hb dJ7_copyOf_59c91_14 rfl (lv_at hl 1 rfl) ?_
    have hsz_3 := hh.2.2.2.2.2.1
    have htt_3 := hh.2.2.2.2.2.2.1
    refine j7_newiK hx hb hK hh hB (atype := .int) (ty := .int) (htw (.arrayClass .int) (jWr_3 _ (List.mem_of_getElem? (i := 20) rfl))) rfl rfl (fun _ h => h) hB101 1 rfl (by decide) (by decide) hbs (x := a1.toInt) rfl (by omega) (fun j => by first | trivial | decide | rfl | exact Or.inl rfl | (refine ⟨?_, ?_⟩ <;> decide)) (by rw [hRc]; omega) (by rw [hRs]; omega) dJ7_copyOf_59c91_15 (fun H_3 hfr_3 hh_3 => ?_)
    have hh_3 : jSt (dC, dI) B base G0 (va_up G0 s.heap.size (some (101, (a1.toInt).toNat))) EJ7_copyOf_59c91 s.heap (0 + 1) (0 + (a1.toInt).toNat) [] [] [] H_3 [] := hh_3
    have hN_3 : (jNk [0, 1, 2, 3, 4, 5, 6, 7, 8, 9, 10, 11, 12, 13, 14, 15, 16, 17, 175]) G0 (va_up G0 s.heap.size (some (101, (a1.toInt).toNat))) := jNk.new (by decide)
    have hgn_3 : (va_up G0 s.heap.size (some (101, (a1.toInt).toNat))) s.heap.size = some (101, (a1.toInt).toNat) := jUp_self
    have hle_3 : jLe G0 (va_up G0 s.heap.size (some (101, (a1.toInt).toNat))) := jLe.new hh.2.1.fresh
    have hke_3 : jKe G0 (va_up G0 s.heap.size (some (101, (a1.toInt).toNat))) s.heap H_3 := jKe.new hfr_3
    have hsy_3 : s.heap.size ≤ s.heap.size := hh.1.1
    generalize (va_up G0 s.heap.size (some (101, (a1.toInt).toNat))) = G_3 at hN_3 hgn_3 hle_3 hke_3 hh_3
    generalize hnc_3 : (a1.toInt).toNat = nc_3 at hgn_3 hh_3 ⊢
    clear hh
    have hNn_3 : (jNk [0, 1, 2, 3, 4, 5, 6, 7, 8, 9, 10, 11, 12, 13, 14, 15, 16, 17, 175]) G0 G_3 := (jNk.rf).tr hN_3
    have hg_4 := hle_3 _ _ hg_r0
    have hkp_5 := hkp.tr hke_3
    refine lv_astore_n (lv' := [(2, .ref s.heap.size), (0, .ref r0), (1, .int a1)]) hx hb dJ7_copyOf_59c91_17 rfl hl (by decide) rfl (fun ls hl => ?_)
    refine lv_aload_n hx hb dJ7_copyOf_59c91_18 rfl (lv_at hl 1 rfl) ?_
    refine lv_iconst (v := 0) hx hb dJ7_copyOf_59c91_19 (by decide) ?_
    refine lv_aload_n hx hb dJ7_copyOf_59c91_20 rfl (lv_at hl 0 rfl) ?_
    refine lv_iconst (v := 0) hx hb dJ7_copyOf_59c91_21 (by decide) ?_
    refine lv_aload_n hx hb dJ7_copyOf_59c91_22 rfl (lv_at hl 1 rfl) ?_
    refine j7_len hx hb hK hh_3 hB101 1 rfl (by decide) hg_4 (by omega) dJ7_copyOf_59c91_23 (fun z_6 hz_6 => ?_)
    refine lv_iload_n hx hb dJ7_copyOf_59c91_24 rfl (lv_at hl 2 rfl) ?_
    have hsz_7 := hh_3.2.2.2.2.2.1
    have htt_7 := hh_3.2.2.2.2.2.2.1
    refine W.room (fun hrc_7 hrs_7 => ?_)
    refine va_mmin hx hb (by rw [hml]; exact hl.1.symm) hown (htw (.methodLink RJ7 304 Lib.Math.min.name) (jWr_16 _ (List.mem_of_getElem? (i := 15) rfl))) (htw (.static Lib.Math.min.name) (jWr_16 _ (List.mem_of_getElem? (i := 16) rfl))) (htw (.initialized "java/lang/Math") (jWr_3 _ (List.mem_of_getElem? (i := 7) rfl))) (htw (.code Lib.Math.min.name Lib.Math.min.code 2 (some .int)) (jWr_16 _ (List.mem_of_getElem? (i := 17) rfl))) (by rw [← hR]; exact Nat.le_of_ble_eq_true rfl) (by rw [← hR]; exact Nat.le_of_ble_eq_true rfl) (by rw [hRc]; omega) (by rw [hRs]; omega) dJ7_copyOf_59c91_25 ?_
    refine lv_topi (fun z_8 ez_8 => ?_)
    have hz_8 := jb_min ez_8
    refine j7_acopyi hx hb (by rw [hml]; exact hl.1.symm) hown (htw (.methodLink RJ7 150 arraycopyName) (jWr_16 _ (List.mem_of_getElem? (i := 18) rfl))) (htw (.native arraycopyName) (jWr_16 _ (List.mem_of_getElem? (i := 19) rfl))) (htw (.static arraycopyName) (jWr_16 _ (List.mem_of_getElem? (i := 20) rfl))) (htw (.initialized "java/lang/System") (jWr_16 _ (List.mem_of_getElem? (i := 21) rfl))) hK hh_3 hB hB101 hB101 1 rfl (by decide) (by decide) (by decide) rfl rfl rfl hg_4 hgn_3 (x := 0) (y := 0) (z := z_8.toInt) (by decide) (by decide) rfl (by omega) (fun _ _ _ => trivial) (by rw [← hR]; exact Nat.le_of_ble_eq_true rfl) (by rw [← hR]; exact Nat.le_of_ble_eq_true rfl) dJ7_copyOf_59c91_28 (fun H_9 locs_9 hr_9 hh_9 => ?_)
    have hkp_10 := hkp_5.st hsy_3 hr_9
    clear hr_9
    clear hh_3
    refine lv_aload_n hx hb dJ7_copyOf_59c91_31 rfl (lv_at hl 0 rfl) ?_
    have hsz_11 := hh_9.2.2.2.2.2.1
    have htt_11 := hh_9.2.2.2.2.2.2.1
    refine W.room (fun hrc_11 hrs_11 => ?_)
    refine W.widen (k := LC - s.heap.size) (n := LS - jTot s.heap) (by omega) (by omega) ?_
    rw [hQ]
    exact W.aret (v := .ref s.heap.size) hx hb hr (Or.inr ⟨_, rfl⟩) (Or.inr ⟨_, rfl⟩) (fun t ht hW => ⟨⟨.ref s.heap.size, (nc_3, G_3), rfl, ⟨⟨_, rfl, hgn_3⟩, ⟨_, rfl, hsy_3⟩, by (try dsimp only); first | omega | rfl | assumption | fail⟩, ⟨hh_9.ra (by first | omega | (simp only; omega)) (by first | omega | (simp only; omega)) (M1 := []) [] rfl ht, hNn_3, by rw [ht]; exact hkp_10⟩⟩, by rw [ht]; try exact hh_9.1.1, fun q h9 hq => by rw [ht]; try exact hh_9.1.2.1 q h9 hq⟩) hh_9.1.2.2 dJ7_copyOf_59c91_32
  · skip
    have c_2' : a1.toInt = z_1.toInt := jb_ne_n (rfl) (rfl) c_2
    exact absurd c_2' (by omega)
set_option maxHeartbeats 4000000 in
set_option maxRecDepth 20000 in
theorem uX9_longer (l : Launch) (dC : Nat → ClassId) (dI : Nat → Nat → Nat) (ca : Nat → ClassId) (base : Nat) (B : jF) (hB : jBok B) (hAp : jAp (dC, dI)) (hB101 : ∀ n G a H, B 101 n G a H ↔ jAr (dC, dI) (ca 1) (fun j z => True) n a H) (G0 : jT) (H0 : Heap) (r0 : Nat) (a1 : Int32) (n0 : Nat) (LC LS : Nat) : Met l yX9_longer (jw yX9_longer cX9_longer 3 (some (.array .int))) ({ frames := 2, cells := LC - H0.size, slots := LS - jTot H0, locals := 83 }) (va_Pc [.ref r0, .int a1] (fun U => U.heap = H0 ∧ jX B base G0 [] H0 ∧ jG dC dI ca base U ∧ G0 r0 = some (101, n0) ∧ jP (dC, dI) G0 H0 [] ∧ H0.size + 1 ≤ LC ∧ jTot H0 + n0 + 1 ≤ LS ∧ n0 ≤ 100)) (jQx (S := Nat × jT) (fun v u => jRf u.2 101 u.1 v ∧ jNwv v H0 ∧ u.1 = n0 + 1) (fun u t => jRa (dC, dI) B base G0 u.2 EX9_longer H0 (1) (u.1) [] t.heap ∧ (jNk [0, 1, 2, 3, 4, 5, 6, 7, 8, 9, 10, 11, 12, 13, 14, 15, 16, 17, 175]) G0 u.2 ∧ jKe G0 u.2 H0 t.heap) (jA base)) (LC - H0.size) (LS - jTot H0) (jA base) := by
  refine Met.ofW (cc := cX9_longer) (maxL := 3) (ret := (some (.array .int))) (by decide) rfl ?_
  intro p e s m args below meth c s₁ Bd hml hv
  obtain ⟨rfl, hH0, hX, hG, hg_r0, hP0, hLC0, hLS0, hp0⟩ := hv
  have hK := hG.1
  have hx := Bd.exec
  have hb := Bd.bytes
  have hr := Bd.returns
  have hts := atoms_spec (ws := (jw yX9_longer cX9_longer 3 (some (.array .int)))) Bd.pre
  have htw : ∀ w ∈ jWl, w.before _ s = true := fun w h => hts w (List.mem_cons_of_mem _ h)
  have hown : s.vm.findClass RX9 = some m.cls := findClass_of_methodNamed Bd.named
  have hlocks := Bd.notSynchronized
  obtain ⟨Q, hQ⟩ : ∃ Q, Q = MQ below (jQx (S := Nat × jT) (fun v u => jRf u.2 101 u.1 v ∧ jNwv v H0 ∧ u.1 = n0 + 1) (fun u t => jRa (dC, dI) B base G0 u.2 EX9_longer H0 (1) (u.1) [] t.heap ∧ (jNk [0, 1, 2, 3, 4, 5, 6, 7, 8, 9, 10, 11, 12, 13, 14, 15, 16, 17, 175]) G0 u.2 ∧ jKe G0 u.2 H0 t.heap) (jA base)) ([.ref r0, .int a1] : List Value).toArray s (LC - H0.size) (LS - jTot H0) (jA base) := ⟨_, rfl⟩
  rw [← hQ]
  have hl := lv_entry ([.ref r0, .int a1]) (n := 3) (Nat.le_of_ble_eq_true rfl)
  rw [lg_entry_eq]
  generalize (lg_sl ([.ref r0, .int a1]) ++ List.replicate (3 - (lg_sl ([.ref r0, .int a1])).length) Slot.unset).toArray = ls at hl ⊢
  have hl : lv_has ls 3 [(0, .ref r0), (1, .int a1)] := hl
  generalize hR : (headSpec (jw yX9_longer cX9_longer 3 (some (.array .int))) ({ frames := 2, cells := LC - H0.size, slots := LS - jTot H0, locals := 83 })).room = R
  subst hH0
  have hh : jSt (dC, dI) B base G0 G0 EX9_longer s.heap 0 0 [] [] [] s.heap [] := jSt.start hX hP0 jMc.nil jIs.nil
  clear hX hP0
  have hk0 : (0 : Int32).toInt = 0 := by decide
  have hk1 : (1 : Int32).toInt = 1 := by decide
  have hrg_a1 := jb_rng a1
  have hbs : base ≤ s.heap.size := Nat.le_of_lt (Nat.lt_of_le_of_lt (hh.ab hg_r0).1 (hh.ab hg_r0).2)
  have hRc : R.cells = LC - s.heap.size := by rw [← hR]; rfl
  have hRs : R.slots = LS - jTot s.heap := by rw [← hR]; rfl
  have hkp : jKe G0 G0 s.heap s.heap := jKe.rf
  refine lv_aload_n hx hb dX9_longer_0 rfl (lv_at hl 0 rfl) ?_
  refine lv_aload_n hx hb dX9_longer_1 rfl (lv_at hl 0 rfl) ?_
  refine j7_len hx hb hK hh hB101 1 rfl (by decide) hg_r0 (by omega) dX9_longer_2 (fun z_1 hz_1 => ?_)
  refine lv_iconst (v := 1) hx hb dX9_longer_3 (by decide) ?_
  refine lv_iadd hx hb dX9_longer_4 ?_
  refine lv_topi (fun z_2 ez_2 => ?_)
  have hz_2 : z_2.toInt = z_1.toInt + 1 := by rw [ez_2]; exact jb_iadd2 (rfl) ((by decide)) (by omega)
  have hsz_3 := hh.2.2.2.2.2.1
  have htt_3 := hh.2.2.2.2.2.2.1
  refine W.room (fun hrc_3 hrs_3 => ?_)
  refine j_callx (A0 := jA base) (H0 := s.heap) (va_runS (As := [.ref r0, .int z_2]) (rest := []) ⟨hx, hb, hml, hown, hts⟩ (uJ7_copyOf_59c91 l dC dI ca base B hB hAp hB101 G0 s.heap r0 z_2 n0 LC LS) (va_cwS 2 hts (jgS (jWr_81 _ (List.mem_of_getElem? (i := 22) rfl)) (jWr_81 _ (List.mem_of_getElem? (i := 23) rfl)) (jWr_16 _ (List.mem_of_getElem? (i := 7) rfl)) (jWr_82 _ (List.mem_of_getElem? (i := 0) rfl))) rfl rfl rfl (by decide +kernel) ⟨by rw [← hR]; exact Nat.le_of_ble_eq_true rfl, by rw [← hR]; exact Nat.le_of_ble_eq_true rfl⟩) ⟨fun a U g mk q => by obtain ⟨q0, q1, q2, qK, q10, q11, q12⟩ := q; exact ⟨q0, q1, q2, jG.calling g mk a qK, q10, q11, q12⟩, fun U hU hW => ⟨rfl, hU, hh.2.1, hG.step hW hU hh.1, hg_r0, jP.nil, by first | omega | (refine ⟨?_, ?_, ?_, ?_⟩ <;> (first | omega | rfl | assumption | decide | exact Or.inl rfl | exact Or.inr rfl | (simp only; omega)))⟩⟩ rfl rfl hl.1 rfl (lv_room (Nat.le_of_ble_eq_true rfl)) dX9_longer_5 ⟨by rw [hRc]; omega, by rw [hRs]; omega⟩) hh.1 (fun q _ h => h) (fun q h => h) (fun r_4 u_3 t_3 H_3 locs_3 ht_3 hvm_3 hr_4 hb_3 hz_3 hk_3 hS_3 => ?_)
  rw [ht_3] at hb_3
  obtain ⟨m_ret_3, G_3⟩ := u_3
  simp only at hb_3
  obtain ⟨⟨hb_31, hb_32, hb_33, hb_34, hb_35, hb_36⟩, hN_3, hbK_3⟩ := hb_3
  have hh_3 : jSt (dC, dI) B base G0 G_3 EX9_longer s.heap (0 + (1)) (0 + (m_ret_3)) [] [] [] H_3 locs_3 := (hh.callG hb_31 hb_32 hb_33 hb_34 hb_35 hS_3 rfl (L1 := []) [] rfl rfl (M1 := []) [] rfl rfl (I1 := []) [] rfl rfl).more hb_36
  have hNn_3 : (jNk [0, 1, 2, 3, 4, 5, 6, 7, 8, 9, 10, 11, 12, 13, 14, 15, 16, 17, 175]) G0 G_3 := (jNk.rf).tr hN_3
  have hg_5 := hb_32 _ _ hg_r0
  obtain ⟨hr_4, hr_4n, hr_4p⟩ := hr_4
  try simp only at hr_4p
  have hkp_6 := hkp.tr hbK_3
  obtain ⟨ret_7, rfl, hg_ret_7⟩ := hr_4
  have hsy_3 : s.heap.size ≤ ret_7 := Nat.le_trans hh.1.1 hr_4n.le
  refine lv_astore_n (lv' := [(2, .ref ret_7), (0, .ref r0), (1, .int a1)]) hx hb dX9_longer_8 rfl hl (by decide) rfl (fun ls hl => ?_)
  refine lv_aload_n hx hb dX9_longer_9 rfl (lv_at hl 0 rfl) ?_
  refine lv_aload_n hx hb dX9_longer_10 rfl (lv_at hl 1 rfl) ?_
  refine j7_len hx hb hK hh_3 hB101 1 rfl (by decide) hg_5 (by omega) dX9_longer_11 (fun z_8 hz_8 => ?_)
  refine lv_iload_n hx hb dX9_longer_12 rfl (lv_at hl 2 rfl) ?_
  refine j7_iastF hx hb hK hh_3 hB hB101 1 rfl (by decide) (by decide) rfl rfl rfl hg_ret_7 (x := z_8.toInt) (rfl) (by omega) (trivial) dX9_longer_13 (fun H_9 locs_9 hr_9 hh_9 => ?_)
  have hkp_10 := hkp_6.st hsy_3 hr_9
  clear hr_9
  clear hh_3
  refine lv_aload_n hx hb dX9_longer_14 rfl (lv_at hl 0 rfl) ?_
  have hsz_11 := hh_9.2.2.2.2.2.1
  have htt_11 := hh_9.2.2.2.2.2.2.1
  refine W.room (fun hrc_11 hrs_11 => ?_)
  refine W.widen (k := LC - s.heap.size) (n := LS - jTot s.heap) (by omega) (by omega) ?_
  rw [hQ]
  exact W.aret (v := .ref ret_7) hx hb hr (Or.inr ⟨_, rfl⟩) (Or.inr ⟨_, rfl⟩) (fun t ht hW => ⟨⟨.ref ret_7, (m_ret_3, G_3), rfl, ⟨⟨_, rfl, hg_ret_7⟩, ⟨_, rfl, hsy_3⟩, by (try dsimp only); first | omega | rfl | assumption | fail⟩, ⟨hh_9.ra (by first | omega | (simp only; omega)) (by first | omega | (simp only; omega)) (M1 := []) [] rfl ht, hNn_3, by rw [ht]; exact hkp_10⟩⟩, by rw [ht]; try exact hh_9.1.1, fun q h9 hq => by rw [ht]; try exact hh_9.1.2.1 q h9 hq⟩) hh_9.1.2.2 dX9_longer_15
end
section
theorem dX3_init_0 : decode cX3_init 0 = .ok (.aload_n 0, 1) := by decide +kernel
theorem dX3_init_1 : decode cX3_init 1 = .ok (.invokespecial 3, 3) := by decide +kernel
theorem dX3_init_4 : decode cX3_init 4 = .ok (.aload_n 0, 1) := by decide +kernel
theorem dX3_init_5 : decode cX3_init 5 = .ok (.aload_n 1, 1) := by decide +kernel
theorem dX3_init_6 : decode cX3_init 6 = .ok (.putfield 9, 3) := by decide +kernel
theorem dX3_init_9 : decode cX3_init 9 = .ok (.aload_n 0, 1) := by decide +kernel
theorem dX3_init_10 : decode cX3_init 10 = .ok (.aload_n 2, 1) := by decide +kernel
theorem dX3_init_11 : decode cX3_init 11 = .ok (.putfield 15, 3) := by decide +kernel
theorem dX3_init_14 : decode cX3_init 14 = .ok (.aload_n 0, 1) := by decide +kernel
theorem dX3_init_15 : decode cX3_init 15 = .ok (.aload_n 3, 1) := by decide +kernel
theorem dX3_init_16 : decode cX3_init 16 = .ok (.putfield 18, 3) := by decide +kernel
theorem dX3_init_19 : decode cX3_init 19 = .ok (.aload_n 0, 1) := by decide +kernel
theorem dX3_init_20 : decode cX3_init 20 = .ok (.aload 4, 2) := by decide +kernel
theorem dX3_init_22 : decode cX3_init 22 = .ok (.putfield 22, 3) := by decide +kernel
theorem dX3_init_25 : decode cX3_init 25 = .ok (.return_, 1) := by decide +kernel
theorem dX3_withFormula_0 : decode cX3_withFormula 0 = .ok (.new 10, 3) := by decide +kernel
theorem dX3_withFormula_3 : decode cX3_withFormula 3 = .ok (.dup, 1) := by decide +kernel
theorem dX3_withFormula_4 : decode cX3_withFormula 4 = .ok (.aload_n 0, 1) := by decide +kernel
theorem dX3_withFormula_5 : decode cX3_withFormula 5 = .ok (.getfield 9, 3) := by decide +kernel
theorem dX3_withFormula_8 : decode cX3_withFormula 8 = .ok (.aload_n 0, 1) := by decide +kernel
theorem dX3_withFormula_9 : decode cX3_withFormula 9 = .ok (.getfield 15, 3) := by decide +kernel
theorem dX3_withFormula_12 : decode cX3_withFormula 12 = .ok (.aload_n 0, 1) := by decide +kernel
theorem dX3_withFormula_13 : decode cX3_withFormula 13 = .ok (.getfield 18, 3) := by decide +kernel
theorem dX3_withFormula_16 : decode cX3_withFormula 16 = .ok (.aload_n 1, 1) := by decide +kernel
theorem dX3_withFormula_17 : decode cX3_withFormula 17 = .ok (.invokespecial 25, 3) := by decide +kernel
theorem dX3_withFormula_20 : decode cX3_withFormula 20 = .ok (.areturn, 1) := by decide +kernel
theorem dX3_withVariable_0 : decode cX3_withVariable 0 = .ok (.new 10, 3) := by decide +kernel
theorem dX3_withVariable_3 : decode cX3_withVariable 3 = .ok (.dup, 1) := by decide +kernel
theorem dX3_withVariable_4 : decode cX3_withVariable 4 = .ok (.aload_n 0, 1) := by decide +kernel
theorem dX3_withVariable_5 : decode cX3_withVariable 5 = .ok (.getfield 9, 3) := by decide +kernel
theorem dX3_withVariable_8 : decode cX3_withVariable 8 = .ok (.iload_n 1, 1) := by decide +kernel
theorem dX3_withVariable_9 : decode cX3_withVariable 9 = .ok (.invokestatic 28, 3) := by decide +kernel
theorem dX3_withVariable_12 : decode cX3_withVariable 12 = .ok (.aload_n 0, 1) := by decide +kernel
theorem dX3_withVariable_13 : decode cX3_withVariable 13 = .ok (.getfield 15, 3) := by decide +kernel
theorem dX3_withVariable_16 : decode cX3_withVariable 16 = .ok (.aload_n 0, 1) := by decide +kernel
theorem dX3_withVariable_17 : decode cX3_withVariable 17 = .ok (.getfield 18, 3) := by decide +kernel
theorem dX3_withVariable_20 : decode cX3_withVariable 20 = .ok (.aload_n 2, 1) := by decide +kernel
theorem dX3_withVariable_21 : decode cX3_withVariable 21 = .ok (.invokespecial 25, 3) := by decide +kernel
theorem dX3_withVariable_24 : decode cX3_withVariable 24 = .ok (.areturn, 1) := by decide +kernel
def EX3_init : List (Nat × Nat) := []
def EX3_initZ : List (Nat × Nat) := []
def EX3_withFormula : List (Nat × Nat) := []
def EX3_withFormulaZ : List (Nat × Nat) := []
def EX3_withVariable : List (Nat × Nat) := [(101, 0)]
def EX3_withVariableZ : List (Nat × Nat) := [(101, 0)]
set_option maxHeartbeats 4000000 in
set_option maxRecDepth 20000 in
theorem uX3_init (l : Launch) (dC : Nat → ClassId) (dI : Nat → Nat → Nat) (ca : Nat → ClassId) (base : Nat) (B : jF) (hB : jBok B) (hAp : jAp (dC, dI)) (hB5 : ∀ n G a H, B 5 n G a H ↔ jOb (dC, dI) 5 4 (F5 n G) a H) (hB101 : ∀ n G a H, B 101 n G a H ↔ jAr (dC, dI) (ca 1) (fun j z => True) n a H) (hB280 : ∀ n G a H, B 280 n G a H ↔ jAr (dC, dI) (ca 1) (fun j z => -1 ≤ z.toInt) n a H) (hB313 : ∀ n G a H, B 313 n G a H ↔ jAq (dC, dI) (ca 8) (jQk 280 80) n G a H) (G0 : jT) (H0 : Heap) (r0 : Nat) (r1 : Nat) (r2 : Nat) (r3 : Nat) (r4 : Nat) (n1 : Nat) (n2 : Nat) (n3 : Nat) (n4 : Nat) (kn : Nat) (LC LS : Nat) : Met l yX3_init (jw yX3_init cX3_init 5 none) ({ frames := 1, cells := LC - H0.size, slots := LS - jTot H0, locals := 31 }) (va_Pc [.ref r0, .ref r1, .ref r2, .ref r3, .ref r4] (fun U => U.heap = H0 ∧ jX B base G0 [] H0 ∧ jG dC dI ca base U ∧ G0 r1 = some (101, n1) ∧ G0 r2 = some (101, n2) ∧ G0 r3 = some (313, n3) ∧ G0 r4 = some (280, n4) ∧ va_at (dC, dI) vwCl (r0, .inr (5, [.null, .null, .null, .null])) H0 ∧ (∀ t, G0 r0 ≠ some t) ∧ base ≤ r0 ∧ jP (dC, dI) G0 H0 [] ∧ H0.size + 0 ≤ LC ∧ jTot H0 + 0 ≤ LS ∧ n3 = n2 ∧ n1 ≤ 7 ∧ n2 ≤ 9 ∧ kn / 10 = n2 ∧ n4 ≤ 80 ∧ ((kn % 10 = 1 ∧ n1 ≤ 6 ∧ n2 ≤ 8) ∨ (kn % 10 = 2 ∧ 6 < n1) ∨ (kn % 10 = 3 ∧ 8 < n2)))) (va_Qv (S := jT) (fun u => True) (fun u t => jRa (dC, dI) B base G0 u EX3_init H0 (0) (0) [] t.heap ∧ (jNk [0, 1, 2, 3, 4, 6, 7, 8, 9, 10, 11, 12, 13, 14, 15, 16, 17, 175]) G0 u ∧ u r0 = some (5, kn) ∧ jKx r0 G0 u H0 t.heap) (jA base)) (LC - H0.size) (LS - jTot H0) (jA base) := by
  refine Met.ofW (cc := cX3_init) (maxL := 5) (ret := none) (by decide) rfl ?_
  intro p e s m args below meth c s₁ Bd hml hv
  obtain ⟨rfl, hH0, hX, hG, hg_r1, hg_r2, hg_r3, hg_r4, hraw0, hnr0, hbr0, hP0, hLC0, hLS0, hp0, hp1, hp2, hp3, hp4, hp5⟩ := hv
  have hK := hG.1
  have hx := Bd.exec
  have hb := Bd.bytes
  have hr := Bd.returns
  have hts := atoms_spec (ws := (jw yX3_init cX3_init 5 none)) Bd.pre
  have htw : ∀ w ∈ jWl, w.before _ s = true := fun w h => hts w (List.mem_cons_of_mem _ h)
  have hown : s.vm.findClass RX3 = some m.cls := findClass_of_methodNamed Bd.named
  have hlocks := Bd.notSynchronized
  obtain ⟨Q, hQ⟩ : ∃ Q, Q = MQ below (va_Qv (S := jT) (fun u => True) (fun u t => jRa (dC, dI) B base G0 u EX3_init H0 (0) (0) [] t.heap ∧ (jNk [0, 1, 2, 3, 4, 6, 7, 8, 9, 10, 11, 12, 13, 14, 15, 16, 17, 175]) G0 u ∧ u r0 = some (5, kn) ∧ jKx r0 G0 u H0 t.heap) (jA base)) ([.ref r0, .ref r1, .ref r2, .ref r3, .ref r4] : List Value).toArray s (LC - H0.size) (LS - jTot H0) (jA base) := ⟨_, rfl⟩
  rw [← hQ]
  have hl := lv_entry ([.ref r0, .ref r1, .ref r2, .ref r3, .ref r4]) (n := 5) (Nat.le_of_ble_eq_true rfl)
  rw [lg_entry_eq]
  generalize (lg_sl ([.ref r0, .ref r1, .ref r2, .ref r3, .ref r4]) ++ List.replicate (5 - (lg_sl ([.ref r0, .ref r1, .ref r2, .ref r3, .ref r4])).length) Slot.unset).toArray = ls at hl ⊢
  have hl : lv_has ls 5 [(0, .ref r0), (1, .ref r1), (2, .ref r2), (3, .ref r3), (4, .ref r4)] := hl
  generalize hR : (headSpec (jw yX3_init cX3_init 5 none) ({ frames := 1, cells := LC - H0.size, slots := LS - jTot H0, locals := 31 })).room = R
  subst hH0
  have hh : jSt (dC, dI) B base G0 G0 EX3_init s.heap 0 0 [] [] [] s.heap [] := jSt.start hX hP0 jMc.nil jIs.nil
  clear hX hP0
  have hk0 : (0 : Int32).toInt = 0 := by decide
  have hk1 : (1 : Int32).toInt = 1 := by decide
  have hly_5_0 := htw (u_lay RX3 TX3 0) (jWc_wsX30 _ (u_in_lay (by decide)))
  have hly_5_1 := htw (u_lay RX3 TX3 1) (jWc_wsX30 _ (u_in_lay (by decide)))
  have hly_5_2 := htw (u_lay RX3 TX3 2) (jWc_wsX30 _ (u_in_lay (by decide)))
  have hly_5_3 := htw (u_lay RX3 TX3 3) (jWc_wsX30 _ (u_in_lay (by decide)))
  have hlk_9 := (htw (.fieldLink RX3 9 "ProofServer$Goal" "variables" "[I") (jWr_83 _ (List.mem_of_getElem? (i := 10) rfl)))
  have hlk_15 := (htw (.fieldLink RX3 15 "ProofServer$Goal" "names" "[I") (jWr_83 _ (List.mem_of_getElem? (i := 11) rfl)))
  have hlk_18 := (htw (.fieldLink RX3 18 "ProofServer$Goal" "hypotheses" "[[I") (jWr_83 _ (List.mem_of_getElem? (i := 12) rfl)))
  have hlk_22 := (htw (.fieldLink RX3 22 "ProofServer$Goal" "formula" "[I") (jWr_83 _ (List.mem_of_getElem? (i := 13) rfl)))
  have hbs : base ≤ s.heap.size := Nat.le_of_lt (Nat.lt_of_le_of_lt hbr0 hraw0.lt)
  have hRc : R.cells = LC - s.heap.size := by rw [← hR]; rfl
  have hRs : R.slots = LS - jTot s.heap := by rw [← hR]; rfl
  have hin2 : meth.name = "<init>" := (name_of_methodNamed Bd.named Bd.method).1
  have hkp : jKx r0 G0 G0 s.heap s.heap := jKx.rf
  refine lv_aload_n hx hb dX3_init_0 rfl (lv_at hl 0 rfl) ?_
  refine W.objInit hx hb hown (htw (.methodLink RX3 3 objectInit) (jWr_83 _ (List.mem_of_getElem? (i := 9) rfl))) (htw (.instanceMethod objectInit) (jWr_1 _ (List.mem_of_getElem? (i := 10) rfl))) (htw (.code objectInit ⟨#[0xb1]⟩ 1 none) (jWr_1 _ (List.mem_of_getElem? (i := 11) rfl))) rfl (by rw [hml]; exact hl.1) rfl dX3_init_1 (by rw [← hR]; exact Nat.le_of_ble_eq_true rfl) (by rw [← hR]; exact Nat.le_of_ble_eq_true rfl) ?_
  refine W.eq (g2 := F0 m 4 ls []) rfl ?_
  refine lv_aload_n hx hb dX3_init_4 rfl (lv_at hl 0 rfl) ?_
  refine lv_aload_n hx hb dX3_init_5 rfl (lv_at hl 1 rfl) ?_
  refine j7_putRF hx hb hown hK hh hB hAp hraw0 hnr0 hbr0 (C := RX3) (T := TX3) (N := 4) rfl (i := 0) (by decide) (Nat.le_of_ble_eq_true rfl) hly_5_0 rfl hin2 rfl hlk_9 (ty := (.array .int)) (v := .ref r1) (by decide +kernel) rfl rfl dX3_init_6 (fun H_1 locs_1 hraw_1 hr_1 hh_1 => ?_)
  have hraw_1 : va_at (dC, dI) vwCl (r0, .inr (5, [.ref r1, .null, .null, .null])) H_1 := hraw_1
  have hkp_2 := hkp.put hr_1
  clear hh
  refine lv_aload_n hx hb dX3_init_9 rfl (lv_at hl 0 rfl) ?_
  refine lv_aload_n hx hb dX3_init_10 rfl (lv_at hl 2 rfl) ?_
  refine j7_putRF hx hb hown hK hh_1 hB hAp hraw_1 hnr0 hbr0 (C := RX3) (T := TX3) (N := 4) rfl (i := 1) (by decide) (Nat.le_of_ble_eq_true rfl) hly_5_1 rfl hin2 rfl hlk_15 (ty := (.array .int)) (v := .ref r2) (by decide +kernel) rfl rfl dX3_init_11 (fun H_3 locs_3 hraw_3 hr_3 hh_3 => ?_)
  have hraw_3 : va_at (dC, dI) vwCl (r0, .inr (5, [.ref r1, .ref r2, .null, .null])) H_3 := hraw_3
  have hkp_4 := hkp_2.put hr_3
  clear hh_1
  refine lv_aload_n hx hb dX3_init_14 rfl (lv_at hl 0 rfl) ?_
  refine lv_aload_n hx hb dX3_init_15 rfl (lv_at hl 3 rfl) ?_
  refine j7_putRF hx hb hown hK hh_3 hB hAp hraw_3 hnr0 hbr0 (C := RX3) (T := TX3) (N := 4) rfl (i := 2) (by decide) (Nat.le_of_ble_eq_true rfl) hly_5_2 rfl hin2 rfl hlk_18 (ty := (.array (.array .int))) (v := .ref r3) (by decide +kernel) rfl rfl dX3_init_16 (fun H_5 locs_5 hraw_5 hr_5 hh_5 => ?_)
  have hraw_5 : va_at (dC, dI) vwCl (r0, .inr (5, [.ref r1, .ref r2, .ref r3, .null])) H_5 := hraw_5
  have hkp_6 := hkp_4.put hr_5
  clear hh_3
  refine lv_aload_n hx hb dX3_init_19 rfl (lv_at hl 0 rfl) ?_
  refine lv_aload hx hb dX3_init_20 (lv_at hl 4 rfl) ?_
  refine j7_putRF hx hb hown hK hh_5 hB hAp hraw_5 hnr0 hbr0 (C := RX3) (T := TX3) (N := 4) rfl (i := 3) (by decide) (Nat.le_of_ble_eq_true rfl) hly_5_3 rfl hin2 rfl hlk_22 (ty := (.array .int)) (v := .ref r4) (by decide +kernel) rfl rfl dX3_init_22 (fun H_7 locs_7 hraw_7 hr_7 hh_7 => ?_)
  have hraw_7 : va_at (dC, dI) vwCl (r0, .inr (5, [.ref r1, .ref r2, .ref r3, .ref r4])) H_7 := hraw_7
  have hkp_8 := hkp_6.put hr_7
  clear hh_5
  have hsz_9 := hh_7.2.2.2.2.2.1
  have htt_9 := hh_7.2.2.2.2.2.2.1
  refine W.room (fun hrc_9 hrs_9 => ?_)
  refine W.widen (k := LC - s.heap.size) (n := LS - jTot s.heap) (by omega) (by omega) ?_
  rw [hQ]
  have hle_10 : jLe G0 (va_up G0 r0 (some (5, kn))) := jLe.typ hnr0
  have hg_11 := hle_10 _ _ hg_r1
  have hg_12 := hle_10 _ _ hg_r2
  have hg_13 := hle_10 _ _ hg_r3
  have hg_14 := hle_10 _ _ hg_r4
  have hg_15 := (jLe.rf).tr hle_10 _ _ hg_r1
  have hg_16 := (jLe.rf).tr hle_10 _ _ hg_r2
  have hg_17 := (jLe.rf).tr hle_10 _ _ hg_r3
  have hg_18 := (jLe.rf).tr hle_10 _ _ hg_r4
  have hfa_10 : jGv kn (va_up G0 r0 (some (5, kn))) (.ref r1) ∧ jGn kn (va_up G0 r0 (some (5, kn))) (.ref r2) ∧ jGh kn (va_up G0 r0 (some (5, kn))) (.ref r3) ∧ jGfo kn (va_up G0 r0 (some (5, kn))) (.ref r4) ∧ True := ⟨⟨_, _, rfl, hg_15, by omega, by omega, by omega⟩, ⟨_, rfl, jSz hg_16 (by omega)⟩, ⟨_, 313, rfl, jSz hg_17 (by omega), by omega, by omega, by omega, by omega, by omega⟩, Or.inr ⟨_, _, rfl, hg_18, by omega, by omega, by omega⟩, trivial⟩
  have hh_10 := hh_7.typ (k := 5) (n := kn) hB hnr0 hbr0 hraw_7.lt (jOb.of (C := RX3) (T := TX3) (N := 4) (F := F5) hB5 rfl hraw_7 (show jFx (F5 kn (va_up G0 r0 (some (5, kn)))) [.ref r1, .ref r2, .ref r3, .ref r4] from hfa_10))
  have hgn_10 : (va_up G0 r0 (some (5, kn))) r0 = some (5, kn) := jUp_self
  have hN_10 : (jNk [0, 1, 2, 3, 4, 6, 7, 8, 9, 10, 11, 12, 13, 14, 15, 16, 17, 175]) G0 (va_up G0 r0 (some (5, kn))) := jNk.new (by decide)
  have hNn_10 : (jNk [0, 1, 2, 3, 4, 6, 7, 8, 9, 10, 11, 12, 13, 14, 15, 16, 17, 175]) G0 (va_up G0 r0 (some (5, kn))) := (jNk.rf).tr hN_10
  have hkp_19 := hkp_8.typ (t := some (5, kn))
  exact W.vret hx hb hr (fun t ht hW => ⟨⟨(va_up G0 r0 (some (5, kn))), rfl, trivial, ⟨hh_10.ra (by first | omega | (simp only; omega)) (by first | omega | (simp only; omega)) (M1 := []) [] rfl ht, hNn_10, hgn_10, by rw [ht]; exact hkp_19⟩⟩, by rw [ht]; try exact hh_10.1.1, fun q h9 hq => by rw [ht]; try exact hh_10.1.2.1 q h9 hq⟩) hh_10.1.2.2 dX3_init_25
set_option maxHeartbeats 4000000 in
set_option maxRecDepth 20000 in
theorem uX3_initZ (l : Launch) (dC : Nat → ClassId) (dI : Nat → Nat → Nat) (ca : Nat → ClassId) (base : Nat) (B : jF) (hB : jBok B) (hAp : jAp (dC, dI)) (hB5 : ∀ n G a H, B 5 n G a H ↔ jOb (dC, dI) 5 4 (F5 n G) a H) (hB101 : ∀ n G a H, B 101 n G a H ↔ jAr (dC, dI) (ca 1) (fun j z => True) n a H) (hB280 : ∀ n G a H, B 280 n G a H ↔ jAr (dC, dI) (ca 1) (fun j z => -1 ≤ z.toInt) n a H) (hB313 : ∀ n G a H, B 313 n G a H ↔ jAq (dC, dI) (ca 8) (jQk 280 80) n G a H) (G0 : jT) (H0 : Heap) (r0 : Nat) (r1 : Nat) (r2 : Nat) (r3 : Nat) (n1 : Nat) (n2 : Nat) (n3 : Nat) (kn : Nat) (LC LS : Nat) : Met l yX3_init (jw yX3_init cX3_init 5 none) ({ frames := 1, cells := LC - H0.size, slots := LS - jTot H0, locals := 31 }) (va_Pc [.ref r0, .ref r1, .ref r2, .ref r3, .null] (fun U => U.heap = H0 ∧ jX B base G0 [] H0 ∧ jG dC dI ca base U ∧ G0 r1 = some (101, n1) ∧ G0 r2 = some (101, n2) ∧ G0 r3 = some (313, n3) ∧ va_at (dC, dI) vwCl (r0, .inr (5, [.null, .null, .null, .null])) H0 ∧ (∀ t, G0 r0 ≠ some t) ∧ base ≤ r0 ∧ jP (dC, dI) G0 H0 [] ∧ H0.size + 0 ≤ LC ∧ jTot H0 + 0 ≤ LS ∧ n3 = n2 ∧ n1 ≤ 7 ∧ n2 ≤ 9 ∧ kn / 10 = n2 ∧ kn % 10 = 0)) (va_Qv (S := jT) (fun u => True) (fun u t => jRa (dC, dI) B base G0 u EX3_initZ H0 (0) (0) [] t.heap ∧ (jNk [0, 1, 2, 3, 4, 6, 7, 8, 9, 10, 11, 12, 13, 14, 15, 16, 17, 175]) G0 u ∧ u r0 = some (5, kn) ∧ jKx r0 G0 u H0 t.heap) (jA base)) (LC - H0.size) (LS - jTot H0) (jA base) := by
  refine Met.ofW (cc := cX3_init) (maxL := 5) (ret := none) (by decide) rfl ?_
  intro p e s m args below meth c s₁ Bd hml hv
  obtain ⟨rfl, hH0, hX, hG, hg_r1, hg_r2, hg_r3, hraw0, hnr0, hbr0, hP0, hLC0, hLS0, hp0, hp1, hp2, hp3, hp4⟩ := hv
  have hK := hG.1
  have hx := Bd.exec
  have hb := Bd.bytes
  have hr := Bd.returns
  have hts := atoms_spec (ws := (jw yX3_init cX3_init 5 none)) Bd.pre
  have htw : ∀ w ∈ jWl, w.before _ s = true := fun w h => hts w (List.mem_cons_of_mem _ h)
  have hown : s.vm.findClass RX3 = some m.cls := findClass_of_methodNamed Bd.named
  have hlocks := Bd.notSynchronized
  obtain ⟨Q, hQ⟩ : ∃ Q, Q = MQ below (va_Qv (S := jT) (fun u => True) (fun u t => jRa (dC, dI) B base G0 u EX3_initZ H0 (0) (0) [] t.heap ∧ (jNk [0, 1, 2, 3, 4, 6, 7, 8, 9, 10, 11, 12, 13, 14, 15, 16, 17, 175]) G0 u ∧ u r0 = some (5, kn) ∧ jKx r0 G0 u H0 t.heap) (jA base)) ([.ref r0, .ref r1, .ref r2, .ref r3, .null] : List Value).toArray s (LC - H0.size) (LS - jTot H0) (jA base) := ⟨_, rfl⟩
  rw [← hQ]
  have hl := lv_entry ([.ref r0, .ref r1, .ref r2, .ref r3, .null]) (n := 5) (Nat.le_of_ble_eq_true rfl)
  rw [lg_entry_eq]
  generalize (lg_sl ([.ref r0, .ref r1, .ref r2, .ref r3, .null]) ++ List.replicate (5 - (lg_sl ([.ref r0, .ref r1, .ref r2, .ref r3, .null])).length) Slot.unset).toArray = ls at hl ⊢
  have hl : lv_has ls 5 [(0, .ref r0), (1, .ref r1), (2, .ref r2), (3, .ref r3), (4, .null)] := hl
  generalize hR : (headSpec (jw yX3_init cX3_init 5 none) ({ frames := 1, cells := LC - H0.size, slots := LS - jTot H0, locals := 31 })).room = R
  subst hH0
  have hh : jSt (dC, dI) B base G0 G0 EX3_initZ s.heap 0 0 [] [] [] s.heap [] := jSt.start hX hP0 jMc.nil jIs.nil
  clear hX hP0
  have hk0 : (0 : Int32).toInt = 0 := by decide
  have hk1 : (1 : Int32).toInt = 1 := by decide
  have hly_5_0 := htw (u_lay RX3 TX3 0) (jWc_wsX30 _ (u_in_lay (by decide)))
  have hly_5_1 := htw (u_lay RX3 TX3 1) (jWc_wsX30 _ (u_in_lay (by decide)))
  have hly_5_2 := htw (u_lay RX3 TX3 2) (jWc_wsX30 _ (u_in_lay (by decide)))
  have hly_5_3 := htw (u_lay RX3 TX3 3) (jWc_wsX30 _ (u_in_lay (by decide)))
  have hlk_9 := (htw (.fieldLink RX3 9 "ProofServer$Goal" "variables" "[I") (jWr_83 _ (List.mem_of_getElem? (i := 10) rfl)))
  have hlk_15 := (htw (.fieldLink RX3 15 "ProofServer$Goal" "names" "[I") (jWr_83 _ (List.mem_of_getElem? (i := 11) rfl)))
  have hlk_18 := (htw (.fieldLink RX3 18 "ProofServer$Goal" "hypotheses" "[[I") (jWr_83 _ (List.mem_of_getElem? (i := 12) rfl)))
  have hlk_22 := (htw (.fieldLink RX3 22 "ProofServer$Goal" "formula" "[I") (jWr_83 _ (List.mem_of_getElem? (i := 13) rfl)))
  have hbs : base ≤ s.heap.size := Nat.le_of_lt (Nat.lt_of_le_of_lt hbr0 hraw0.lt)
  have hRc : R.cells = LC - s.heap.size := by rw [← hR]; rfl
  have hRs : R.slots = LS - jTot s.heap := by rw [← hR]; rfl
  have hin2 : meth.name = "<init>" := (name_of_methodNamed Bd.named Bd.method).1
  have hkp : jKx r0 G0 G0 s.heap s.heap := jKx.rf
  refine lv_aload_n hx hb dX3_init_0 rfl (lv_at hl 0 rfl) ?_
  refine W.objInit hx hb hown (htw (.methodLink RX3 3 objectInit) (jWr_83 _ (List.mem_of_getElem? (i := 9) rfl))) (htw (.instanceMethod objectInit) (jWr_1 _ (List.mem_of_getElem? (i := 10) rfl))) (htw (.code objectInit ⟨#[0xb1]⟩ 1 none) (jWr_1 _ (List.mem_of_getElem? (i := 11) rfl))) rfl (by rw [hml]; exact hl.1) rfl dX3_init_1 (by rw [← hR]; exact Nat.le_of_ble_eq_true rfl) (by rw [← hR]; exact Nat.le_of_ble_eq_true rfl) ?_
  refine W.eq (g2 := F0 m 4 ls []) rfl ?_
  refine lv_aload_n hx hb dX3_init_4 rfl (lv_at hl 0 rfl) ?_
  refine lv_aload_n hx hb dX3_init_5 rfl (lv_at hl 1 rfl) ?_
  refine j7_putRF hx hb hown hK hh hB hAp hraw0 hnr0 hbr0 (C := RX3) (T := TX3) (N := 4) rfl (i := 0) (by decide) (Nat.le_of_ble_eq_true rfl) hly_5_0 rfl hin2 rfl hlk_9 (ty := (.array .int)) (v := .ref r1) (by decide +kernel) rfl rfl dX3_init_6 (fun H_1 locs_1 hraw_1 hr_1 hh_1 => ?_)
  have hraw_1 : va_at (dC, dI) vwCl (r0, .inr (5, [.ref r1, .null, .null, .null])) H_1 := hraw_1
  have hkp_2 := hkp.put hr_1
  clear hh
  refine lv_aload_n hx hb dX3_init_9 rfl (lv_at hl 0 rfl) ?_
  refine lv_aload_n hx hb dX3_init_10 rfl (lv_at hl 2 rfl) ?_
  refine j7_putRF hx hb hown hK hh_1 hB hAp hraw_1 hnr0 hbr0 (C := RX3) (T := TX3) (N := 4) rfl (i := 1) (by decide) (Nat.le_of_ble_eq_true rfl) hly_5_1 rfl hin2 rfl hlk_15 (ty := (.array .int)) (v := .ref r2) (by decide +kernel) rfl rfl dX3_init_11 (fun H_3 locs_3 hraw_3 hr_3 hh_3 => ?_)
  have hraw_3 : va_at (dC, dI) vwCl (r0, .inr (5, [.ref r1, .ref r2, .null, .null])) H_3 := hraw_3
  have hkp_4 := hkp_2.put hr_3
  clear hh_1
  refine lv_aload_n hx hb dX3_init_14 rfl (lv_at hl 0 rfl) ?_
  refine lv_aload_n hx hb dX3_init_15 rfl (lv_at hl 3 rfl) ?_
  refine j7_putRF hx hb hown hK hh_3 hB hAp hraw_3 hnr0 hbr0 (C := RX3) (T := TX3) (N := 4) rfl (i := 2) (by decide) (Nat.le_of_ble_eq_true rfl) hly_5_2 rfl hin2 rfl hlk_18 (ty := (.array (.array .int))) (v := .ref r3) (by decide +kernel) rfl rfl dX3_init_16 (fun H_5 locs_5 hraw_5 hr_5 hh_5 => ?_)
  have hraw_5 : va_at (dC, dI) vwCl (r0, .inr (5, [.ref r1, .ref r2, .ref r3, .null])) H_5 := hraw_5
  have hkp_6 := hkp_4.put hr_5
  clear hh_3
  refine lv_aload_n hx hb dX3_init_19 rfl (lv_at hl 0 rfl) ?_
  refine j7_nld hx hb dX3_init_20 (lv_at hl 4 rfl) ?_
  refine j7_putRF hx hb hown hK hh_5 hB hAp hraw_5 hnr0 hbr0 (C := RX3) (T := TX3) (N := 4) rfl (i := 3) (by decide) (Nat.le_of_ble_eq_true rfl) hly_5_3 rfl hin2 rfl hlk_22 (ty := (.array .int)) (v := .null) (by decide +kernel) rfl rfl dX3_init_22 (fun H_7 locs_7 hraw_7 hr_7 hh_7 => ?_)
  have hraw_7 : va_at (dC, dI) vwCl (r0, .inr (5, [.ref r1, .ref r2, .ref r3, .null])) H_7 := hraw_7
  have hkp_8 := hkp_6.put hr_7
  clear hh_5
  have hsz_9 := hh_7.2.2.2.2.2.1
  have htt_9 := hh_7.2.2.2.2.2.2.1
  refine W.room (fun hrc_9 hrs_9 => ?_)
  refine W.widen (k := LC - s.heap.size) (n := LS - jTot s.heap) (by omega) (by omega) ?_
  rw [hQ]
  have hle_10 : jLe G0 (va_up G0 r0 (some (5, kn))) := jLe.typ hnr0
  have hg_11 := hle_10 _ _ hg_r1
  have hg_12 := hle_10 _ _ hg_r2
  have hg_13 := hle_10 _ _ hg_r3
  have hg_14 := (jLe.rf).tr hle_10 _ _ hg_r1
  have hg_15 := (jLe.rf).tr hle_10 _ _ hg_r2
  have hg_16 := (jLe.rf).tr hle_10 _ _ hg_r3
  have hfa_10 : jGv kn (va_up G0 r0 (some (5, kn))) (.ref r1) ∧ jGn kn (va_up G0 r0 (some (5, kn))) (.ref r2) ∧ jGh kn (va_up G0 r0 (some (5, kn))) (.ref r3) ∧ jGfo kn (va_up G0 r0 (some (5, kn))) (.null) ∧ True := ⟨⟨_, _, rfl, hg_14, by omega, by omega, by omega⟩, ⟨_, rfl, jSz hg_15 (by omega)⟩, ⟨_, 313, rfl, jSz hg_16 (by omega), by omega, by omega, by omega, by omega, by omega⟩, Or.inl ⟨rfl, by omega⟩, trivial⟩
  have hh_10 := hh_7.typ (k := 5) (n := kn) hB hnr0 hbr0 hraw_7.lt (jOb.of (C := RX3) (T := TX3) (N := 4) (F := F5) hB5 rfl hraw_7 (show jFx (F5 kn (va_up G0 r0 (some (5, kn)))) [.ref r1, .ref r2, .ref r3, .null] from hfa_10))
  have hgn_10 : (va_up G0 r0 (some (5, kn))) r0 = some (5, kn) := jUp_self
  have hN_10 : (jNk [0, 1, 2, 3, 4, 6, 7, 8, 9, 10, 11, 12, 13, 14, 15, 16, 17, 175]) G0 (va_up G0 r0 (some (5, kn))) := jNk.new (by decide)
  have hNn_10 : (jNk [0, 1, 2, 3, 4, 6, 7, 8, 9, 10, 11, 12, 13, 14, 15, 16, 17, 175]) G0 (va_up G0 r0 (some (5, kn))) := (jNk.rf).tr hN_10
  have hkp_17 := hkp_8.typ (t := some (5, kn))
  exact W.vret hx hb hr (fun t ht hW => ⟨⟨(va_up G0 r0 (some (5, kn))), rfl, trivial, ⟨hh_10.ra (by first | omega | (simp only; omega)) (by first | omega | (simp only; omega)) (M1 := []) [] rfl ht, hNn_10, hgn_10, by rw [ht]; exact hkp_17⟩⟩, by rw [ht]; try exact hh_10.1.1, fun q h9 hq => by rw [ht]; try exact hh_10.1.2.1 q h9 hq⟩) hh_10.1.2.2 dX3_init_25
set_option maxHeartbeats 4000000 in
set_option maxRecDepth 20000 in
theorem uX3_withFormula (l : Launch) (dC : Nat → ClassId) (dI : Nat → Nat → Nat) (ca : Nat → ClassId) (base : Nat) (B : jF) (hB : jBok B) (hAp : jAp (dC, dI)) (hB5 : ∀ n G a H, B 5 n G a H ↔ jOb (dC, dI) 5 4 (F5 n G) a H) (hB101 : ∀ n G a H, B 101 n G a H ↔ jAr (dC, dI) (ca 1) (fun j z => True) n a H) (hB280 : ∀ n G a H, B 280 n G a H ↔ jAr (dC, dI) (ca 1) (fun j z => -1 ≤ z.toInt) n a H) (hB313 : ∀ n G a H, B 313 n G a H ↔ jAq (dC, dI) (ca 8) (jQk 280 80) n G a H) (G0 : jT) (H0 : Heap) (r0 : Nat) (r1 : Nat) (n0 : Nat) (n1 : Nat) (LC LS : Nat) : Met l yX3_withFormula (jw yX3_withFormula cX3_withFormula 2 (some (.object "ProofServer$Goal"))) ({ frames := 2, cells := LC - H0.size, slots := LS - jTot H0, locals := 55 }) (va_Pc [.ref r0, .ref r1] (fun U => U.heap = H0 ∧ jX B base G0 [] H0 ∧ jG dC dI ca base U ∧ G0 r0 = some (5, n0) ∧ G0 r1 = some (280, n1) ∧ jP (dC, dI) G0 H0 [] ∧ H0.size + 1 ≤ LC ∧ jTot H0 + 4 ≤ LS ∧ (n0 % 10 = 1 ∨ n0 % 10 = 2 ∨ n0 % 10 = 3) ∧ n1 ≤ 80)) (jQx (S := Nat × jT) (fun v u => jRf u.2 5 u.1 v ∧ jNwv v H0 ∧ u.1 = n0) (fun u t => jRa (dC, dI) B base G0 u.2 EX3_withFormula H0 (1) (4) [] t.heap ∧ (jNk [0, 1, 2, 3, 4, 6, 7, 8, 9, 10, 11, 12, 13, 14, 15, 16, 17, 175]) G0 u.2) (jA base)) (LC - H0.size) (LS - jTot H0) (jA base) := by
  refine Met.ofW (cc := cX3_withFormula) (maxL := 2) (ret := (some (.object "ProofServer$Goal"))) (by decide) rfl ?_
  intro p e s m args below meth c s₁ Bd hml hv
  obtain ⟨rfl, hH0, hX, hG, hg_r0, hg_r1, hP0, hLC0, hLS0, hp0, hp1⟩ := hv
  have hK := hG.1
  have hx := Bd.exec
  have hb := Bd.bytes
  have hr := Bd.returns
  have hts := atoms_spec (ws := (jw yX3_withFormula cX3_withFormula 2 (some (.object "ProofServer$Goal")))) Bd.pre
  have htw : ∀ w ∈ jWl, w.before _ s = true := fun w h => hts w (List.mem_cons_of_mem _ h)
  have hown : s.vm.findClass RX3 = some m.cls := findClass_of_methodNamed Bd.named
  have hlocks := Bd.notSynchronized
  obtain ⟨Q, hQ⟩ : ∃ Q, Q = MQ below (jQx (S := Nat × jT) (fun v u => jRf u.2 5 u.1 v ∧ jNwv v H0 ∧ u.1 = n0) (fun u t => jRa (dC, dI) B base G0 u.2 EX3_withFormula H0 (1) (4) [] t.heap ∧ (jNk [0, 1, 2, 3, 4, 6, 7, 8, 9, 10, 11, 12, 13, 14, 15, 16, 17, 175]) G0 u.2) (jA base)) ([.ref r0, .ref r1] : List Value).toArray s (LC - H0.size) (LS - jTot H0) (jA base) := ⟨_, rfl⟩
  rw [← hQ]
  have hl := lv_entry ([.ref r0, .ref r1]) (n := 2) (Nat.le_of_ble_eq_true rfl)
  rw [lg_entry_eq]
  generalize (lg_sl ([.ref r0, .ref r1]) ++ List.replicate (2 - (lg_sl ([.ref r0, .ref r1])).length) Slot.unset).toArray = ls at hl ⊢
  have hl : lv_has ls 2 [(0, .ref r0), (1, .ref r1)] := hl
  generalize hR : (headSpec (jw yX3_withFormula cX3_withFormula 2 (some (.object "ProofServer$Goal"))) ({ frames := 2, cells := LC - H0.size, slots := LS - jTot H0, locals := 55 })).room = R
  subst hH0
  have hh : jSt (dC, dI) B base G0 G0 EX3_withFormula s.heap 0 0 [] [] [] s.heap [] := jSt.start hX hP0 jMc.nil jIs.nil
  clear hX hP0
  have hk0 : (0 : Int32).toInt = 0 := by decide
  have hk1 : (1 : Int32).toInt = 1 := by decide
  have hly_5_0 := htw (u_lay RX3 TX3 0) (jWc_wsX30 _ (u_in_lay (by decide)))
  have hly_5_1 := htw (u_lay RX3 TX3 1) (jWc_wsX30 _ (u_in_lay (by decide)))
  have hly_5_2 := htw (u_lay RX3 TX3 2) (jWc_wsX30 _ (u_in_lay (by decide)))
  have hlk_9 := (htw (.fieldLink RX3 9 "ProofServer$Goal" "variables" "[I") (jWr_83 _ (List.mem_of_getElem? (i := 10) rfl)))
  have hlk_15 := (htw (.fieldLink RX3 15 "ProofServer$Goal" "names" "[I") (jWr_83 _ (List.mem_of_getElem? (i := 11) rfl)))
  have hlk_18 := (htw (.fieldLink RX3 18 "ProofServer$Goal" "hypotheses" "[[I") (jWr_83 _ (List.mem_of_getElem? (i := 12) rfl)))
  have hbs : base ≤ s.heap.size := Nat.le_of_lt (Nat.lt_of_le_of_lt (hh.ab hg_r0).1 (hh.ab hg_r0).2)
  have hRc : R.cells = LC - s.heap.size := by rw [← hR]; rfl
  have hRs : R.slots = LS - jTot s.heap := by rw [← hR]; rfl
  have hsz_1 := hh.2.2.2.2.2.1
  have htt_1 := hh.2.2.2.2.2.2.1
  refine j7_newo (k := 5) (C := RX3) (T := TX3) (N := 4) (fs := [.null, .null, .null, .null]) hx hb htw jWc_wsX30 (fun k => ([(.array .int), (.array .int), (.array (.array .int)), (.array .int)] : List FieldType).getD k .int) (by decide +kernel) hown (htw (.classLink RX3 10 RX3) (jWr_85 _ (List.mem_of_getElem? (i := 4) rfl))) (htw (.instantiable RX3 4) (jWr_82 _ (List.mem_of_getElem? (i := 9) rfl))) (htw (.initialized RX3) (jWr_82 _ (List.mem_of_getElem? (i := 10) rfl))) hK rfl (fun j hj => by rcases (by omega : j = 0 ∨ j = 1 ∨ j = 2 ∨ j = 3) with rfl | rfl | rfl | rfl <;> rfl) hh hB (by rw [hRc]; omega) (by rw [hRs]; omega) dX3_withFormula_0 (fun H_1 hraw_1 hfr_1 hnr_1 hh_1 => ?_)
  have hke_1 : jKe G0 G0 s.heap H_1 := jKe.raw hfr_1
  have hbr_1 : base ≤ s.heap.size := Nat.le_trans hbs hh.1.1
  have hsy_1 : s.heap.size ≤ s.heap.size := hh.1.1
  clear hh
  refine lv_dup hx hb dX3_withFormula_3 rfl ?_
  refine lv_aload_n hx hb dX3_withFormula_4 rfl (lv_at hl 0 rfl) ?_
  obtain ⟨v_2, hv_2, hh_3⟩ := hh_1.pin (C := RX3) (T := TX3) (N := 4) hB5 rfl (by decide) hg_r0 (i := 0) (by decide) rfl
  clear hh_1
  obtain ⟨variables_4, nvariables_4, rfl, hg_variables_4, hvavariables_4, hvbvariables_4, hvcvariables_4⟩ := hv_2
  refine j7_read hx hb hown hK (C := RX3) (T := TX3) (N := 4) rfl hly_5_0 hlk_9 (hh_3.at 0 rfl) dX3_withFormula_5 ?_
  refine lv_aload_n hx hb dX3_withFormula_8 rfl (lv_at hl 0 rfl) ?_
  obtain ⟨v_5, hv_5, hh_6⟩ := hh_3.pin (C := RX3) (T := TX3) (N := 4) hB5 rfl (by decide) hg_r0 (i := 1) (by decide) rfl
  clear hh_3
  obtain ⟨names_7, rfl, hg_names_7⟩ := hv_5
  refine j7_read hx hb hown hK (C := RX3) (T := TX3) (N := 4) rfl hly_5_1 hlk_15 (hh_6.at 0 rfl) dX3_withFormula_9 ?_
  refine lv_aload_n hx hb dX3_withFormula_12 rfl (lv_at hl 0 rfl) ?_
  obtain ⟨v_8, hv_8, hh_9⟩ := hh_6.pin (C := RX3) (T := TX3) (N := 4) hB5 rfl (by decide) hg_r0 (i := 2) (by decide) rfl
  clear hh_6
  obtain ⟨hypotheses_10, khypotheses_10, rfl, hg_hypotheses_10, hhahypotheses_10, hhbhypotheses_10, hhchypotheses_10, hhdhypotheses_10, hhehypotheses_10⟩ := hv_8
  obtain rfl : khypotheses_10 = 313 := hhbhypotheses_10 (by omega)
  refine j7_read hx hb hown hK (C := RX3) (T := TX3) (N := 4) rfl hly_5_2 hlk_18 (hh_9.at 0 rfl) dX3_withFormula_13 ?_
  refine lv_aload_n hx hb dX3_withFormula_16 rfl (lv_at hl 1 rfl) ?_
  have hsz_11 := hh_9.2.2.2.2.2.1
  have htt_11 := hh_9.2.2.2.2.2.2.1
  refine W.room (fun hrc_11 hrs_11 => ?_)
  refine va_callv (A0 := jA base) (H0 := s.heap) (va_runI (As := [.ref variables_4, .ref names_7, .ref hypotheses_10, .ref r1]) (rest := [.ref s.heap.size]) ⟨hx, hb, hml, hown, hts⟩ (uX3_init l dC dI ca base B hB hAp hB5 hB101 hB280 hB313 G0 H_1 s.heap.size variables_4 names_7 hypotheses_10 r1 nvariables_4 (n0 / 10) (n0 / 10) n1 n0 LC LS) (cwI 4 hts (jgW (jWr_83 _ (List.mem_of_getElem? (i := 8) rfl))) rfl rfl rfl (htw (.initialized RX3) (jWr_82 _ (List.mem_of_getElem? (i := 10) rfl))) (htw (.methodLink RX3 25 yX3_init) (jWr_85 _ (List.mem_of_getElem? (i := 7) rfl))) (htw (.instanceMethod yX3_init) (jWr_83 _ (List.mem_of_getElem? (i := 7) rfl))) rfl (by decide +kernel) ⟨by rw [← hR]; exact Nat.le_of_ble_eq_true rfl, by rw [← hR]; exact Nat.le_of_ble_eq_true rfl⟩) ⟨fun a U g mk q => by obtain ⟨q0, q1, q2, qK, q10, q11, q12, q13, q14, q15, q16, q17, q18⟩ := q; exact ⟨q0, q1, q2, jG.calling g mk a qK, q10, q11, q12, q13, q14, q15, q16, q17, q18⟩, fun U hU hW => ⟨rfl, hU, hh_9.2.1, hG.step hW hU hh_9.1, hg_variables_4, hg_names_7, hg_hypotheses_10, hg_r1, hraw_1, hnr_1, hbr_1, jP.nil, (by omega), (by omega), by first | omega | (refine ⟨?_, ?_, ?_, ?_, ?_, ?_⟩ <;> (first | omega | rfl | assumption | decide | exact Or.inl rfl | exact Or.inr rfl | (simp only; omega)))⟩⟩ rfl rfl hl.1 rfl (lv_room (Nat.le_of_ble_eq_true rfl)) dX3_withFormula_17 ⟨by rw [hRc]; omega, by rw [hRs]; omega⟩) hh_9.1 (fun q _ h => h) (fun q h => h) (fun u_11 t_11 H_11 locs_11 ht_11 hvm_11 hr_12 hb_11 hz_11 hk_11 hS_11 => ?_)
  rw [ht_11] at hb_11
  obtain ⟨G_11, rfl⟩ : ∃ z, z = u_11 := ⟨_, rfl⟩
  try simp only at hb_11
  obtain ⟨⟨hb_111, hb_112, hb_113, hb_114, hb_115, hb_116⟩, hN_11, hgc_11, hbX_11⟩ := hb_11
  have hh_11 : jSt (dC, dI) B base G0 G_11 EX3_withFormula s.heap ((0 + 1) + (0)) ((0 + 4) + (0)) [(r0, 5, 2, .ref hypotheses_10), (r0, 5, 1, .ref names_7), (r0, 5, 0, .ref variables_4)] [] [] H_11 locs_11 := (hh_9.callG hb_111 hb_112 hb_113 hb_114 hb_115 hS_11 rfl (L1 := [(r0, 5, 2, .ref hypotheses_10), (r0, 5, 1, .ref names_7), (r0, 5, 0, .ref variables_4)]) [0, 1, 2] rfl rfl (M1 := []) [] rfl rfl (I1 := []) [] rfl rfl).more hb_116
  have hNn_11 : (jNk [0, 1, 2, 3, 4, 6, 7, 8, 9, 10, 11, 12, 13, 14, 15, 16, 17, 175]) G0 G_11 := (jNk.rf).tr hN_11
  have hg_13 := hb_112 _ _ hg_r0
  have hg_14 := hb_112 _ _ hg_r1
  have hg_15 := hb_112 _ _ hg_hypotheses_10
  have hg_16 := hb_112 _ _ hg_names_7
  have hg_17 := hb_112 _ _ hg_variables_4
  try simp only at hr_12
  have hsz_18 := hh_11.2.2.2.2.2.1
  have htt_18 := hh_11.2.2.2.2.2.2.1
  refine W.room (fun hrc_18 hrs_18 => ?_)
  refine W.widen (k := LC - s.heap.size) (n := LS - jTot s.heap) (by omega) (by omega) ?_
  rw [hQ]
  exact W.aret (v := .ref s.heap.size) hx hb hr (Or.inl ⟨_, rfl⟩) (Or.inr ⟨_, rfl⟩) (fun t ht hW => ⟨⟨.ref s.heap.size, (n0, G_11), rfl, ⟨⟨_, rfl, hgc_11⟩, ⟨_, rfl, hsy_1⟩, by first | rfl | ((try dsimp only); first | omega | rfl | assumption | fail)⟩, ⟨hh_11.ra (by first | omega | (simp only; omega)) (by first | omega | (simp only; omega)) (M1 := []) [] rfl ht, hNn_11⟩⟩, by rw [ht]; try exact hh_11.1.1, fun q h9 hq => by rw [ht]; try exact hh_11.1.2.1 q h9 hq⟩) hh_11.1.2.2 dX3_withFormula_20
set_option maxHeartbeats 4000000 in
set_option maxRecDepth 20000 in
theorem uX3_withFormulaZ (l : Launch) (dC : Nat → ClassId) (dI : Nat → Nat → Nat) (ca : Nat → ClassId) (base : Nat) (B : jF) (hB : jBok B) (hAp : jAp (dC, dI)) (hB5 : ∀ n G a H, B 5 n G a H ↔ jOb (dC, dI) 5 4 (F5 n G) a H) (hB101 : ∀ n G a H, B 101 n G a H ↔ jAr (dC, dI) (ca 1) (fun j z => True) n a H) (hB280 : ∀ n G a H, B 280 n G a H ↔ jAr (dC, dI) (ca 1) (fun j z => -1 ≤ z.toInt) n a H) (hB313 : ∀ n G a H, B 313 n G a H ↔ jAq (dC, dI) (ca 8) (jQk 280 80) n G a H) (G0 : jT) (H0 : Heap) (r0 : Nat) (n0 : Nat) (LC LS : Nat) : Met l yX3_withFormula (jw yX3_withFormula cX3_withFormula 2 (some (.object "ProofServer$Goal"))) ({ frames := 2, cells := LC - H0.size, slots := LS - jTot H0, locals := 55 }) (va_Pc [.ref r0, .null] (fun U => U.heap = H0 ∧ jX B base G0 [] H0 ∧ jG dC dI ca base U ∧ G0 r0 = some (5, n0) ∧ jP (dC, dI) G0 H0 [] ∧ H0.size + 1 ≤ LC ∧ jTot H0 + 4 ≤ LS ∧ (n0 % 10 = 1 ∨ n0 % 10 = 2 ∨ n0 % 10 = 3))) (jQx (S := Nat × jT) (fun v u => jRf u.2 5 u.1 v ∧ jNwv v H0 ∧ u.1 = 10 * (n0 / 10)) (fun u t => jRa (dC, dI) B base G0 u.2 EX3_withFormulaZ H0 (1) (4) [] t.heap ∧ (jNk [0, 1, 2, 3, 4, 6, 7, 8, 9, 10, 11, 12, 13, 14, 15, 16, 17, 175]) G0 u.2) (jA base)) (LC - H0.size) (LS - jTot H0) (jA base) := by
  refine Met.ofW (cc := cX3_withFormula) (maxL := 2) (ret := (some (.object "ProofServer$Goal"))) (by decide) rfl ?_
  intro p e s m args below meth c s₁ Bd hml hv
  obtain ⟨rfl, hH0, hX, hG, hg_r0, hP0, hLC0, hLS0, hp0⟩ := hv
  have hK := hG.1
  have hx := Bd.exec
  have hb := Bd.bytes
  have hr := Bd.returns
  have hts := atoms_spec (ws := (jw yX3_withFormula cX3_withFormula 2 (some (.object "ProofServer$Goal")))) Bd.pre
  have htw : ∀ w ∈ jWl, w.before _ s = true := fun w h => hts w (List.mem_cons_of_mem _ h)
  have hown : s.vm.findClass RX3 = some m.cls := findClass_of_methodNamed Bd.named
  have hlocks := Bd.notSynchronized
  obtain ⟨Q, hQ⟩ : ∃ Q, Q = MQ below (jQx (S := Nat × jT) (fun v u => jRf u.2 5 u.1 v ∧ jNwv v H0 ∧ u.1 = 10 * (n0 / 10)) (fun u t => jRa (dC, dI) B base G0 u.2 EX3_withFormulaZ H0 (1) (4) [] t.heap ∧ (jNk [0, 1, 2, 3, 4, 6, 7, 8, 9, 10, 11, 12, 13, 14, 15, 16, 17, 175]) G0 u.2) (jA base)) ([.ref r0, .null] : List Value).toArray s (LC - H0.size) (LS - jTot H0) (jA base) := ⟨_, rfl⟩
  rw [← hQ]
  have hl := lv_entry ([.ref r0, .null]) (n := 2) (Nat.le_of_ble_eq_true rfl)
  rw [lg_entry_eq]
  generalize (lg_sl ([.ref r0, .null]) ++ List.replicate (2 - (lg_sl ([.ref r0, .null])).length) Slot.unset).toArray = ls at hl ⊢
  have hl : lv_has ls 2 [(0, .ref r0), (1, .null)] := hl
  generalize hR : (headSpec (jw yX3_withFormula cX3_withFormula 2 (some (.object "ProofServer$Goal"))) ({ frames := 2, cells := LC - H0.size, slots := LS - jTot H0, locals := 55 })).room = R
  subst hH0
  have hh : jSt (dC, dI) B base G0 G0 EX3_withFormulaZ s.heap 0 0 [] [] [] s.heap [] := jSt.start hX hP0 jMc.nil jIs.nil
  clear hX hP0
  have hk0 : (0 : Int32).toInt = 0 := by decide
  have hk1 : (1 : Int32).toInt = 1 := by decide
  have hly_5_0 := htw (u_lay RX3 TX3 0) (jWc_wsX30 _ (u_in_lay (by decide)))
  have hly_5_1 := htw (u_lay RX3 TX3 1) (jWc_wsX30 _ (u_in_lay (by decide)))
  have hly_5_2 := htw (u_lay RX3 TX3 2) (jWc_wsX30 _ (u_in_lay (by decide)))
  have hlk_9 := (htw (.fieldLink RX3 9 "ProofServer$Goal" "variables" "[I") (jWr_83 _ (List.mem_of_getElem? (i := 10) rfl)))
  have hlk_15 := (htw (.fieldLink RX3 15 "ProofServer$Goal" "names" "[I") (jWr_83 _ (List.mem_of_getElem? (i := 11) rfl)))
  have hlk_18 := (htw (.fieldLink RX3 18 "ProofServer$Goal" "hypotheses" "[[I") (jWr_83 _ (List.mem_of_getElem? (i := 12) rfl)))
  have hbs : base ≤ s.heap.size := Nat.le_of_lt (Nat.lt_of_le_of_lt (hh.ab hg_r0).1 (hh.ab hg_r0).2)
  have hRc : R.cells = LC - s.heap.size := by rw [← hR]; rfl
  have hRs : R.slots = LS - jTot s.heap := by rw [← hR]; rfl
  have hsz_1 := hh.2.2.2.2.2.1
  have htt_1 := hh.2.2.2.2.2.2.1
  refine j7_newo (k := 5) (C := RX3) (T := TX3) (N := 4) (fs := [.null, .null, .null, .null]) hx hb htw jWc_wsX30 (fun k => ([(.array .int), (.array .int), (.array (.array .int)), (.array .int)] : List FieldType).getD k .int) (by decide +kernel) hown (htw (.classLink RX3 10 RX3) (jWr_85 _ (List.mem_of_getElem? (i := 4) rfl))) (htw (.instantiable RX3 4) (jWr_82 _ (List.mem_of_getElem? (i := 9) rfl))) (htw (.initialized RX3) (jWr_82 _ (List.mem_of_getElem? (i := 10) rfl))) hK rfl (fun j hj => by rcases (by omega : j = 0 ∨ j = 1 ∨ j = 2 ∨ j = 3) with rfl | rfl | rfl | rfl <;> rfl) hh hB (by rw [hRc]; omega) (by rw [hRs]; omega) dX3_withFormula_0 (fun H_1 hraw_1 hfr_1 hnr_1 hh_1 => ?_)
  have hke_1 : jKe G0 G0 s.heap H_1 := jKe.raw hfr_1
  have hbr_1 : base ≤ s.heap.size := Nat.le_trans hbs hh.1.1
  have hsy_1 : s.heap.size ≤ s.heap.size := hh.1.1
  clear hh
  refine lv_dup hx hb dX3_withFormula_3 rfl ?_
  refine lv_aload_n hx hb dX3_withFormula_4 rfl (lv_at hl 0 rfl) ?_
  obtain ⟨v_2, hv_2, hh_3⟩ := hh_1.pin (C := RX3) (T := TX3) (N := 4) hB5 rfl (by decide) hg_r0 (i := 0) (by decide) rfl
  clear hh_1
  obtain ⟨variables_4, nvariables_4, rfl, hg_variables_4, hvavariables_4, hvbvariables_4, hvcvariables_4⟩ := hv_2
  refine j7_read hx hb hown hK (C := RX3) (T := TX3) (N := 4) rfl hly_5_0 hlk_9 (hh_3.at 0 rfl) dX3_withFormula_5 ?_
  refine lv_aload_n hx hb dX3_withFormula_8 rfl (lv_at hl 0 rfl) ?_
  obtain ⟨v_5, hv_5, hh_6⟩ := hh_3.pin (C := RX3) (T := TX3) (N := 4) hB5 rfl (by decide) hg_r0 (i := 1) (by decide) rfl
  clear hh_3
  obtain ⟨names_7, rfl, hg_names_7⟩ := hv_5
  refine j7_read hx hb hown hK (C := RX3) (T := TX3) (N := 4) rfl hly_5_1 hlk_15 (hh_6.at 0 rfl) dX3_withFormula_9 ?_
  refine lv_aload_n hx hb dX3_withFormula_12 rfl (lv_at hl 0 rfl) ?_
  obtain ⟨v_8, hv_8, hh_9⟩ := hh_6.pin (C := RX3) (T := TX3) (N := 4) hB5 rfl (by decide) hg_r0 (i := 2) (by decide) rfl
  clear hh_6
  obtain ⟨hypotheses_10, khypotheses_10, rfl, hg_hypotheses_10, hhahypotheses_10, hhbhypotheses_10, hhchypotheses_10, hhdhypotheses_10, hhehypotheses_10⟩ := hv_8
  obtain rfl : khypotheses_10 = 313 := hhbhypotheses_10 (by omega)
  refine j7_read hx hb hown hK (C := RX3) (T := TX3) (N := 4) rfl hly_5_2 hlk_18 (hh_9.at 0 rfl) dX3_withFormula_13 ?_
  refine j7_nld_n hx hb dX3_withFormula_16 rfl (lv_at hl 1 rfl) ?_
  have hsz_11 := hh_9.2.2.2.2.2.1
  have htt_11 := hh_9.2.2.2.2.2.2.1
  refine W.room (fun hrc_11 hrs_11 => ?_)
  refine va_callv (A0 := jA base) (H0 := s.heap) (va_runI (As := [.ref variables_4, .ref names_7, .ref hypotheses_10, .null]) (rest := [.ref s.heap.size]) ⟨hx, hb, hml, hown, hts⟩ (uX3_initZ l dC dI ca base B hB hAp hB5 hB101 hB280 hB313 G0 H_1 s.heap.size variables_4 names_7 hypotheses_10 nvariables_4 (n0 / 10) (n0 / 10) (10 * (n0 / 10)) LC LS) (cwI 4 hts (jgW (jWr_83 _ (List.mem_of_getElem? (i := 8) rfl))) rfl rfl rfl (htw (.initialized RX3) (jWr_82 _ (List.mem_of_getElem? (i := 10) rfl))) (htw (.methodLink RX3 25 yX3_init) (jWr_85 _ (List.mem_of_getElem? (i := 7) rfl))) (htw (.instanceMethod yX3_init) (jWr_83 _ (List.mem_of_getElem? (i := 7) rfl))) rfl (by decide +kernel) ⟨by rw [← hR]; exact Nat.le_of_ble_eq_true rfl, by rw [← hR]; exact Nat.le_of_ble_eq_true rfl⟩) ⟨fun a U g mk q => by obtain ⟨q0, q1, q2, qK, q10, q11, q12, q13, q14, q15, q16, q17⟩ := q; exact ⟨q0, q1, q2, jG.calling g mk a qK, q10, q11, q12, q13, q14, q15, q16, q17⟩, fun U hU hW => ⟨rfl, hU, hh_9.2.1, hG.step hW hU hh_9.1, hg_variables_4, hg_names_7, hg_hypotheses_10, hraw_1, hnr_1, hbr_1, jP.nil, (by omega), (by omega), by first | omega | (refine ⟨?_, ?_, ?_, ?_, ?_⟩ <;> (first | omega | rfl | assumption | decide | exact Or.inl rfl | exact Or.inr rfl | (simp only; omega)))⟩⟩ rfl rfl hl.1 rfl (lv_room (Nat.le_of_ble_eq_true rfl)) dX3_withFormula_17 ⟨by rw [hRc]; omega, by rw [hRs]; omega⟩) hh_9.1 (fun q _ h => h) (fun q h => h) (fun u_11 t_11 H_11 locs_11 ht_11 hvm_11 hr_12 hb_11 hz_11 hk_11 hS_11 => ?_)
  rw [ht_11] at hb_11
  obtain ⟨G_11, rfl⟩ : ∃ z, z = u_11 := ⟨_, rfl⟩
  try simp only at hb_11
  obtain ⟨⟨hb_111, hb_112, hb_113, hb_114, hb_115, hb_116⟩, hN_11, hgc_11, hbX_11⟩ := hb_11
  have hh_11 : jSt (dC, dI) B base G0 G_11 EX3_withFormulaZ s.heap ((0 + 1) + (0)) ((0 + 4) + (0)) [(r0, 5, 2, .ref hypotheses_10), (r0, 5, 1, .ref names_7), (r0, 5, 0, .ref variables_4)] [] [] H_11 locs_11 := (hh_9.callG hb_111 hb_112 hb_113 hb_114 hb_115 hS_11 rfl (L1 := [(r0, 5, 2, .ref hypotheses_10), (r0, 5, 1, .ref names_7), (r0, 5, 0, .ref variables_4)]) [0, 1, 2] rfl rfl (M1 := []) [] rfl rfl (I1 := []) [] rfl rfl).more hb_116
  have hNn_11 : (jNk [0, 1, 2, 3, 4, 6, 7, 8, 9, 10, 11, 12, 13, 14, 15, 16, 17, 175]) G0 G_11 := (jNk.rf).tr hN_11
  have hg_13 := hb_112 _ _ hg_r0
  have hg_14 := hb_112 _ _ hg_hypotheses_10
  have hg_15 := hb_112 _ _ hg_names_7
  have hg_16 := hb_112 _ _ hg_variables_4
  try simp only at hr_12
  have hsz_17 := hh_11.2.2.2.2.2.1
  have htt_17 := hh_11.2.2.2.2.2.2.1
  refine W.room (fun hrc_17 hrs_17 => ?_)
  refine W.widen (k := LC - s.heap.size) (n := LS - jTot s.heap) (by omega) (by omega) ?_
  rw [hQ]
  exact W.aret (v := .ref s.heap.size) hx hb hr (Or.inl ⟨_, rfl⟩) (Or.inr ⟨_, rfl⟩) (fun t ht hW => ⟨⟨.ref s.heap.size, ((10 * (n0 / 10)), G_11), rfl, ⟨⟨_, rfl, hgc_11⟩, ⟨_, rfl, hsy_1⟩, by first | rfl | ((try dsimp only); first | omega | rfl | assumption | fail)⟩, ⟨hh_11.ra (by first | omega | (simp only; omega)) (by first | omega | (simp only; omega)) (M1 := []) [] rfl ht, hNn_11⟩⟩, by rw [ht]; try exact hh_11.1.1, fun q h9 hq => by rw [ht]; try exact hh_11.1.2.1 q h9 hq⟩) hh_11.1.2.2 dX3_withFormula_20
set_option maxHeartbeats 4000000 in
set_option maxRecDepth 20000 in
theorem uX3_withVariable (l : Launch) (dC : Nat → ClassId) (dI : Nat → Nat → Nat) (ca : Nat → ClassId) (base : Nat) (B : jF) (hB : jBok B) (hAp : jAp (dC, dI)) (hB5 : ∀ n G a H, B 5 n G a H ↔ jOb (dC, dI) 5 4 (F5 n G) a H) (hB101 : ∀ n G a H, B 101 n G a H ↔ jAr (dC, dI) (ca 1) (fun j z => True) n a H) (hB280 : ∀ n G a H, B 280 n G a H ↔ jAr (dC, dI) (ca 1) (fun j z => -1 ≤ z.toInt) n a H) (hB313 : ∀ n G a H, B 313 n G a H ↔ jAq (dC, dI) (ca 8) (jQk 280 80) n G a H) (G0 : jT) (H0 : Heap) (r0 : Nat) (a1 : Int32) (r2 : Nat) (n0 : Nat) (n2 : Nat) (LC LS : Nat) : Met l yX3_withVariable (jw yX3_withVariable cX3_withVariable 3 (some (.object "ProofServer$Goal"))) ({ frames := 3, cells := LC - H0.size, slots := LS - jTot H0, locals := 105 }) (va_Pc [.ref r0, .int a1, .ref r2] (fun U => U.heap = H0 ∧ jX B base G0 [] H0 ∧ jG dC dI ca base U ∧ G0 r0 = some (5, n0) ∧ G0 r2 = some (280, n2) ∧ jP (dC, dI) G0 H0 [] ∧ H0.size + 2 ≤ LC ∧ jTot H0 + 11 ≤ LS ∧ n0 % 10 = 1 ∧ n2 ≤ 80)) (jQx (S := Nat × jT) (fun v u => jRf u.2 5 u.1 v ∧ jNwv v H0 ∧ u.1 / 10 = n0 / 10 ∧ (u.1 % 10 = 1 ∨ u.1 % 10 = 2)) (fun u t => jRa (dC, dI) B base G0 u.2 EX3_withVariable H0 (2) (11) [] t.heap ∧ (jNk [0, 1, 2, 3, 4, 6, 7, 8, 9, 10, 11, 12, 13, 14, 15, 16, 17, 175]) G0 u.2) (jA base)) (LC - H0.size) (LS - jTot H0) (jA base) := by
  refine Met.ofW (cc := cX3_withVariable) (maxL := 3) (ret := (some (.object "ProofServer$Goal"))) (by decide) rfl ?_
  intro p e s m args below meth c s₁ Bd hml hv
  obtain ⟨rfl, hH0, hX, hG, hg_r0, hg_r2, hP0, hLC0, hLS0, hp0, hp1⟩ := hv
  have hK := hG.1
  have hx := Bd.exec
  have hb := Bd.bytes
  have hr := Bd.returns
  have hts := atoms_spec (ws := (jw yX3_withVariable cX3_withVariable 3 (some (.object "ProofServer$Goal")))) Bd.pre
  have htw : ∀ w ∈ jWl, w.before _ s = true := fun w h => hts w (List.mem_cons_of_mem _ h)
  have hown : s.vm.findClass RX3 = some m.cls := findClass_of_methodNamed Bd.named
  have hlocks := Bd.notSynchronized
  obtain ⟨Q, hQ⟩ : ∃ Q, Q = MQ below (jQx (S := Nat × jT) (fun v u => jRf u.2 5 u.1 v ∧ jNwv v H0 ∧ u.1 / 10 = n0 / 10 ∧ (u.1 % 10 = 1 ∨ u.1 % 10 = 2)) (fun u t => jRa (dC, dI) B base G0 u.2 EX3_withVariable H0 (2) (11) [] t.heap ∧ (jNk [0, 1, 2, 3, 4, 6, 7, 8, 9, 10, 11, 12, 13, 14, 15, 16, 17, 175]) G0 u.2) (jA base)) ([.ref r0, .int a1, .ref r2] : List Value).toArray s (LC - H0.size) (LS - jTot H0) (jA base) := ⟨_, rfl⟩
  rw [← hQ]
  have hl := lv_entry ([.ref r0, .int a1, .ref r2]) (n := 3) (Nat.le_of_ble_eq_true rfl)
  rw [lg_entry_eq]
  generalize (lg_sl ([.ref r0, .int a1, .ref r2]) ++ List.replicate (3 - (lg_sl ([.ref r0, .int a1, .ref r2])).length) Slot.unset).toArray = ls at hl ⊢
  have hl : lv_has ls 3 [(0, .ref r0), (1, .int a1), (2, .ref r2)] := hl
  generalize hR : (headSpec (jw yX3_withVariable cX3_withVariable 3 (some (.object "ProofServer$Goal"))) ({ frames := 3, cells := LC - H0.size, slots := LS - jTot H0, locals := 105 })).room = R
  subst hH0
  have hh : jSt (dC, dI) B base G0 G0 EX3_withVariable s.heap 0 0 [] [] [] s.heap [] := jSt.start hX hP0 jMc.nil jIs.nil
  clear hX hP0
  have hk0 : (0 : Int32).toInt = 0 := by decide
  have hk1 : (1 : Int32).toInt = 1 := by decide
  have hly_5_0 := htw (u_lay RX3 TX3 0) (jWc_wsX30 _ (u_in_lay (by decide)))
  have hly_5_1 := htw (u_lay RX3 TX3 1) (jWc_wsX30 _ (u_in_lay (by decide)))
  have hly_5_2 := htw (u_lay RX3 TX3 2) (jWc_wsX30 _ (u_in_lay (by decide)))
  have hlk_9 := (htw (.fieldLink RX3 9 "ProofServer$Goal" "variables" "[I") (jWr_83 _ (List.mem_of_getElem? (i := 10) rfl)))
  have hlk_15 := (htw (.fieldLink RX3 15 "ProofServer$Goal" "names" "[I") (jWr_83 _ (List.mem_of_getElem? (i := 11) rfl)))
  have hlk_18 := (htw (.fieldLink RX3 18 "ProofServer$Goal" "hypotheses" "[[I") (jWr_83 _ (List.mem_of_getElem? (i := 12) rfl)))
  have hrg_a1 := jb_rng a1
  have hbs : base ≤ s.heap.size := Nat.le_of_lt (Nat.lt_of_le_of_lt (hh.ab hg_r0).1 (hh.ab hg_r0).2)
  have hRc : R.cells = LC - s.heap.size := by rw [← hR]; rfl
  have hRs : R.slots = LS - jTot s.heap := by rw [← hR]; rfl
  have hsz_1 := hh.2.2.2.2.2.1
  have htt_1 := hh.2.2.2.2.2.2.1
  refine j7_newo (k := 5) (C := RX3) (T := TX3) (N := 4) (fs := [.null, .null, .null, .null]) hx hb htw jWc_wsX30 (fun k => ([(.array .int), (.array .int), (.array (.array .int)), (.array .int)] : List FieldType).getD k .int) (by decide +kernel) hown (htw (.classLink RX3 10 RX3) (jWr_85 _ (List.mem_of_getElem? (i := 4) rfl))) (htw (.instantiable RX3 4) (jWr_82 _ (List.mem_of_getElem? (i := 9) rfl))) (htw (.initialized RX3) (jWr_82 _ (List.mem_of_getElem? (i := 10) rfl))) hK rfl (fun j hj => by rcases (by omega : j = 0 ∨ j = 1 ∨ j = 2 ∨ j = 3) with rfl | rfl | rfl | rfl <;> rfl) hh hB (by rw [hRc]; omega) (by rw [hRs]; omega) dX3_withVariable_0 (fun H_1 hraw_1 hfr_1 hnr_1 hh_1 => ?_)
  have hke_1 : jKe G0 G0 s.heap H_1 := jKe.raw hfr_1
  have hbr_1 : base ≤ s.heap.size := Nat.le_trans hbs hh.1.1
  have hsy_1 : s.heap.size ≤ s.heap.size := hh.1.1
  clear hh
  refine lv_dup hx hb dX3_withVariable_3 rfl ?_
  refine lv_aload_n hx hb dX3_withVariable_4 rfl (lv_at hl 0 rfl) ?_
  obtain ⟨v_2, hv_2, hh_3⟩ := hh_1.pin (C := RX3) (T := TX3) (N := 4) hB5 rfl (by decide) hg_r0 (i := 0) (by decide) rfl
  clear hh_1
  obtain ⟨variables_4, nvariables_4, rfl, hg_variables_4, hvavariables_4, hvbvariables_4, hvcvariables_4⟩ := hv_2
  refine j7_read hx hb hown hK (C := RX3) (T := TX3) (N := 4) rfl hly_5_0 hlk_9 (hh_3.at 0 rfl) dX3_withVariable_5 ?_
  refine lv_iload_n hx hb dX3_withVariable_8 rfl (lv_at hl 1 rfl) ?_
  have hsz_5 := hh_3.2.2.2.2.2.1
  have htt_5 := hh_3.2.2.2.2.2.2.1
  refine W.room (fun hrc_5 hrs_5 => ?_)
  refine j_callx (A0 := jA base) (H0 := s.heap) (va_runS (As := [.ref variables_4, .int a1]) (rest := [.ref s.heap.size, .ref s.heap.size]) ⟨hx, hb, hml, hown, hts⟩ (uX9_longer l dC dI ca base B hB hAp hB101 G0 H_1 variables_4 a1 nvariables_4 LC LS) (va_cwS 2 hts (jgS (jWr_85 _ (List.mem_of_getElem? (i := 5) rfl)) (jWr_81 _ (List.mem_of_getElem? (i := 20) rfl)) (jWr_4 _ (List.mem_of_getElem? (i := 18) rfl)) (jWr_81 _ (List.mem_of_getElem? (i := 21) rfl))) rfl rfl rfl (by decide +kernel) ⟨by rw [← hR]; exact Nat.le_of_ble_eq_true rfl, by rw [← hR]; exact Nat.le_of_ble_eq_true rfl⟩) ⟨fun a U g mk q => by obtain ⟨q0, q1, q2, qK, q10, q11, q12⟩ := q; exact ⟨q0, q1, q2, jG.calling g mk a qK, q10, q11, q12⟩, fun U hU hW => ⟨rfl, hU, hh_3.2.1, hG.step hW hU hh_3.1, hg_variables_4, jP.nil, by first | omega | rfl | assumption | decide | exact Or.inl rfl | exact Or.inr rfl | (simp only; omega)⟩⟩ rfl rfl hl.1 rfl (lv_room (Nat.le_of_ble_eq_true rfl)) dX3_withVariable_9 ⟨by rw [hRc]; omega, by rw [hRs]; omega⟩) hh_3.1 (fun q _ h => h) (fun q h => h) (fun r_6 u_5 t_5 H_5 locs_5 ht_5 hvm_5 hr_6 hb_5 hz_5 hk_5 hS_5 => ?_)
  rw [ht_5] at hb_5
  obtain ⟨m_ret_5, G_5⟩ := u_5
  simp only at hb_5
  obtain ⟨⟨hb_51, hb_52, hb_53, hb_54, hb_55, hb_56⟩, hN_5, hbK_5⟩ := hb_5
  have hN_5 : (jNk [0, 1, 2, 3, 4, 6, 7, 8, 9, 10, 11, 12, 13, 14, 15, 16, 17, 175]) G0 G_5 := hN_5.sub (by decide)
  have hh_5 : jSt (dC, dI) B base G0 G_5 EX3_withVariable s.heap ((0 + 1) + (1)) ((0 + 4) + (m_ret_5)) [(r0, 5, 0, .ref variables_4)] [] [] H_5 locs_5 := (hh_3.callG hb_51 hb_52 hb_53 hb_54 hb_55 hS_5 rfl (L1 := [(r0, 5, 0, .ref variables_4)]) [0] rfl rfl (M1 := []) [] rfl rfl (I1 := []) [] rfl rfl).more hb_56
  have hNn_5 : (jNk [0, 1, 2, 3, 4, 6, 7, 8, 9, 10, 11, 12, 13, 14, 15, 16, 17, 175]) G0 G_5 := (jNk.rf).tr hN_5
  have hg_7 := hb_52 _ _ hg_r0
  have hg_8 := hb_52 _ _ hg_r2
  have hg_9 := hb_52 _ _ hg_variables_4
  obtain ⟨hr_6, hr_6n, hr_6p⟩ := hr_6
  try simp only at hr_6p
  have hraw_10n := hbK_5.nr hraw_1.lt hnr_1
  have hraw_10 := hraw_1.kept (hbK_5.1 _ hraw_1.lt)
  obtain ⟨ret_11, rfl, hg_ret_11⟩ := hr_6
  have hsy_5 : s.heap.size ≤ ret_11 := Nat.le_trans hh_3.1.1 hr_6n.le
  refine lv_aload_n hx hb dX3_withVariable_12 rfl (lv_at hl 0 rfl) ?_
  obtain ⟨v_12, hv_12, hh_13⟩ := hh_5.pin (C := RX3) (T := TX3) (N := 4) hB5 rfl (by decide) hg_7 (i := 1) (by decide) rfl
  clear hh_5
  obtain ⟨names_14, rfl, hg_names_14⟩ := hv_12
  refine j7_read hx hb hown hK (C := RX3) (T := TX3) (N := 4) rfl hly_5_1 hlk_15 (hh_13.at 0 rfl) dX3_withVariable_13 ?_
  refine lv_aload_n hx hb dX3_withVariable_16 rfl (lv_at hl 0 rfl) ?_
  obtain ⟨v_15, hv_15, hh_16⟩ := hh_13.pin (C := RX3) (T := TX3) (N := 4) hB5 rfl (by decide) hg_7 (i := 2) (by decide) rfl
  clear hh_13
  obtain ⟨hypotheses_17, khypotheses_17, rfl, hg_hypotheses_17, hhahypotheses_17, hhbhypotheses_17, hhchypotheses_17, hhdhypotheses_17, hhehypotheses_17⟩ := hv_15
  obtain rfl : khypotheses_17 = 313 := hhbhypotheses_17 (by omega)
  refine j7_read hx hb hown hK (C := RX3) (T := TX3) (N := 4) rfl hly_5_2 hlk_18 (hh_16.at 0 rfl) dX3_withVariable_17 ?_
  refine lv_aload_n hx hb dX3_withVariable_20 rfl (lv_at hl 2 rfl) ?_
  have hsz_18 := hh_16.2.2.2.2.2.1
  have htt_18 := hh_16.2.2.2.2.2.2.1
  refine W.room (fun hrc_18 hrs_18 => ?_)
  refine va_callv (A0 := jA base) (H0 := s.heap) (va_runI (As := [.ref ret_11, .ref names_14, .ref hypotheses_17, .ref r2]) (rest := [.ref s.heap.size]) ⟨hx, hb, hml, hown, hts⟩ (uX3_init l dC dI ca base B hB hAp hB5 hB101 hB280 hB313 G_5 H_5 s.heap.size ret_11 names_14 hypotheses_17 r2 m_ret_5 (n0 / 10) (n0 / 10) n2 (10 * (n0 / 10) + 1 + nvariables_4 / 6) LC LS) (cwI 4 hts (jgW (jWr_83 _ (List.mem_of_getElem? (i := 8) rfl))) rfl rfl rfl (htw (.initialized RX3) (jWr_82 _ (List.mem_of_getElem? (i := 10) rfl))) (htw (.methodLink RX3 25 yX3_init) (jWr_85 _ (List.mem_of_getElem? (i := 7) rfl))) (htw (.instanceMethod yX3_init) (jWr_83 _ (List.mem_of_getElem? (i := 7) rfl))) rfl (by decide +kernel) ⟨by rw [← hR]; exact Nat.le_of_ble_eq_true rfl, by rw [← hR]; exact Nat.le_of_ble_eq_true rfl⟩) ⟨fun a U g mk q => by obtain ⟨q0, q1, q2, qK, q10, q11, q12, q13, q14, q15, q16, q17, q18⟩ := q; exact ⟨q0, q1, q2, jG.calling g mk a qK, q10, q11, q12, q13, q14, q15, q16, q17, q18⟩, fun U hU hW => ⟨rfl, hU, hh_16.2.1, hG.step hW hU hh_16.1, hg_ret_11, hg_names_14, hg_hypotheses_17, hg_8, hraw_10, hraw_10n, hbr_1, jP.nil, (by omega), (by omega), by first | omega | (refine ⟨?_, ?_, ?_, ?_, ?_, ?_⟩ <;> (first | omega | rfl | assumption | decide | exact Or.inl rfl | exact Or.inr rfl | (simp only; omega)))⟩⟩ rfl rfl hl.1 rfl (lv_room (Nat.le_of_ble_eq_true rfl)) dX3_withVariable_21 ⟨by rw [hRc]; omega, by rw [hRs]; omega⟩) hh_16.1 (fun q _ h => h) (fun q h => h) (fun u_18 t_18 H_18 locs_18 ht_18 hvm_18 hr_19 hb_18 hz_18 hk_18 hS_18 => ?_)
  rw [ht_18] at hb_18
  obtain ⟨G_18, rfl⟩ : ∃ z, z = u_18 := ⟨_, rfl⟩
  try simp only at hb_18
  obtain ⟨⟨hb_181, hb_182, hb_183, hb_184, hb_185, hb_186⟩, hN_18, hgc_18, hbX_18⟩ := hb_18
  have hh_18 : jSt (dC, dI) B base G0 G_18 EX3_withVariable s.heap (((0 + 1) + (1)) + (0)) (((0 + 4) + (m_ret_5)) + (0)) [(r0, 5, 2, .ref hypotheses_17), (r0, 5, 1, .ref names_14), (r0, 5, 0, .ref variables_4)] [] [] H_18 locs_18 := (hh_16.callG hb_181 hb_182 hb_183 hb_184 hb_185 hS_18 rfl (L1 := [(r0, 5, 2, .ref hypotheses_17), (r0, 5, 1, .ref names_14), (r0, 5, 0, .ref variables_4)]) [0, 1, 2] rfl rfl (M1 := []) [] rfl rfl (I1 := []) [] rfl rfl).more hb_186
  have hNn_18 : (jNk [0, 1, 2, 3, 4, 6, 7, 8, 9, 10, 11, 12, 13, 14, 15, 16, 17, 175]) G0 G_18 := (hNn_5).tr hN_18
  have hg_20 := hb_182 _ _ hg_7
  have hg_21 := hb_182 _ _ hg_8
  have hg_22 := hb_182 _ _ hg_hypotheses_17
  have hg_23 := hb_182 _ _ hg_names_14
  have hg_24 := hb_182 _ _ hg_9
  try simp only at hr_19
  have hsz_25 := hh_18.2.2.2.2.2.1
  have htt_25 := hh_18.2.2.2.2.2.2.1
  refine W.room (fun hrc_25 hrs_25 => ?_)
  refine W.widen (k := LC - s.heap.size) (n := LS - jTot s.heap) (by omega) (by omega) ?_
  rw [hQ]
  exact W.aret (v := .ref s.heap.size) hx hb hr (Or.inl ⟨_, rfl⟩) (Or.inr ⟨_, rfl⟩) (fun t ht hW => ⟨⟨.ref s.heap.size, ((10 * (n0 / 10) + 1 + nvariables_4 / 6), G_18), rfl, ⟨⟨_, rfl, hgc_18⟩, ⟨_, rfl, hsy_1⟩, by (try dsimp only); exact ⟨(by first | omega | rfl | assumption | fail), (by first | omega | rfl | assumption | fail)⟩⟩, ⟨hh_18.ra (by first | omega | (simp only; omega)) (by first | omega | (simp only; omega)) (M1 := []) [] rfl ht, hNn_18⟩⟩, by rw [ht]; try exact hh_18.1.1, fun q h9 hq => by rw [ht]; try exact hh_18.1.2.1 q h9 hq⟩) hh_18.1.2.2 dX3_withVariable_24
set_option maxHeartbeats 4000000 in
set_option maxRecDepth 20000 in
theorem uX3_withVariableZ (l : Launch) (dC : Nat → ClassId) (dI : Nat → Nat → Nat) (ca : Nat → ClassId) (base : Nat) (B : jF) (hB : jBok B) (hAp : jAp (dC, dI)) (hB5 : ∀ n G a H, B 5 n G a H ↔ jOb (dC, dI) 5 4 (F5 n G) a H) (hB101 : ∀ n G a H, B 101 n G a H ↔ jAr (dC, dI) (ca 1) (fun j z => True) n a H) (hB280 : ∀ n G a H, B 280 n G a H ↔ jAr (dC, dI) (ca 1) (fun j z => -1 ≤ z.toInt) n a H) (hB313 : ∀ n G a H, B 313 n G a H ↔ jAq (dC, dI) (ca 8) (jQk 280 80) n G a H) (G0 : jT) (H0 : Heap) (r0 : Nat) (a1 : Int32) (n0 : Nat) (LC LS : Nat) : Met l yX3_withVariable (jw yX3_withVariable cX3_withVariable 3 (some (.object "ProofServer$Goal"))) ({ frames := 3, cells := LC - H0.size, slots := LS - jTot H0, locals := 105 }) (va_Pc [.ref r0, .int a1, .null] (fun U => U.heap = H0 ∧ jX B base G0 [] H0 ∧ jG dC dI ca base U ∧ G0 r0 = some (5, n0) ∧ jP (dC, dI) G0 H0 [] ∧ H0.size + 2 ≤ LC ∧ jTot H0 + 11 ≤ LS ∧ n0 % 10 = 1)) (jQx (S := Nat × jT) (fun v u => jRf u.2 5 u.1 v ∧ jNwv v H0 ∧ u.1 = 10 * (n0 / 10)) (fun u t => jRa (dC, dI) B base G0 u.2 EX3_withVariableZ H0 (2) (11) [] t.heap ∧ (jNk [0, 1, 2, 3, 4, 6, 7, 8, 9, 10, 11, 12, 13, 14, 15, 16, 17, 175]) G0 u.2) (jA base)) (LC - H0.size) (LS - jTot H0) (jA base) := by
  refine Met.ofW (cc := cX3_withVariable) (maxL := 3) (ret := (some (.object "ProofServer$Goal"))) (by decide) rfl ?_
  intro p e s m args below meth c s₁ Bd hml hv
  obtain ⟨rfl, hH0, hX, hG, hg_r0, hP0, hLC0, hLS0, hp0⟩ := hv
  have hK := hG.1
  have hx := Bd.exec
  have hb := Bd.bytes
  have hr := Bd.returns
  have hts := atoms_spec (ws := (jw yX3_withVariable cX3_withVariable 3 (some (.object "ProofServer$Goal")))) Bd.pre
  have htw : ∀ w ∈ jWl, w.before _ s = true := fun w h => hts w (List.mem_cons_of_mem _ h)
  have hown : s.vm.findClass RX3 = some m.cls := findClass_of_methodNamed Bd.named
  have hlocks := Bd.notSynchronized
  obtain ⟨Q, hQ⟩ : ∃ Q, Q = MQ below (jQx (S := Nat × jT) (fun v u => jRf u.2 5 u.1 v ∧ jNwv v H0 ∧ u.1 = 10 * (n0 / 10)) (fun u t => jRa (dC, dI) B base G0 u.2 EX3_withVariableZ H0 (2) (11) [] t.heap ∧ (jNk [0, 1, 2, 3, 4, 6, 7, 8, 9, 10, 11, 12, 13, 14, 15, 16, 17, 175]) G0 u.2) (jA base)) ([.ref r0, .int a1, .null] : List Value).toArray s (LC - H0.size) (LS - jTot H0) (jA base) := ⟨_, rfl⟩
  rw [← hQ]
  have hl := lv_entry ([.ref r0, .int a1, .null]) (n := 3) (Nat.le_of_ble_eq_true rfl)
  rw [lg_entry_eq]
  generalize (lg_sl ([.ref r0, .int a1, .null]) ++ List.replicate (3 - (lg_sl ([.ref r0, .int a1, .null])).length) Slot.unset).toArray = ls at hl ⊢
  have hl : lv_has ls 3 [(0, .ref r0), (1, .int a1), (2, .null)] := hl
  generalize hR : (headSpec (jw yX3_withVariable cX3_withVariable 3 (some (.object "ProofServer$Goal"))) ({ frames := 3, cells := LC - H0.size, slots := LS - jTot H0, locals := 105 })).room = R
  subst hH0
  have hh : jSt (dC, dI) B base G0 G0 EX3_withVariableZ s.heap 0 0 [] [] [] s.heap [] := jSt.start hX hP0 jMc.nil jIs.nil
  clear hX hP0
  have hk0 : (0 : Int32).toInt = 0 := by decide
  have hk1 : (1 : Int32).toInt = 1 := by decide
  have hly_5_0 := htw (u_lay RX3 TX3 0) (jWc_wsX30 _ (u_in_lay (by decide)))
  have hly_5_1 := htw (u_lay RX3 TX3 1) (jWc_wsX30 _ (u_in_lay (by decide)))
  have hly_5_2 := htw (u_lay RX3 TX3 2) (jWc_wsX30 _ (u_in_lay (by decide)))
  have hlk_9 := (htw (.fieldLink RX3 9 "ProofServer$Goal" "variables" "[I") (jWr_83 _ (List.mem_of_getElem? (i := 10) rfl)))
  have hlk_15 := (htw (.fieldLink RX3 15 "ProofServer$Goal" "names" "[I") (jWr_83 _ (List.mem_of_getElem? (i := 11) rfl)))
  have hlk_18 := (htw (.fieldLink RX3 18 "ProofServer$Goal" "hypotheses" "[[I") (jWr_83 _ (List.mem_of_getElem? (i := 12) rfl)))
  have hrg_a1 := jb_rng a1
  have hbs : base ≤ s.heap.size := Nat.le_of_lt (Nat.lt_of_le_of_lt (hh.ab hg_r0).1 (hh.ab hg_r0).2)
  have hRc : R.cells = LC - s.heap.size := by rw [← hR]; rfl
  have hRs : R.slots = LS - jTot s.heap := by rw [← hR]; rfl
  have hsz_1 := hh.2.2.2.2.2.1
  have htt_1 := hh.2.2.2.2.2.2.1
  refine j7_newo (k := 5) (C := RX3) (T := TX3) (N := 4) (fs := [.null, .null, .null, .null]) hx hb htw jWc_wsX30 (fun k => ([(.array .int), (.array .int), (.array (.array .int)), (.array .int)] : List FieldType).getD k .int) (by decide +kernel) hown (htw (.classLink RX3 10 RX3) (jWr_85 _ (List.mem_of_getElem? (i := 4) rfl))) (htw (.instantiable RX3 4) (jWr_82 _ (List.mem_of_getElem? (i := 9) rfl))) (htw (.initialized RX3) (jWr_82 _ (List.mem_of_getElem? (i := 10) rfl))) hK rfl (fun j hj => by rcases (by omega : j = 0 ∨ j = 1 ∨ j = 2 ∨ j = 3) with rfl | rfl | rfl | rfl <;> rfl) hh hB (by rw [hRc]; omega) (by rw [hRs]; omega) dX3_withVariable_0 (fun H_1 hraw_1 hfr_1 hnr_1 hh_1 => ?_)
  have hke_1 : jKe G0 G0 s.heap H_1 := jKe.raw hfr_1
  have hbr_1 : base ≤ s.heap.size := Nat.le_trans hbs hh.1.1
  have hsy_1 : s.heap.size ≤ s.heap.size := hh.1.1
  clear hh
  refine lv_dup hx hb dX3_withVariable_3 rfl ?_
  refine lv_aload_n hx hb dX3_withVariable_4 rfl (lv_at hl 0 rfl) ?_
  obtain ⟨v_2, hv_2, hh_3⟩ := hh_1.pin (C := RX3) (T := TX3) (N := 4) hB5 rfl (by decide) hg_r0 (i := 0) (by decide) rfl
  clear hh_1
  obtain ⟨variables_4, nvariables_4, rfl, hg_variables_4, hvavariables_4, hvbvariables_4, hvcvariables_4⟩ := hv_2
  refine j7_read hx hb hown hK (C := RX3) (T := TX3) (N := 4) rfl hly_5_0 hlk_9 (hh_3.at 0 rfl) dX3_withVariable_5 ?_
  refine lv_iload_n hx hb dX3_withVariable_8 rfl (lv_at hl 1 rfl) ?_
  have hsz_5 := hh_3.2.2.2.2.2.1
  have htt_5 := hh_3.2.2.2.2.2.2.1
  refine W.room (fun hrc_5 hrs_5 => ?_)
  refine j_callx (A0 := jA base) (H0 := s.heap) (va_runS (As := [.ref variables_4, .int a1]) (rest := [.ref s.heap.size, .ref s.heap.size]) ⟨hx, hb, hml, hown, hts⟩ (uX9_longer l dC dI ca base B hB hAp hB101 G0 H_1 variables_4 a1 nvariables_4 LC LS) (va_cwS 2 hts (jgS (jWr_85 _ (List.mem_of_getElem? (i := 5) rfl)) (jWr_81 _ (List.mem_of_getElem? (i := 20) rfl)) (jWr_4 _ (List.mem_of_getElem? (i := 18) rfl)) (jWr_81 _ (List.mem_of_getElem? (i := 21) rfl))) rfl rfl rfl (by decide +kernel) ⟨by rw [← hR]; exact Nat.le_of_ble_eq_true rfl, by rw [← hR]; exact Nat.le_of_ble_eq_true rfl⟩) ⟨fun a U g mk q => by obtain ⟨q0, q1, q2, qK, q10, q11, q12⟩ := q; exact ⟨q0, q1, q2, jG.calling g mk a qK, q10, q11, q12⟩, fun U hU hW => ⟨rfl, hU, hh_3.2.1, hG.step hW hU hh_3.1, hg_variables_4, jP.nil, by first | omega | rfl | assumption | decide | exact Or.inl rfl | exact Or.inr rfl | (simp only; omega)⟩⟩ rfl rfl hl.1 rfl (lv_room (Nat.le_of_ble_eq_true rfl)) dX3_withVariable_9 ⟨by rw [hRc]; omega, by rw [hRs]; omega⟩) hh_3.1 (fun q _ h => h) (fun q h => h) (fun r_6 u_5 t_5 H_5 locs_5 ht_5 hvm_5 hr_6 hb_5 hz_5 hk_5 hS_5 => ?_)
  rw [ht_5] at hb_5
  obtain ⟨m_ret_5, G_5⟩ := u_5
  simp only at hb_5
  obtain ⟨⟨hb_51, hb_52, hb_53, hb_54, hb_55, hb_56⟩, hN_5, hbK_5⟩ := hb_5
  have hN_5 : (jNk [0, 1, 2, 3, 4, 6, 7, 8, 9, 10, 11, 12, 13, 14, 15, 16, 17, 175]) G0 G_5 := hN_5.sub (by decide)
  have hh_5 : jSt (dC, dI) B base G0 G_5 EX3_withVariableZ s.heap ((0 + 1) + (1)) ((0 + 4) + (m_ret_5)) [(r0, 5, 0, .ref variables_4)] [] [] H_5 locs_5 := (hh_3.callG hb_51 hb_52 hb_53 hb_54 hb_55 hS_5 rfl (L1 := [(r0, 5, 0, .ref variables_4)]) [0] rfl rfl (M1 := []) [] rfl rfl (I1 := []) [] rfl rfl).more hb_56
  have hNn_5 : (jNk [0, 1, 2, 3, 4, 6, 7, 8, 9, 10, 11, 12, 13, 14, 15, 16, 17, 175]) G0 G_5 := (jNk.rf).tr hN_5
  have hg_7 := hb_52 _ _ hg_r0
  have hg_8 := hb_52 _ _ hg_variables_4
  obtain ⟨hr_6, hr_6n, hr_6p⟩ := hr_6
  try simp only at hr_6p
  have hraw_9n := hbK_5.nr hraw_1.lt hnr_1
  have hraw_9 := hraw_1.kept (hbK_5.1 _ hraw_1.lt)
  obtain ⟨ret_10, rfl, hg_ret_10⟩ := hr_6
  have hsy_5 : s.heap.size ≤ ret_10 := Nat.le_trans hh_3.1.1 hr_6n.le
  refine lv_aload_n hx hb dX3_withVariable_12 rfl (lv_at hl 0 rfl) ?_
  obtain ⟨v_11, hv_11, hh_12⟩ := hh_5.pin (C := RX3) (T := TX3) (N := 4) hB5 rfl (by decide) hg_7 (i := 1) (by decide) rfl
  clear hh_5
  obtain ⟨names_13, rfl, hg_names_13⟩ := hv_11
  refine j7_read hx hb hown hK (C := RX3) (T := TX3) (N := 4) rfl hly_5_1 hlk_15 (hh_12.at 0 rfl) dX3_withVariable_13 ?_
  refine lv_aload_n hx hb dX3_withVariable_16 rfl (lv_at hl 0 rfl) ?_
  obtain ⟨v_14, hv_14, hh_15⟩ := hh_12.pin (C := RX3) (T := TX3) (N := 4) hB5 rfl (by decide) hg_7 (i := 2) (by decide) rfl
  clear hh_12
  obtain ⟨hypotheses_16, khypotheses_16, rfl, hg_hypotheses_16, hhahypotheses_16, hhbhypotheses_16, hhchypotheses_16, hhdhypotheses_16, hhehypotheses_16⟩ := hv_14
  obtain rfl : khypotheses_16 = 313 := hhbhypotheses_16 (by omega)
  refine j7_read hx hb hown hK (C := RX3) (T := TX3) (N := 4) rfl hly_5_2 hlk_18 (hh_15.at 0 rfl) dX3_withVariable_17 ?_
  refine j7_nld_n hx hb dX3_withVariable_20 rfl (lv_at hl 2 rfl) ?_
  have hsz_17 := hh_15.2.2.2.2.2.1
  have htt_17 := hh_15.2.2.2.2.2.2.1
  refine W.room (fun hrc_17 hrs_17 => ?_)
  refine va_callv (A0 := jA base) (H0 := s.heap) (va_runI (As := [.ref ret_10, .ref names_13, .ref hypotheses_16, .null]) (rest := [.ref s.heap.size]) ⟨hx, hb, hml, hown, hts⟩ (uX3_initZ l dC dI ca base B hB hAp hB5 hB101 hB280 hB313 G_5 H_5 s.heap.size ret_10 names_13 hypotheses_16 m_ret_5 (n0 / 10) (n0 / 10) (10 * (n0 / 10)) LC LS) (cwI 4 hts (jgW (jWr_83 _ (List.mem_of_getElem? (i := 8) rfl))) rfl rfl rfl (htw (.initialized RX3) (jWr_82 _ (List.mem_of_getElem? (i := 10) rfl))) (htw (.methodLink RX3 25 yX3_init) (jWr_85 _ (List.mem_of_getElem? (i := 7) rfl))) (htw (.instanceMethod yX3_init) (jWr_83 _ (List.mem_of_getElem? (i := 7) rfl))) rfl (by decide +kernel) ⟨by rw [← hR]; exact Nat.le_of_ble_eq_true rfl, by rw [← hR]; exact Nat.le_of_ble_eq_true rfl⟩) ⟨fun a U g mk q => by obtain ⟨q0, q1, q2, qK, q10, q11, q12, q13, q14, q15, q16, q17⟩ := q; exact ⟨q0, q1, q2, jG.calling g mk a qK, q10, q11, q12, q13, q14, q15, q16, q17⟩, fun U hU hW => ⟨rfl, hU, hh_15.2.1, hG.step hW hU hh_15.1, hg_ret_10, hg_names_13, hg_hypotheses_16, hraw_9, hraw_9n, hbr_1, jP.nil, (by omega), (by omega), by first | omega | (refine ⟨?_, ?_, ?_, ?_, ?_⟩ <;> (first | omega | rfl | assumption | decide | exact Or.inl rfl | exact Or.inr rfl | (simp only; omega)))⟩⟩ rfl rfl hl.1 rfl (lv_room (Nat.le_of_ble_eq_true rfl)) dX3_withVariable_21 ⟨by rw [hRc]; omega, by rw [hRs]; omega⟩) hh_15.1 (fun q _ h => h) (fun q h => h) (fun u_17 t_17 H_17 locs_17 ht_17 hvm_17 hr_18 hb_17 hz_17 hk_17 hS_17 => ?_)
  rw [ht_17] at hb_17
  obtain ⟨G_17, rfl⟩ : ∃ z, z = u_17 := ⟨_, rfl⟩
  try simp only at hb_17
  obtain ⟨⟨hb_171, hb_172, hb_173, hb_174, hb_175, hb_176⟩, hN_17, hgc_17, hbX_17⟩ := hb_17
  have hh_17 : jSt (dC, dI) B base G0 G_17 EX3_withVariableZ s.heap (((0 + 1) + (1)) + (0)) (((0 + 4) + (m_ret_5)) + (0)) [(r0, 5, 2, .ref hypotheses_16), (r0, 5, 1, .ref names_13), (r0, 5, 0, .ref variables_4)] [] [] H_17 locs_17 := (hh_15.callG hb_171 hb_172 hb_173 hb_174 hb_175 hS_17 rfl (L1 := [(r0, 5, 2, .ref hypotheses_16), (r0, 5, 1, .ref names_13), (r0, 5, 0, .ref variables_4)]) [0, 1, 2] rfl rfl (M1 := []) [] rfl rfl (I1 := []) [] rfl rfl).more hb_176
  have hNn_17 : (jNk [0, 1, 2, 3, 4, 6, 7, 8, 9, 10, 11, 12, 13, 14, 15, 16, 17, 175]) G0 G_17 := (hNn_5).tr hN_17
  have hg_19 := hb_172 _ _ hg_7
  have hg_20 := hb_172 _ _ hg_hypotheses_16
  have hg_21 := hb_172 _ _ hg_names_13
  have hg_22 := hb_172 _ _ hg_8
  try simp only at hr_18
  have hsz_23 := hh_17.2.2.2.2.2.1
  have htt_23 := hh_17.2.2.2.2.2.2.1
  refine W.room (fun hrc_23 hrs_23 => ?_)
  refine W.widen (k := LC - s.heap.size) (n := LS - jTot s.heap) (by omega) (by omega) ?_
  rw [hQ]
  exact W.aret (v := .ref s.heap.size) hx hb hr (Or.inl ⟨_, rfl⟩) (Or.inr ⟨_, rfl⟩) (fun t ht hW => ⟨⟨.ref s.heap.size, ((10 * (n0 / 10)), G_17), rfl, ⟨⟨_, rfl, hgc_17⟩, ⟨_, rfl, hsy_1⟩, by first | rfl | ((try dsimp only); first | omega | rfl | assumption | fail)⟩, ⟨hh_17.ra (by first | omega | (simp only; omega)) (by first | omega | (simp only; omega)) (M1 := []) [] rfl ht, hNn_17⟩⟩, by rw [ht]; try exact hh_17.1.1, fun q h9 hq => by rw [ht]; try exact hh_17.1.2.1 q h9 hq⟩) hh_17.1.2.2 dX3_withVariable_24
end
