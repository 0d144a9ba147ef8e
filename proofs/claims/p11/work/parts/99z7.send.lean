theorem dX11_feed_0 : decode cX11_feed 0 = .ok (.aload_n 0, 1) := by decide +kernel
theorem dX11_feed_1 : decode cX11_feed 1 = .ok (.getfield 14, 3) := by decide +kernel
theorem dX11_feed_4 : decode cX11_feed 4 = .ok (.getfield 92, 3) := by decide +kernel
theorem dX11_feed_7 : decode cX11_feed 7 = .ok (.sipush 3980, 3) := by decide +kernel
theorem dX11_feed_10 : decode cX11_feed 10 = .ok (.if_icmp .le 5, 3) := by decide +kernel
theorem dX11_feed_13 : decode cX11_feed 13 = .ok (.iconst (-1), 1) := by decide +kernel
theorem dX11_feed_14 : decode cX11_feed 14 = .ok (.ireturn, 1) := by decide +kernel
theorem dX11_feed_15 : decode cX11_feed 15 = .ok (.aload_n 0, 1) := by decide +kernel
theorem dX11_feed_16 : decode cX11_feed 16 = .ok (.iload_n 1, 1) := by decide +kernel
theorem dX11_feed_17 : decode cX11_feed 17 = .ok (.invokevirtual 95, 3) := by decide +kernel
theorem dX11_feed_20 : decode cX11_feed 20 = .ok (.aload_n 0, 1) := by decide +kernel
theorem dX11_feed_21 : decode cX11_feed 21 = .ok (.iload_n 2, 1) := by decide +kernel
theorem dX11_feed_22 : decode cX11_feed 22 = .ok (.invokevirtual 95, 3) := by decide +kernel
theorem dX11_feed_25 : decode cX11_feed 25 = .ok (.aload_n 0, 1) := by decide +kernel
theorem dX11_feed_26 : decode cX11_feed 26 = .ok (.iload_n 3, 1) := by decide +kernel
theorem dX11_feed_27 : decode cX11_feed 27 = .ok (.invokevirtual 95, 3) := by decide +kernel
theorem dX11_feed_30 : decode cX11_feed 30 = .ok (.aload_n 0, 1) := by decide +kernel
theorem dX11_feed_31 : decode cX11_feed 31 = .ok (.iload 4, 2) := by decide +kernel
theorem dX11_feed_33 : decode cX11_feed 33 = .ok (.invokevirtual 95, 3) := by decide +kernel
theorem dX11_feed_36 : decode cX11_feed 36 = .ok (.aload_n 0, 1) := by decide +kernel
theorem dX11_feed_37 : decode cX11_feed 37 = .ok (.iload 5, 2) := by decide +kernel
theorem dX11_feed_39 : decode cX11_feed 39 = .ok (.invokevirtual 95, 3) := by decide +kernel
theorem dX11_feed_42 : decode cX11_feed 42 = .ok (.aload_n 0, 1) := by decide +kernel
theorem dX11_feed_43 : decode cX11_feed 43 = .ok (.getfield 14, 3) := by decide +kernel
theorem dX11_feed_46 : decode cX11_feed 46 = .ok (.getfield 92, 3) := by decide +kernel
theorem dX11_feed_49 : decode cX11_feed 49 = .ok (.ireturn, 1) := by decide +kernel
theorem dX11_take_0 : decode cX11_take 0 = .ok (.aload_n 0, 1) := by decide +kernel
theorem dX11_take_1 : decode cX11_take 1 = .ok (.getfield 32, 3) := by decide +kernel
theorem dX11_take_4 : decode cX11_take 4 = .ok (.getfield 92, 3) := by decide +kernel
theorem dX11_take_7 : decode cX11_take 7 = .ok (.istore_n 1, 1) := by decide +kernel
theorem dX11_take_8 : decode cX11_take 8 = .ok (.aload_n 0, 1) := by decide +kernel
theorem dX11_take_9 : decode cX11_take 9 = .ok (.getfield 32, 3) := by decide +kernel
theorem dX11_take_12 : decode cX11_take 12 = .ok (.iconst 0, 1) := by decide +kernel
theorem dX11_take_13 : decode cX11_take 13 = .ok (.putfield 92, 3) := by decide +kernel
theorem dX11_take_16 : decode cX11_take 16 = .ok (.iload_n 1, 1) := by decide +kernel
theorem dX11_take_17 : decode cX11_take 17 = .ok (.ireturn, 1) := by decide +kernel
theorem dX11_putOnTape_0 : decode cX11_putOnTape 0 = .ok (.bipush 24, 2) := by decide +kernel
theorem dX11_putOnTape_2 : decode cX11_putOnTape 2 = .ok (.istore_n 2, 1) := by decide +kernel
theorem dX11_putOnTape_3 : decode cX11_putOnTape 3 = .ok (.iload_n 2, 1) := by decide +kernel
theorem dX11_putOnTape_4 : decode cX11_putOnTape 4 = .ok (.ifCond .lt 19, 3) := by decide +kernel
theorem dX11_putOnTape_7 : decode cX11_putOnTape 7 = .ok (.aload_n 0, 1) := by decide +kernel
theorem dX11_putOnTape_8 : decode cX11_putOnTape 8 = .ok (.getfield 14, 3) := by decide +kernel
theorem dX11_putOnTape_11 : decode cX11_putOnTape 11 = .ok (.iload_n 1, 1) := by decide +kernel
theorem dX11_putOnTape_12 : decode cX11_putOnTape 12 = .ok (.iload_n 2, 1) := by decide +kernel
theorem dX11_putOnTape_13 : decode cX11_putOnTape 13 = .ok (.ishr, 1) := by decide +kernel
theorem dX11_putOnTape_14 : decode cX11_putOnTape 14 = .ok (.invokevirtual 246, 3) := by decide +kernel
theorem dX11_putOnTape_17 : decode cX11_putOnTape 17 = .ok (.iinc 2 (-8), 3) := by decide +kernel
theorem dX11_putOnTape_20 : decode cX11_putOnTape 20 = .ok (.goto (-17), 3) := by decide +kernel
theorem dX11_putOnTape_23 : decode cX11_putOnTape 23 = .ok (.return_, 1) := by decide +kernel
theorem dX11_send_0 : decode cX11_send 0 = .ok (.aload_n 0, 1) := by decide +kernel
theorem dX11_send_1 : decode cX11_send 1 = .ok (.getfield 21, 3) := by decide +kernel
theorem dX11_send_4 : decode cX11_send 4 = .ok (.getfield 102, 3) := by decide +kernel
theorem dX11_send_7 : decode cX11_send 7 = .ok (.ifCond .eq 4, 3) := by decide +kernel
theorem dX11_send_10 : decode cX11_send 10 = .ok (.return_, 1) := by decide +kernel
theorem dX11_send_11 : decode cX11_send 11 = .ok (.iconst 1, 1) := by decide +kernel
theorem dX11_send_12 : decode cX11_send 12 = .ok (.istore_n 1, 1) := by decide +kernel
theorem dX11_send_13 : decode cX11_send 13 = .ok (.aload_n 0, 1) := by decide +kernel
theorem dX11_send_14 : decode cX11_send 14 = .ok (.getfield 35, 3) := by decide +kernel
theorem dX11_send_17 : decode cX11_send 17 = .ok (.getfield 92, 3) := by decide +kernel
theorem dX11_send_20 : decode cX11_send 20 = .ok (.istore_n 2, 1) := by decide +kernel
theorem dX11_send_21 : decode cX11_send 21 = .ok (.iload_n 2, 1) := by decide +kernel
theorem dX11_send_22 : decode cX11_send 22 = .ok (.bipush 10, 2) := by decide +kernel
theorem dX11_send_24 : decode cX11_send 24 = .ok (.if_icmp .lt 14, 3) := by decide +kernel
theorem dX11_send_27 : decode cX11_send 27 = .ok (.iinc 1 1, 3) := by decide +kernel
theorem dX11_send_30 : decode cX11_send 30 = .ok (.iload_n 2, 1) := by decide +kernel
theorem dX11_send_31 : decode cX11_send 31 = .ok (.bipush 10, 2) := by decide +kernel
theorem dX11_send_33 : decode cX11_send 33 = .ok (.idiv, 1) := by decide +kernel
theorem dX11_send_34 : decode cX11_send 34 = .ok (.istore_n 2, 1) := by decide +kernel
theorem dX11_send_35 : decode cX11_send 35 = .ok (.goto (-14), 3) := by decide +kernel
theorem dX11_send_38 : decode cX11_send 38 = .ok (.aload_n 0, 1) := by decide +kernel
theorem dX11_send_39 : decode cX11_send 39 = .ok (.getfield 32, 3) := by decide +kernel
theorem dX11_send_42 : decode cX11_send 42 = .ok (.getfield 92, 3) := by decide +kernel
theorem dX11_send_45 : decode cX11_send 45 = .ok (.bipush 20, 2) := by decide +kernel
theorem dX11_send_47 : decode cX11_send 47 = .ok (.iadd, 1) := by decide +kernel
theorem dX11_send_48 : decode cX11_send 48 = .ok (.iload_n 1, 1) := by decide +kernel
theorem dX11_send_49 : decode cX11_send 49 = .ok (.iadd, 1) := by decide +kernel
theorem dX11_send_50 : decode cX11_send 50 = .ok (.aload_n 0, 1) := by decide +kernel
theorem dX11_send_51 : decode cX11_send 51 = .ok (.getfield 35, 3) := by decide +kernel
theorem dX11_send_54 : decode cX11_send 54 = .ok (.getfield 92, 3) := by decide +kernel
theorem dX11_send_57 : decode cX11_send 57 = .ok (.iadd, 1) := by decide +kernel
theorem dX11_send_58 : decode cX11_send 58 = .ok (.sipush 20000, 3) := by decide +kernel
theorem dX11_send_61 : decode cX11_send 61 = .ok (.if_icmp .le 14, 3) := by decide +kernel
theorem dX11_send_64 : decode cX11_send 64 = .ok (.aload_n 0, 1) := by decide +kernel
theorem dX11_send_65 : decode cX11_send 65 = .ok (.dup, 1) := by decide +kernel
theorem dX11_send_66 : decode cX11_send 66 = .ok (.getfield 151, 3) := by decide +kernel
theorem dX11_send_69 : decode cX11_send 69 = .ok (.iconst 1, 1) := by decide +kernel
theorem dX11_send_70 : decode cX11_send 70 = .ok (.iadd, 1) := by decide +kernel
theorem dX11_send_71 : decode cX11_send 71 = .ok (.putfield 151, 3) := by decide +kernel
theorem dX11_send_74 : decode cX11_send 74 = .ok (.return_, 1) := by decide +kernel
theorem dX11_send_75 : decode cX11_send 75 = .ok (.aload_n 0, 1) := by decide +kernel
theorem dX11_send_76 : decode cX11_send 76 = .ok (.getfield 32, 3) := by decide +kernel
theorem dX11_send_79 : decode cX11_send 79 = .ok (.ldc_w 560, 3) := by decide +kernel
theorem dX11_send_82 : decode cX11_send 82 = .ok (.invokevirtual 297, 3) := by decide +kernel
theorem dX11_send_85 : decode cX11_send 85 = .ok (.aload_n 0, 1) := by decide +kernel
theorem dX11_send_86 : decode cX11_send 86 = .ok (.getfield 32, 3) := by decide +kernel
theorem dX11_send_89 : decode cX11_send 89 = .ok (.aload_n 0, 1) := by decide +kernel
theorem dX11_send_90 : decode cX11_send 90 = .ok (.getfield 35, 3) := by decide +kernel
theorem dX11_send_93 : decode cX11_send 93 = .ok (.getfield 92, 3) := by decide +kernel
theorem dX11_send_96 : decode cX11_send 96 = .ok (.invokevirtual 466, 3) := by decide +kernel
theorem dX11_send_99 : decode cX11_send 99 = .ok (.aload_n 0, 1) := by decide +kernel
theorem dX11_send_100 : decode cX11_send 100 = .ok (.getfield 32, 3) := by decide +kernel
theorem dX11_send_103 : decode cX11_send 103 = .ok (.ldc_w 562, 3) := by decide +kernel
theorem dX11_send_106 : decode cX11_send 106 = .ok (.invokevirtual 297, 3) := by decide +kernel
theorem dX11_send_109 : decode cX11_send 109 = .ok (.aload_n 0, 1) := by decide +kernel
theorem dX11_send_110 : decode cX11_send 110 = .ok (.getfield 32, 3) := by decide +kernel
theorem dX11_send_113 : decode cX11_send 113 = .ok (.aload_n 0, 1) := by decide +kernel
theorem dX11_send_114 : decode cX11_send 114 = .ok (.getfield 35, 3) := by decide +kernel
theorem dX11_send_117 : decode cX11_send 117 = .ok (.invokevirtual 495, 3) := by decide +kernel
theorem dX11_send_120 : decode cX11_send 120 = .ok (.return_, 1) := by decide +kernel
def EX11_take : List (Nat × Nat) := [(2, 1)]
def EX11_send : List (Nat × Nat) := [(2, 0), (2, 1), (13, 14), (196, 0)]
def EX11_putOnTape : List (Nat × Nat) := [(2, 0), (2, 1), (196, 0)]
def EX11_feed : List (Nat × Nat) := [(2, 0), (2, 1), (196, 0)]
set_option maxHeartbeats 4000000 in
set_option maxRecDepth 20000 in
theorem uX11_take (l : Launch) (dC : Nat → ClassId) (dI : Nat → Nat → Nat) (ca : Nat → ClassId) (base : Nat) (B : jF) (hB : jBok B) (hAp : jAp (dC, dI)) (hB2 : ∀ n G a H, B 2 n G a H ↔ jOb (dC, dI) 2 2 (F2 n G) a H) (hB13 : ∀ n G a H, B 13 n G a H ↔ jOb (dC, dI) 13 19 (F13 n G) a H) (G0 : jT) (H0 : Heap) (r0 : Nat) (ou : Nat) : Met l yX11_take (jw yX11_take cX11_take 2 (some .int)) ({ frames := 0, cells := 0, slots := 0, locals := 0 }) (va_Pc [.ref r0] (fun U => U.heap = H0 ∧ jX B base G0 [] H0 ∧ jG dC dI ca base U ∧ G0 r0 = some (13, 0) ∧ G0 ou = some (2, 20000) ∧ jP (dC, dI) G0 H0 [(r0, 13, 3, .ref ou)] ∧ jIs (dC, dI) G0 H0 [(jFy, jYb dC dI G0)] ∧ True)) (va_Qi (S := Unit) (fun r u => (True)) (fun u t => ((jRt (dC, dI) B base G0 EX11_take H0 [] t.heap) ∧ jOl (dC, dI) G0 2 [ou] H0 t.heap) ∧ jIs (dC, dI) G0 t.heap [(jFy, jYb dC dI G0)]) (jA base)) 0 0 (jA base) := by
  refine Met.ofW (cc := cX11_take) (maxL := 2) (ret := (some .int)) (by decide) rfl ?_
  intro p e s m args below meth c s₁ Bd hml hv
  obtain ⟨rfl, hH0, hX, hG, hg_r0, hg_ou, hP0, hI0, hp0⟩ := hv
  have hK := hG.1
  have hx := Bd.exec
  have hb := Bd.bytes
  have hr := Bd.returns
  have hts := atoms_spec (ws := (jw yX11_take cX11_take 2 (some .int))) Bd.pre
  have htw : ∀ w ∈ jWl, w.before _ s = true := fun w h => hts w (List.mem_cons_of_mem _ h)
  have hown : s.vm.findClass RX11 = some m.cls := findClass_of_methodNamed Bd.named
  have hlocks := Bd.notSynchronized
  obtain ⟨Q, hQ⟩ : ∃ Q, Q = MQ below (va_Qi (S := Unit) (fun r u => (True)) (fun u t => ((jRt (dC, dI) B base G0 EX11_take H0 [] t.heap) ∧ jOl (dC, dI) G0 2 [ou] H0 t.heap) ∧ jIs (dC, dI) G0 t.heap [(jFy, jYb dC dI G0)]) (jA base)) ([.ref r0] : List Value).toArray s 0 0 (jA base) := ⟨_, rfl⟩
  rw [← hQ]
  have hl := lv_entry ([.ref r0]) (n := 2) (Nat.le_of_ble_eq_true rfl)
  rw [lg_entry_eq]
  generalize (lg_sl ([.ref r0]) ++ List.replicate (2 - (lg_sl ([.ref r0])).length) Slot.unset).toArray = ls at hl ⊢
  have hl : lv_has ls 2 [(0, .ref r0)] := hl
  generalize hR : (headSpec (jw yX11_take cX11_take 2 (some .int)) ({ frames := 0, cells := 0, slots := 0, locals := 0 })).room = R
  subst hH0
  have hh : jSt (dC, dI) B base G0 G0 EX11_take s.heap 0 0 [(r0, 13, 3, .ref ou)] [] [(jFy, jYb dC dI G0)] s.heap [] := jSt.start hX hP0 jMc.nil hI0
  clear hX hP0
  have hk0 : (0 : Int32).toInt = 0 := by decide
  have hk1 : (1 : Int32).toInt = 1 := by decide
  have hly_2_1 := htw (u_lay RX0 TX0 1) (jWc_wsX00 _ (u_in_lay (by decide)))
  have hly_13_3 := htw (u_lay RX11 TX11 3) (jWc_wsX110 _ (u_in_lay (by decide)))
  have hlk_32 := (htw (.fieldLink RX11 32 "ProofServer" "output" "LProofServer$Bytes;") (jWr_2 _ (List.mem_of_getElem? (i := 0) rfl)))
  have hlk_92 := (htw (.fieldLink RX11 92 "ProofServer$Bytes" "count" "I") (jWr_15 _ (List.mem_of_getElem? (i := 18) rfl)))
  have hh_1 := hh.addI (jOl.ie (dC := dC) (dI := dI) (G0 := G0) (k := 2) (rs := [ou]) (H0 := s.heap) (F := [(2, 0), (2, 1)]) (C := RX0) (T := TX0) (N := 2) rfl (by decide) hh.2.2.2.2.1 (jOl.rf))
  clear hh
  refine lv_aload_n hx hb dX11_take_0 rfl (lv_at hl 0 rfl) ?_
  refine j7_read hx hb hown hK (C := RX11) (T := TX11) (N := 19) rfl hly_13_3 hlk_32 (hh_1.at 0 rfl) dX11_take_1 ?_
  obtain ⟨v_2, hv_2, hh_3⟩ := hh_1.pin (C := RX0) (T := TX0) (N := 2) hB2 rfl (by decide) hg_ou (i := 1) (by decide) rfl
  clear hh_1
  obtain ⟨count_4, rfl, hlocount_4, hhicount_4, hfxcount_4⟩ := hv_2
  refine j7_read hx hb hown hK (C := RX0) (T := TX0) (N := 2) rfl hly_2_1 hlk_92 (hh_3.at 0 rfl) dX11_take_4 ?_
  refine lv_istore_n (lv' := [(1, .int count_4), (0, .ref r0)]) hx hb dX11_take_7 rfl hl (by decide) rfl (fun ls hl => ?_)
  refine lv_aload_n hx hb dX11_take_8 rfl (lv_at hl 1 rfl) ?_
  refine j7_read hx hb hown hK (C := RX11) (T := TX11) (N := 19) rfl hly_13_3 hlk_32 (hh_3.at 1 rfl) dX11_take_9 ?_
  refine lv_iconst (v := 0) hx hb dX11_take_12 (by decide) ?_
  have hd_6 := hh_3.iv 0 rfl
  have hd_7 := hh_3.iv 1 rfl
  have hh_8 := hh_3.sub (L1 := [(ou, 2, 1, .int count_4), (r0, 13, 3, .ref ou)]) [0, 1] rfl (M1 := []) [] rfl (I1 := []) [] rfl
  clear hh_3
  refine j7_putX hx hb hown hK hh_8 hB hAp hB2 (C := RX0) (T := TX0) (N := 2) rfl (by decide) hg_ou (i := 1) (by decide) hly_2_1 rfl hlk_92 rfl (ty := .int) (v := .int 0) (by decide +kernel) rfl rfl (⟨_, rfl, by omega, by omega, by omega⟩) rfl (L1 := [(r0, 13, 3, .ref ou)]) [1] rfl rfl rfl dX11_take_13 (fun H_5 locs_5 hr_5 hh_5 => ?_)
  clear hh_8
  have hd_7n := jYb.put hd_7 hr_5 hg_ou (fun h9 => by cases h9)
  have hd_6n := jOl.put hd_6 hr_5 (by simp)
  have hh_9 := hh_5.addI (jYb.ie hd_7n)
  clear hh_5
  have hh_10 := hh_9.addI (jOl.ie (dC := dC) (dI := dI) (G0 := G0) (k := 2) (rs := [ou]) (H0 := s.heap) (F := [(2, 0), (2, 1)]) (C := RX0) (T := TX0) (N := 2) rfl (by decide) hh_9.2.2.2.2.1 (hd_6n))
  clear hh_9
  clear hd_6 hd_6n hd_7 hd_7n hr_5
  refine lv_iload_n hx hb dX11_take_16 rfl (lv_at hl 0 rfl) ?_
  rw [hQ]
  exact W.iret (v := count_4) hx hb hr (fun t ht hW => ⟨⟨count_4, (), rfl, trivial, ⟨⟨hh_10.rt (M1 := []) [] rfl ht, by rw [ht]; exact hh_10.iv 0 rfl⟩, by rw [ht]; exact hh_10.2.2.2.2.2.2.2.2.sub (L1 := [(jFy, jYb dC dI G0)]) [1] rfl⟩⟩, by rw [ht]; try exact hh_10.1.1, fun q h9 hq => by rw [ht]; try exact hh_10.1.2.1 q h9 hq⟩) hh_10.1.2.2 dX11_take_17
set_option maxHeartbeats 4000000 in
set_option maxRecDepth 20000 in
theorem uX11_send (l : Launch) (dC : Nat → ClassId) (dI : Nat → Nat → Nat) (ca : Nat → ClassId) (base : Nat) (B : jF) (hB : jBok B) (hAp : jAp (dC, dI)) (hB2 : ∀ n G a H, B 2 n G a H ↔ jOb (dC, dI) 2 2 (F2 n G) a H) (hB4 : ∀ n G a H, B 4 n G a H ↔ jOb (dC, dI) 4 12 (F4 n G) a H) (hB13 : ∀ n G a H, B 13 n G a H ↔ jOb (dC, dI) 13 19 (F13 n G) a H) (hB196 : ∀ n G a H, B 196 n G a H ↔ jAr (dC, dI) (ca 0) (fun j z => jBf j z) n a H) (G0 : jT) (H0 : Heap) (r0 : Nat) (bo : Nat) (pc : Int32) (pa : Nat) (n_pa : Nat) (ou : Nat) (po : Int32) (px : Nat) (n_px : Nat) : Met l yX11_send (jw yX11_send cX11_send 3 none) ({ frames := 5, cells := 0, slots := 0, locals := 163 }) (va_Pc [.ref r0] (fun U => U.heap = H0 ∧ jX B base G0 [] H0 ∧ jG dC dI ca base U ∧ G0 r0 = some (13, 0) ∧ G0 bo = some (2, 0) ∧ G0 pa = some (196, n_pa) ∧ G0 ou = some (2, 20000) ∧ G0 px = some (196, n_px) ∧ jP (dC, dI) G0 H0 [(r0, 13, 4, .ref bo), (bo, 2, 1, .int pc), (bo, 2, 0, .ref pa), (r0, 13, 3, .ref ou), (ou, 2, 1, .int po), (ou, 2, 0, .ref px)] ∧ jIs (dC, dI) G0 H0 [(jFy, jYb dC dI G0)] ∧ 0 ≤ pc.toInt ∧ pc.toInt ≤ n_pa ∧ n_pa ≤ 1048576 ∧ 0 ≤ po.toInt ∧ po.toInt ≤ 20000 ∧ n_px = 20000)) (va_Qv (S := Unit) (fun u => True) (fun u t => ((jRt (dC, dI) B base G0 EX11_send H0 [] t.heap) ∧ jOl (dC, dI) G0 2 [ou] H0 t.heap) ∧ jIs (dC, dI) G0 t.heap [(jFy, jYb dC dI G0)]) (jA base)) 0 0 (jA base) := by
  refine Met.ofW (cc := cX11_send) (maxL := 3) (ret := none) (by decide) rfl ?_
  intro p e s m args below meth c s₁ Bd hml hv
  obtain ⟨rfl, hH0, hX, hG, hg_r0, hg_bo, hg_pa, hg_ou, hg_px, hP0, hI0, hp0, hp1, hp2, hp3, hp4, hp5⟩ := hv
  have hK := hG.1
  have hx := Bd.exec
  have hb := Bd.bytes
  have hr := Bd.returns
  have hts := atoms_spec (ws := (jw yX11_send cX11_send 3 none)) Bd.pre
  have htw : ∀ w ∈ jWl, w.before _ s = true := fun w h => hts w (List.mem_cons_of_mem _ h)
  have hown : s.vm.findClass RX11 = some m.cls := findClass_of_methodNamed Bd.named
  have hlocks := Bd.notSynchronized
  obtain ⟨Q, hQ⟩ : ∃ Q, Q = MQ below (va_Qv (S := Unit) (fun u => True) (fun u t => ((jRt (dC, dI) B base G0 EX11_send H0 [] t.heap) ∧ jOl (dC, dI) G0 2 [ou] H0 t.heap) ∧ jIs (dC, dI) G0 t.heap [(jFy, jYb dC dI G0)]) (jA base)) ([.ref r0] : List Value).toArray s 0 0 (jA base) := ⟨_, rfl⟩
  rw [← hQ]
  have hl := lv_entry ([.ref r0]) (n := 3) (Nat.le_of_ble_eq_true rfl)
  rw [lg_entry_eq]
  generalize (lg_sl ([.ref r0]) ++ List.replicate (3 - (lg_sl ([.ref r0])).length) Slot.unset).toArray = ls at hl ⊢
  have hl : lv_has ls 3 [(0, .ref r0)] := hl
  generalize hR : (headSpec (jw yX11_send cX11_send 3 none) ({ frames := 5, cells := 0, slots := 0, locals := 163 })).room = R
  subst hH0
  have hh : jSt (dC, dI) B base G0 G0 EX11_send s.heap 0 0 [(r0, 13, 4, .ref bo), (bo, 2, 1, .int pc), (bo, 2, 0, .ref pa), (r0, 13, 3, .ref ou), (ou, 2, 1, .int po), (ou, 2, 0, .ref px)] [] [(jFy, jYb dC dI G0)] s.heap [] := jSt.start hX hP0 jMc.nil hI0
  clear hX hP0
  have hk0 : (0 : Int32).toInt = 0 := by decide
  have hk1 : (1 : Int32).toInt = 1 := by decide
  have hk10 : (10 : Int32).toInt = 10 := by decide
  have hk20 : (20 : Int32).toInt = 20 := by decide
  have hk20000 : (20000 : Int32).toInt = 20000 := by decide
  have hly_2_1 := htw (u_lay RX0 TX0 1) (jWc_wsX00 _ (u_in_lay (by decide)))
  have hly_4_4 := htw (u_lay RX2 TX2 4) (jWc_wsX20 _ (u_in_lay (by decide)))
  have hly_13_1 := htw (u_lay RX11 TX11 1) (jWc_wsX110 _ (u_in_lay (by decide)))
  have hly_13_3 := htw (u_lay RX11 TX11 3) (jWc_wsX110 _ (u_in_lay (by decide)))
  have hly_13_4 := htw (u_lay RX11 TX11 4) (jWc_wsX110 _ (u_in_lay (by decide)))
  have hly_13_14 := htw (u_lay RX11 TX11 14) (jWc_wsX110 _ (u_in_lay (by decide)))
  have hlk_21 := (htw (.fieldLink RX11 21 "ProofServer" "frames" "LProofServer$Frames;") (jWr_1 _ (List.mem_of_getElem? (i := 19) rfl)))
  have hlk_102 := (htw (.fieldLink RX11 102 "ProofServer$Frames" "broken" "Z") (jWr_17 _ (List.mem_of_getElem? (i := 8) rfl)))
  have hlk_35 := (htw (.fieldLink RX11 35 "ProofServer" "body" "LProofServer$Bytes;") (jWr_2 _ (List.mem_of_getElem? (i := 1) rfl)))
  have hlk_92 := (htw (.fieldLink RX11 92 "ProofServer$Bytes" "count" "I") (jWr_15 _ (List.mem_of_getElem? (i := 18) rfl)))
  have hlk_32 := (htw (.fieldLink RX11 32 "ProofServer" "output" "LProofServer$Bytes;") (jWr_2 _ (List.mem_of_getElem? (i := 0) rfl)))
  have hlk_151 := (htw (.fieldLink RX11 151 "ProofServer" "lost" "I") (jWr_27 _ (List.mem_of_getElem? (i := 0) rfl)))
  obtain ⟨str560, rstr560, hstr5600⟩ := hG.str (o := RX11) (k := 560) (tx := "Content-Length: ") (List.mem_of_getElem? (i := 850) (by decide +kernel))
  have hstr560 : jStr base str560 16 s s.heap := hstr5600
  obtain ⟨str562, rstr562, hstr5620⟩ := hG.str (o := RX11) (k := 562) (tx := "\r\n\r\n") (List.mem_of_getElem? (i := 851) (by decide +kernel))
  have hstr562 : jStr base str562 4 s s.heap := hstr5620
  have hh_1 := hh.addI (jOl.ie (dC := dC) (dI := dI) (G0 := G0) (k := 2) (rs := [ou]) (H0 := s.heap) (F := [(2, 0), (2, 1)]) (C := RX0) (T := TX0) (N := 2) rfl (by decide) hh.2.2.2.2.1 (jOl.rf))
  clear hh
  refine lv_aload_n hx hb dX11_send_0 rfl (lv_at hl 0 rfl) ?_
  obtain ⟨v_2, hv_2, hh_3⟩ := hh_1.pin (C := RX11) (T := TX11) (N := 19) hB13 rfl (by decide) hg_r0 (i := 1) (by decide) rfl
  clear hh_1
  obtain ⟨frames_4, rfl, hg_frames_4⟩ := hv_2
  refine j7_read hx hb hown hK (C := RX11) (T := TX11) (N := 19) rfl hly_13_1 hlk_21 (hh_3.at 0 rfl) dX11_send_1 ?_
  obtain ⟨v_5, hv_5, hh_6⟩ := hh_3.pin (C := RX2) (T := TX2) (N := 12) hB4 rfl (by decide) hg_frames_4 (i := 4) (by decide) rfl
  clear hh_3
  obtain ⟨broken_7, rfl, hzbroken_7⟩ := hv_5
  have hzbroken_7' := jb_01 hzbroken_7
  refine j7_read hx hb hown hK (C := RX2) (T := TX2) (N := 12) rfl hly_4_4 hlk_102 (hh_6.at 0 rfl) dX11_send_4 ?_
  refine lv_if_eq (tgt := 11) hx hb dX11_send_7 (by decide) (fun c_8 => ?_) (fun c_8 => ?_)
  · skip
    have c_8' : broken_7.toInt = 0 := jb_eq (rfl) ((by decide)) c_8
    refine lv_iconst (v := 1) hx hb dX11_send_11 (by decide) ?_
    refine lv_istore_n (lv' := [(1, .int 1), (0, .ref r0)]) hx hb dX11_send_12 rfl hl (by decide) rfl (fun ls hl => ?_)
    refine lv_aload_n hx hb dX11_send_13 rfl (lv_at hl 1 rfl) ?_
    refine j7_read hx hb hown hK (C := RX11) (T := TX11) (N := 19) rfl hly_13_4 hlk_35 (hh_6.at 2 rfl) dX11_send_14 ?_
    refine j7_read hx hb hown hK (C := RX0) (T := TX0) (N := 2) rfl hly_2_1 hlk_92 (hh_6.at 3 rfl) dX11_send_17 ?_
    refine lv_istore_n (lv' := [(2, .int pc), (1, .int 1), (0, .ref r0)]) hx hb dX11_send_20 rfl hl (by decide) rfl (fun ls hl => ?_)
    have L21 : ∀ (N : Nat) (v1_9 : Int32) (v2_9 : Int32) (H_9 : Heap) (locs_9 : List Loc), jSt (dC, dI) B base G0 G0 EX11_send s.heap 0 0 [(frames_4, 4, 4, .int broken_7), (r0, 13, 1, .ref frames_4), (r0, 13, 4, .ref bo), (bo, 2, 1, .int pc), (bo, 2, 0, .ref pa), (r0, 13, 3, .ref ou), (ou, 2, 1, .int po), (ou, 2, 0, .ref px)] [] [([(2, 0), (2, 1)], jOl (dC, dI) G0 2 [ou] s.heap), (jFy, jYb dC dI G0)] H_9 locs_9 → (0 ≤ v2_9.toInt ∧ jDi pc.toInt v2_9.toInt v1_9.toInt) → (v2_9.toInt : Int) < N → ∀ ls : Array Slot, lv_has ls 3 [(0, .ref r0), (1, .int v1_9), (2, .int v2_9)] → W p l e R s m ([.ref r0] : List Value).toArray below meth c H_9 locs_9 0 0 Q (F0 m 21 ls []) := by
      intro N
      induction N with
      | zero => intro v1_9 v2_9 H_9 locs_9 hh_9  hi_9 hm; exact absurd hm (by omega)
      | succ N L21 =>
        intro v1_9 v2_9 H_9 locs_9 hh_9  hi_9 hm_9 ls hl
        obtain ⟨hi_9_0, hi_9_1⟩ := hi_9
        have hd1 := hi_9_1.bd
        refine lv_iload_n hx hb dX11_send_21 rfl (lv_at hl 2 rfl) ?_
        refine lv_bipush (v := 10) hx hb dX11_send_22 (by decide) ?_
        refine lv_icmp_lt (tgt := 38) hx hb dX11_send_24 (by decide) (fun c_10 => ?_) (fun c_10 => ?_)
        · skip
          have c_10' : v2_9.toInt < 10 := jb_lt (rfl) ((by decide)) c_10
          have hdc := hi_9_1.end (by omega)
          refine lv_aload_n hx hb dX11_send_38 rfl (lv_at hl 0 rfl) ?_
          refine j7_read hx hb hown hK (C := RX11) (T := TX11) (N := 19) rfl hly_13_3 hlk_32 (hh_9.at 5 rfl) dX11_send_39 ?_
          refine j7_read hx hb hown hK (C := RX0) (T := TX0) (N := 2) rfl hly_2_1 hlk_92 (hh_9.at 6 rfl) dX11_send_42 ?_
          refine lv_bipush (v := 20) hx hb dX11_send_45 (by decide) ?_
          refine lv_iadd hx hb dX11_send_47 ?_
          refine lv_topi (fun z_11 ez_11 => ?_)
          have hz_11 : z_11.toInt = po.toInt + 20 := by rw [ez_11]; exact jb_iadd2 (rfl) ((by decide)) (by omega)
          refine lv_iload_n hx hb dX11_send_48 rfl (lv_at hl 1 rfl) ?_
          refine lv_iadd hx hb dX11_send_49 ?_
          refine lv_topi (fun z_12 ez_12 => ?_)
          have hz_12 : z_12.toInt = z_11.toInt + v1_9.toInt := by rw [ez_12]; exact jb_iadd2 (rfl) (rfl) (by omega)
          refine lv_aload_n hx hb dX11_send_50 rfl (lv_at hl 0 rfl) ?_
          refine j7_read hx hb hown hK (C := RX11) (T := TX11) (N := 19) rfl hly_13_4 hlk_35 (hh_9.at 2 rfl) dX11_send_51 ?_
          refine j7_read hx hb hown hK (C := RX0) (T := TX0) (N := 2) rfl hly_2_1 hlk_92 (hh_9.at 3 rfl) dX11_send_54 ?_
          refine lv_iadd hx hb dX11_send_57 ?_
          refine lv_topi (fun z_13 ez_13 => ?_)
          have hz_13 : z_13.toInt = z_12.toInt + pc.toInt := by rw [ez_13]; exact jb_iadd2 (rfl) (rfl) (by omega)
          refine lv_sipush (v := 20000) hx hb dX11_send_58 (by decide) ?_
          refine lv_icmp_le (tgt := 75) hx hb dX11_send_61 (by decide) (fun c_14 => ?_) (fun c_14 => ?_)
          · skip
            have c_14' : z_13.toInt ≤ 20000 := jb_le (rfl) ((by decide)) c_14
            refine lv_aload_n hx hb dX11_send_75 rfl (lv_at hl 0 rfl) ?_
            refine j7_read hx hb hown hK (C := RX11) (T := TX11) (N := 19) rfl hly_13_3 hlk_32 (hh_9.at 5 rfl) dX11_send_76 ?_
            refine j_ldcSw hx hb hown rstr560 dX11_send_79 ?_
            refine va_callv (A0 := jA base) (H0 := s.heap) (va_runV (As := [.ref str560]) (rest := []) ⟨hx, hb, hml, hown, hts⟩ (uX0_textF l dC dI ca base B hB hAp hB2 hB196 G0 H_9 ou str560 16 20000 po px n_px) (cwV 1 hts (jgV (jWr_26 _ (List.mem_of_getElem? (i := 11) rfl)) (jWr_25 _ (List.mem_of_getElem? (i := 22) rfl)) (jWr_25 _ (List.mem_of_getElem? (i := 23) rfl)) (jWr_1 _ (List.mem_of_getElem? (i := 14) rfl)) (jWr_26 _ (List.mem_of_getElem? (i := 0) rfl))) rfl rfl rfl (by decide +kernel) ⟨by rw [← hR]; exact Nat.le_of_ble_eq_true rfl, by rw [← hR]; exact Nat.le_of_ble_eq_true rfl⟩) ⟨fun a U g mk q => by obtain ⟨q0, q1, q2, qK, q10, q11, q12, q13, q14⟩ := q; exact ⟨q0, q1, q2, jG.calling g mk a qK, (q10.moved (Vm.Alike.refl U.vm)), q11, q12, q13, q14⟩, hh_9.recv (C := RX0) (T := TX0) (N := 2) hB2 rfl (by decide) hg_ou hK, fun U hU hW => ⟨rfl, hU, hh_9.2.1, hG.step hW hU hh_9.1, (hstr560.moved hW.alike).kept hh_9.1.2.1, hg_ou, hg_px, (hh_9.2.2.1.sub (L1 := [(ou, 2, 1, .int po), (ou, 2, 0, .ref px)]) [6, 7] rfl), by first | omega | (refine ⟨?_, ?_, ?_, ?_, ?_⟩ <;> (first | omega | rfl | assumption | decide | exact Or.inl rfl | exact Or.inr rfl | (simp only; omega)))⟩⟩ rfl rfl hl.1 rfl (lv_room (Nat.le_of_ble_eq_true rfl)) dX11_send_82 ⟨Nat.zero_le _, Nat.zero_le _⟩) hh_9.1 (fun q _ h => h) (fun q h => h) (fun u_15 t_15 H_15 locs_15 ht_15 hvm_15 hr_16 hb_15 hz_15 hk_15 hS_15 => ?_)
            obtain ⟨qc_15, rfl⟩ : ∃ z, z = u_15 := ⟨_, rfl⟩
            rw [ht_15] at hb_15
            have hy_17 := hh_9.iv 1 rfl
            obtain ⟨hb_15, hbO_15⟩ := hb_15
            obtain ⟨hb_151, hb_152, hb_153, hb_154, hb_155⟩ := hb_15
            have hh_15 : jSt (dC, dI) B base G0 G0 EX11_send s.heap 0 0 [(ou, 2, 1, .int qc_15), (frames_4, 4, 4, .int broken_7), (r0, 13, 1, .ref frames_4), (r0, 13, 4, .ref bo), (bo, 2, 0, .ref pa), (r0, 13, 3, .ref ou), (ou, 2, 0, .ref px)] [] [] H_15 locs_15 := ((hh_9.call hb_151 hb_152 hb_153 hb_154 hS_15 rfl (L1 := [(frames_4, 4, 4, .int broken_7), (r0, 13, 1, .ref frames_4), (r0, 13, 4, .ref bo), (bo, 2, 0, .ref pa), (r0, 13, 3, .ref ou), (ou, 2, 0, .ref px)]) [0, 1, 2, 4, 5, 7] rfl rfl (M1 := []) [] rfl rfl (I1 := []) [] rfl rfl).more hb_155)
            have hh_18 := hh_15.more (P1 := [(bo, 2, 1, .int pc)]) (jP.cons hg_bo (hbO_15 _ _ _ _ (by first | assumption | exact Ne.symm (by assumption) | exact jnek hg_bo hg_ou (by decide)) hg_bo (hh_9.at 3 rfl)) jP.nil)
            have hd_19 := jOl.trO (hh_9.iv 0 rfl) hh_9.2.2.2.2.1 hbO_15 (by simp)
            have hh_20 := hh_18.addI (jOl.ie (dC := dC) (dI := dI) (G0 := G0) (k := 2) (rs := [ou]) (H0 := s.heap) (F := [(2, 0), (2, 1)]) (C := RX0) (T := TX0) (N := 2) rfl (by decide) hh_18.2.2.2.2.1 (hd_19))
            clear hh_18
            clear hh_9 ht_15 hvm_15 hz_15 hk_15 hS_15 hb_151 hb_152 hb_153 hb_154 hb_155
            have hy_21 := jYb.own hy_17 hbO_15 jLe.rf (ks := [2]) jNk.rf (by decide) (fun h => absurd (hg_ou.symm.trans h) (by decide))
            have hh_22 := hh_20.addI (jYb.ie hy_21)
            clear hh_20
            refine lv_aload_n hx hb dX11_send_85 rfl (lv_at hl 0 rfl) ?_
            refine j7_read hx hb hown hK (C := RX11) (T := TX11) (N := 19) rfl hly_13_3 hlk_32 (hh_22.at 6 rfl) dX11_send_86 ?_
            refine lv_aload_n hx hb dX11_send_89 rfl (lv_at hl 0 rfl) ?_
            refine j7_read hx hb hown hK (C := RX11) (T := TX11) (N := 19) rfl hly_13_4 hlk_35 (hh_22.at 4 rfl) dX11_send_90 ?_
            refine j7_read hx hb hown hK (C := RX0) (T := TX0) (N := 2) rfl hly_2_1 hlk_92 (hh_22.at 0 rfl) dX11_send_93 ?_
            refine va_callv (A0 := jA base) (H0 := s.heap) (va_runV (As := [.int pc]) (rest := []) ⟨hx, hb, hml, hown, hts⟩ (uX0_numberF l dC dI ca base B hB hAp hB2 hB196 G0 H_15 ou pc 20000 qc_15 px n_px) (cwV 1 hts (jgV (jWr_26 _ (List.mem_of_getElem? (i := 16) rfl)) (jWr_24 _ (List.mem_of_getElem? (i := 16) rfl)) (jWr_24 _ (List.mem_of_getElem? (i := 17) rfl)) (jWr_1 _ (List.mem_of_getElem? (i := 14) rfl)) (jWr_24 _ (List.mem_of_getElem? (i := 18) rfl))) rfl rfl rfl (by decide +kernel) ⟨by rw [← hR]; exact Nat.le_of_ble_eq_true rfl, by rw [← hR]; exact Nat.le_of_ble_eq_true rfl⟩) ⟨fun a U g mk q => by obtain ⟨q0, q1, q2, qK, q10, q11, q12, q13⟩ := q; exact ⟨q0, q1, q2, jG.calling g mk a qK, q10, q11, q12, q13⟩, hh_22.recv (C := RX0) (T := TX0) (N := 2) hB2 rfl (by decide) hg_ou hK, fun U hU hW => ⟨rfl, hU, hh_22.2.1, hG.step hW hU hh_22.1, hg_ou, hg_px, (hh_22.2.2.1.sub (L1 := [(ou, 2, 1, .int qc_15), (ou, 2, 0, .ref px)]) [1, 7] rfl), ⟨(by first | omega | rfl | assumption | exact hdc.np (by omega)), (by first | omega | rfl | assumption | exact hdc.np (by omega)), (by first | omega | rfl | assumption | exact hdc.np (by omega)), (by first | omega | rfl | assumption | exact hdc.np (by omega)), (by first | omega | rfl | assumption | exact hdc.np (by omega)), (by first | assumption | exact hdc.np (by omega) | omega)⟩⟩⟩ rfl rfl hl.1 rfl (lv_room (Nat.le_of_ble_eq_true rfl)) dX11_send_96 ⟨Nat.zero_le _, Nat.zero_le _⟩) hh_22.1 (fun q _ h => h) (fun q h => h) (fun u_23 t_23 H_23 locs_23 ht_23 hvm_23 hr_24 hb_23 hz_23 hk_23 hS_23 => ?_)
            obtain ⟨qc_23, rfl⟩ : ∃ z, z = u_23 := ⟨_, rfl⟩
            rw [ht_23] at hb_23
            have hy_25 := hh_22.iv 0 rfl
            obtain ⟨hb_23, hbO_23⟩ := hb_23
            obtain ⟨hb_231, hb_232, hb_233, hb_234, hb_235⟩ := hb_23
            have hh_23 : jSt (dC, dI) B base G0 G0 EX11_send s.heap 0 0 [(ou, 2, 1, .int qc_23), (frames_4, 4, 4, .int broken_7), (r0, 13, 1, .ref frames_4), (r0, 13, 4, .ref bo), (bo, 2, 0, .ref pa), (r0, 13, 3, .ref ou), (ou, 2, 0, .ref px)] [] [] H_23 locs_23 := ((hh_22.call hb_231 hb_232 hb_233 hb_234 hS_23 rfl (L1 := [(frames_4, 4, 4, .int broken_7), (r0, 13, 1, .ref frames_4), (r0, 13, 4, .ref bo), (bo, 2, 0, .ref pa), (r0, 13, 3, .ref ou), (ou, 2, 0, .ref px)]) [2, 3, 4, 5, 6, 7] rfl rfl (M1 := []) [] rfl rfl (I1 := []) [] rfl rfl).more hb_235)
            have hh_26 := hh_23.more (P1 := [(bo, 2, 1, .int pc)]) (jP.cons hg_bo (hbO_23 _ _ _ _ (by first | assumption | exact Ne.symm (by assumption) | exact jnek hg_bo hg_ou (by decide)) hg_bo (hh_22.at 0 rfl)) jP.nil)
            have hd_27 := jOl.trO (hh_22.iv 1 rfl) hh_22.2.2.2.2.1 hbO_23 (by simp)
            have hh_28 := hh_26.addI (jOl.ie (dC := dC) (dI := dI) (G0 := G0) (k := 2) (rs := [ou]) (H0 := s.heap) (F := [(2, 0), (2, 1)]) (C := RX0) (T := TX0) (N := 2) rfl (by decide) hh_26.2.2.2.2.1 (hd_27))
            clear hh_26
            clear hh_22 ht_23 hvm_23 hz_23 hk_23 hS_23 hb_231 hb_232 hb_233 hb_234 hb_235
            have hy_29 := jYb.own hy_25 hbO_23 jLe.rf (ks := [2]) jNk.rf (by decide) (fun h => absurd (hg_ou.symm.trans h) (by decide))
            have hh_30 := hh_28.addI (jYb.ie hy_29)
            clear hh_28
            obtain ⟨hr_24_0, hr_24_1, hr_24_2, hr_24_3, hr_24_4, hr_24_5, hr_24_6, hr_24_7⟩ := hr_24
            have hq9 := hdc.end hr_24_1 hr_24_2 hr_24_3 hr_24_4 hr_24_5 hr_24_6 hr_24_7
            clear hr_24_1 hr_24_2 hr_24_3 hr_24_4 hr_24_5 hr_24_6 hr_24_7
            refine lv_aload_n hx hb dX11_send_99 rfl (lv_at hl 0 rfl) ?_
            refine j7_read hx hb hown hK (C := RX11) (T := TX11) (N := 19) rfl hly_13_3 hlk_32 (hh_30.at 6 rfl) dX11_send_100 ?_
            refine j_ldcSw hx hb hown rstr562 dX11_send_103 ?_
            refine va_callv (A0 := jA base) (H0 := s.heap) (va_runV (As := [.ref str562]) (rest := []) ⟨hx, hb, hml, hown, hts⟩ (uX0_textF l dC dI ca base B hB hAp hB2 hB196 G0 H_23 ou str562 4 20000 qc_23 px n_px) (cwV 1 hts (jgV (jWr_26 _ (List.mem_of_getElem? (i := 11) rfl)) (jWr_25 _ (List.mem_of_getElem? (i := 22) rfl)) (jWr_25 _ (List.mem_of_getElem? (i := 23) rfl)) (jWr_1 _ (List.mem_of_getElem? (i := 14) rfl)) (jWr_26 _ (List.mem_of_getElem? (i := 0) rfl))) rfl rfl rfl (by decide +kernel) ⟨by rw [← hR]; exact Nat.le_of_ble_eq_true rfl, by rw [← hR]; exact Nat.le_of_ble_eq_true rfl⟩) ⟨fun a U g mk q => by obtain ⟨q0, q1, q2, qK, q10, q11, q12, q13, q14⟩ := q; exact ⟨q0, q1, q2, jG.calling g mk a qK, (q10.moved (Vm.Alike.refl U.vm)), q11, q12, q13, q14⟩, hh_30.recv (C := RX0) (T := TX0) (N := 2) hB2 rfl (by decide) hg_ou hK, fun U hU hW => ⟨rfl, hU, hh_30.2.1, hG.step hW hU hh_30.1, (hstr562.moved hW.alike).kept hh_30.1.2.1, hg_ou, hg_px, (hh_30.2.2.1.sub (L1 := [(ou, 2, 1, .int qc_23), (ou, 2, 0, .ref px)]) [1, 7] rfl), by first | omega | (refine ⟨?_, ?_, ?_, ?_, ?_⟩ <;> (first | omega | rfl | assumption | decide | exact Or.inl rfl | exact Or.inr rfl | (simp only; omega)))⟩⟩ rfl rfl hl.1 rfl (lv_room (Nat.le_of_ble_eq_true rfl)) dX11_send_106 ⟨Nat.zero_le _, Nat.zero_le _⟩) hh_30.1 (fun q _ h => h) (fun q h => h) (fun u_31 t_31 H_31 locs_31 ht_31 hvm_31 hr_32 hb_31 hz_31 hk_31 hS_31 => ?_)
            obtain ⟨qc_31, rfl⟩ : ∃ z, z = u_31 := ⟨_, rfl⟩
            rw [ht_31] at hb_31
            have hy_33 := hh_30.iv 0 rfl
            obtain ⟨hb_31, hbO_31⟩ := hb_31
            obtain ⟨hb_311, hb_312, hb_313, hb_314, hb_315⟩ := hb_31
            have hh_31 : jSt (dC, dI) B base G0 G0 EX11_send s.heap 0 0 [(ou, 2, 1, .int qc_31), (frames_4, 4, 4, .int broken_7), (r0, 13, 1, .ref frames_4), (r0, 13, 4, .ref bo), (bo, 2, 0, .ref pa), (r0, 13, 3, .ref ou), (ou, 2, 0, .ref px)] [] [] H_31 locs_31 := ((hh_30.call hb_311 hb_312 hb_313 hb_314 hS_31 rfl (L1 := [(frames_4, 4, 4, .int broken_7), (r0, 13, 1, .ref frames_4), (r0, 13, 4, .ref bo), (bo, 2, 0, .ref pa), (r0, 13, 3, .ref ou), (ou, 2, 0, .ref px)]) [2, 3, 4, 5, 6, 7] rfl rfl (M1 := []) [] rfl rfl (I1 := []) [] rfl rfl).more hb_315)
            have hh_34 := hh_31.more (P1 := [(bo, 2, 1, .int pc)]) (jP.cons hg_bo (hbO_31 _ _ _ _ (by first | assumption | exact Ne.symm (by assumption) | exact jnek hg_bo hg_ou (by decide)) hg_bo (hh_30.at 0 rfl)) jP.nil)
            have hd_35 := jOl.trO (hh_30.iv 1 rfl) hh_30.2.2.2.2.1 hbO_31 (by simp)
            have hh_36 := hh_34.addI (jOl.ie (dC := dC) (dI := dI) (G0 := G0) (k := 2) (rs := [ou]) (H0 := s.heap) (F := [(2, 0), (2, 1)]) (C := RX0) (T := TX0) (N := 2) rfl (by decide) hh_34.2.2.2.2.1 (hd_35))
            clear hh_34
            clear hh_30 ht_31 hvm_31 hz_31 hk_31 hS_31 hb_311 hb_312 hb_313 hb_314 hb_315
            have hy_37 := jYb.own hy_33 hbO_31 jLe.rf (ks := [2]) jNk.rf (by decide) (fun h => absurd (hg_ou.symm.trans h) (by decide))
            have hh_38 := hh_36.addI (jYb.ie hy_37)
            clear hh_36
            refine lv_aload_n hx hb dX11_send_109 rfl (lv_at hl 0 rfl) ?_
            refine j7_read hx hb hown hK (C := RX11) (T := TX11) (N := 19) rfl hly_13_3 hlk_32 (hh_38.at 6 rfl) dX11_send_110 ?_
            refine lv_aload_n hx hb dX11_send_113 rfl (lv_at hl 0 rfl) ?_
            refine j7_read hx hb hown hK (C := RX11) (T := TX11) (N := 19) rfl hly_13_4 hlk_35 (hh_38.at 4 rfl) dX11_send_114 ?_
            refine va_callv (A0 := jA base) (H0 := s.heap) (va_runV (As := [.ref bo]) (rest := []) ⟨hx, hb, hml, hown, hts⟩ (uX0_appendF l dC dI ca base B hB hAp hB2 hB196 G0 H_31 ou bo 20000 qc_31 px n_px pc pa n_pa) (cwV 1 hts (jgV (jWr_26 _ (List.mem_of_getElem? (i := 12) rfl)) (jWr_26 _ (List.mem_of_getElem? (i := 13) rfl)) (jWr_26 _ (List.mem_of_getElem? (i := 14) rfl)) (jWr_1 _ (List.mem_of_getElem? (i := 14) rfl)) (jWr_26 _ (List.mem_of_getElem? (i := 15) rfl))) rfl rfl rfl (by decide +kernel) ⟨by rw [← hR]; exact Nat.le_of_ble_eq_true rfl, by rw [← hR]; exact Nat.le_of_ble_eq_true rfl⟩) ⟨fun a U g mk q => by obtain ⟨q0, q1, q2, qK, q10, q11, q12, q13, q14, q15⟩ := q; exact ⟨q0, q1, q2, jG.calling g mk a qK, q10, q11, q12, q13, q14, q15⟩, hh_38.recv (C := RX0) (T := TX0) (N := 2) hB2 rfl (by decide) hg_ou hK, fun U hU hW => ⟨rfl, hU, hh_38.2.1, hG.step hW hU hh_38.1, hg_ou, hg_bo, hg_px, hg_pa, (hh_38.2.2.1.sub (L1 := [(ou, 2, 1, .int qc_31), (ou, 2, 0, .ref px), (bo, 2, 1, .int pc), (bo, 2, 0, .ref pa)]) [1, 7, 0, 5] rfl), by first | omega | (refine ⟨?_, ?_, ?_, ?_, ?_, ?_, ?_, ?_⟩ <;> (first | omega | rfl | assumption | decide | exact Or.inl rfl | exact Or.inr rfl | (simp only; omega)))⟩⟩ rfl rfl hl.1 rfl (lv_room (Nat.le_of_ble_eq_true rfl)) dX11_send_117 ⟨Nat.zero_le _, Nat.zero_le _⟩) hh_38.1 (fun q _ h => h) (fun q h => h) (fun u_39 t_39 H_39 locs_39 ht_39 hvm_39 hr_40 hb_39 hz_39 hk_39 hS_39 => ?_)
            obtain ⟨qc_39, rfl⟩ : ∃ z, z = u_39 := ⟨_, rfl⟩
            rw [ht_39] at hb_39
            have hy_41 := hh_38.iv 0 rfl
            obtain ⟨hb_39, hbO_39⟩ := hb_39
            obtain ⟨hb_391, hb_392, hb_393, hb_394, hb_395⟩ := hb_39
            have hh_39 : jSt (dC, dI) B base G0 G0 EX11_send s.heap 0 0 [(ou, 2, 1, .int qc_39), (frames_4, 4, 4, .int broken_7), (r0, 13, 1, .ref frames_4), (r0, 13, 4, .ref bo), (bo, 2, 0, .ref pa), (r0, 13, 3, .ref ou), (ou, 2, 0, .ref px)] [] [] H_39 locs_39 := ((hh_38.call hb_391 hb_392 hb_393 hb_394 hS_39 rfl (L1 := [(frames_4, 4, 4, .int broken_7), (r0, 13, 1, .ref frames_4), (r0, 13, 4, .ref bo), (bo, 2, 0, .ref pa), (r0, 13, 3, .ref ou), (ou, 2, 0, .ref px)]) [2, 3, 4, 5, 6, 7] rfl rfl (M1 := []) [] rfl rfl (I1 := []) [] rfl rfl).more hb_395)
            have hh_42 := hh_39.more (P1 := [(bo, 2, 1, .int pc)]) (jP.cons hg_bo (hbO_39 _ _ _ _ (by first | assumption | exact Ne.symm (by assumption) | exact jnek hg_bo hg_ou (by decide)) hg_bo (hh_38.at 0 rfl)) jP.nil)
            have hd_43 := jOl.trO (hh_38.iv 1 rfl) hh_38.2.2.2.2.1 hbO_39 (by simp)
            have hh_44 := hh_42.addI (jOl.ie (dC := dC) (dI := dI) (G0 := G0) (k := 2) (rs := [ou]) (H0 := s.heap) (F := [(2, 0), (2, 1)]) (C := RX0) (T := TX0) (N := 2) rfl (by decide) hh_42.2.2.2.2.1 (hd_43))
            clear hh_42
            clear hh_38 ht_39 hvm_39 hz_39 hk_39 hS_39 hb_391 hb_392 hb_393 hb_394 hb_395
            have hy_45 := jYb.own hy_41 hbO_39 jLe.rf (ks := [2]) jNk.rf (by decide) (fun h => absurd (hg_ou.symm.trans h) (by decide))
            have hh_46 := hh_44.addI (jYb.ie hy_45)
            clear hh_44
            rw [hQ]
            exact W.vret hx hb hr (fun t ht hW => ⟨⟨(), rfl, trivial, ⟨⟨hh_46.rt (M1 := []) [] rfl ht, by rw [ht]; exact hh_46.iv 1 rfl⟩, by rw [ht]; exact hh_46.2.2.2.2.2.2.2.2.sub (L1 := [(jFy, jYb dC dI G0)]) [0] rfl⟩⟩, by rw [ht]; try exact hh_46.1.1, fun q h9 hq => by rw [ht]; try exact hh_46.1.2.1 q h9 hq⟩) hh_46.1.2.2 dX11_send_120
          · skip
            have c_14' : z_13.toInt > 20000 := jb_le_n (rfl) ((by decide)) c_14
            refine lv_aload_n hx hb dX11_send_64 rfl (lv_at hl 0 rfl) ?_
            refine lv_dup hx hb dX11_send_65 rfl ?_
            obtain ⟨v_47, hv_47, hh_48⟩ := hh_9.pin (C := RX11) (T := TX11) (N := 19) hB13 rfl (by decide) hg_r0 (i := 14) (by decide) rfl
            clear hh_9
            obtain ⟨lost_49, rfl⟩ := hv_47
            refine j7_read hx hb hown hK (C := RX11) (T := TX11) (N := 19) rfl hly_13_14 hlk_151 (hh_48.at 0 rfl) dX11_send_66 ?_
            refine lv_iconst (v := 1) hx hb dX11_send_69 (by decide) ?_
            refine lv_iadd hx hb dX11_send_70 ?_
            refine lv_topi (fun z_50 ez_50 => ?_)
            refine j7_put hx hb hown hK hh_48 hB hAp hB13 (C := RX11) (T := TX11) (N := 19) rfl (by decide) hg_r0 (i := 14) (by decide) hly_13_14 rfl hlk_151 rfl (ty := .int) (v := .int z_50) (by decide +kernel) rfl rfl (⟨_, rfl⟩) rfl (L1 := [(frames_4, 4, 4, .int broken_7), (r0, 13, 1, .ref frames_4), (r0, 13, 4, .ref bo), (bo, 2, 1, .int pc), (bo, 2, 0, .ref pa), (r0, 13, 3, .ref ou), (ou, 2, 1, .int po), (ou, 2, 0, .ref px)]) [1, 2, 3, 4, 5, 6, 7, 8] rfl rfl rfl dX11_send_71 (fun H_51 locs_51 hh_51 => ?_)
            clear hh_48
            rw [hQ]
            exact W.vret hx hb hr (fun t ht hW => ⟨⟨(), rfl, trivial, ⟨⟨hh_51.rt (M1 := []) [] rfl ht, by rw [ht]; exact hh_51.iv 0 rfl⟩, by rw [ht]; exact hh_51.2.2.2.2.2.2.2.2.sub (L1 := [(jFy, jYb dC dI G0)]) [1] rfl⟩⟩, by rw [ht]; try exact hh_51.1.1, fun q h9 hq => by rw [ht]; try exact hh_51.1.2.1 q h9 hq⟩) hh_51.1.2.2 dX11_send_74
        · skip
          have c_10' : v2_9.toInt ≥ 10 := jb_lt_n (rfl) ((by decide)) c_10
          obtain ⟨z_52, ez_52⟩ : ∃ y : Int32, y = v1_9 + 1 := ⟨_, rfl⟩
          refine lv_iinc (v := z_52) (lv' := [(1, .int z_52), (0, .ref r0), (2, .int v2_9)]) hx hb dX11_send_27 hl (k := 1) rfl (by rw [ez_52]; rfl) (by decide) rfl (fun ls hl => ?_)
          have hz_52 : z_52.toInt = v1_9.toInt + 1 := by rw [ez_52]; exact jb_iadd2 (rfl) (by decide) (by omega)
          refine lv_iload_n hx hb dX11_send_30 rfl (lv_at hl 2 rfl) ?_
          refine lv_bipush (v := 10) hx hb dX11_send_31 (by decide) ?_
          refine lv_idiv hx hb dX11_send_33 (by decide) ?_
          refine lv_topi (fun z_53 ez_53 => ?_)
          have hz_53 := jb_idiv (n := 10) ez_53 (by decide) (by decide)
          refine lv_istore_n (lv' := [(2, .int z_53), (1, .int z_52), (0, .ref r0)]) hx hb dX11_send_34 rfl hl (by decide) rfl (fun ls hl => ?_)
          refine lv_goto (tgt := 21) hx hb dX11_send_35 (by decide) ?_
          exact L21 z_52 z_53 _ _ hh_9 (by refine ⟨by omega, ?_⟩; exact hi_9_1.step (by omega) (by omega) (by omega) (by omega)) (by omega) _ (lv_sub hl [2, 1, 0] rfl)
    exact L21 ((pc : Int32).toInt : Int).toNat.succ 1 pc _ _ hh_6 (by refine ⟨by omega, ?_⟩; rw [hk1]; exact jDi.start) (by omega) _ (lv_sub hl [2, 1, 0] rfl)
  · skip
    have c_8' : broken_7.toInt ≠ 0 := jb_eq_n (rfl) ((by decide)) c_8
    rw [hQ]
    exact W.vret hx hb hr (fun t ht hW => ⟨⟨(), rfl, trivial, ⟨⟨hh_6.rt (M1 := []) [] rfl ht, by rw [ht]; exact hh_6.iv 0 rfl⟩, by rw [ht]; exact hh_6.2.2.2.2.2.2.2.2.sub (L1 := [(jFy, jYb dC dI G0)]) [1] rfl⟩⟩, by rw [ht]; try exact hh_6.1.1, fun q h9 hq => by rw [ht]; try exact hh_6.1.2.1 q h9 hq⟩) hh_6.1.2.2 dX11_send_10
set_option maxHeartbeats 4000000 in
set_option maxRecDepth 20000 in
theorem uX11_putOnTape (l : Launch) (dC : Nat → ClassId) (dI : Nat → Nat → Nat) (ca : Nat → ClassId) (base : Nat) (B : jF) (hB : jBok B) (hAp : jAp (dC, dI)) (hB2 : ∀ n G a H, B 2 n G a H ↔ jOb (dC, dI) 2 2 (F2 n G) a H) (hB13 : ∀ n G a H, B 13 n G a H ↔ jOb (dC, dI) 13 19 (F13 n G) a H) (hB196 : ∀ n G a H, B 196 n G a H ↔ jAr (dC, dI) (ca 0) (fun j z => jBf j z) n a H) (G0 : jT) (H0 : Heap) (r0 : Nat) (a1 : Int32) (ta : Nat) (pt : Int32) (pr : Nat) (n_pr : Nat) : Met l yX11_putOnTape (jw yX11_putOnTape cX11_putOnTape 3 none) ({ frames := 3, cells := 0, slots := 0, locals := 83 }) (va_Pc [.ref r0, .int a1] (fun U => U.heap = H0 ∧ jX B base G0 [] H0 ∧ jG dC dI ca base U ∧ G0 r0 = some (13, 0) ∧ G0 ta = some (2, 4000) ∧ G0 pr = some (196, n_pr) ∧ jP (dC, dI) G0 H0 [(r0, 13, 0, .ref ta), (ta, 2, 1, .int pt), (ta, 2, 0, .ref pr)] ∧ jIs (dC, dI) G0 H0 [(jFy, jYb dC dI G0)] ∧ 0 ≤ pt.toInt ∧ pt.toInt + 4 ≤ 4000 ∧ n_pr = 4000)) (va_Qv (S := Int32) (fun u => u.toInt = pt.toInt + 4) (fun u t => ((jRt (dC, dI) B base G0 EX11_putOnTape H0 [(ta, 2, 1, .int u)] t.heap) ∧ jOl (dC, dI) G0 2 [ta] H0 t.heap) ∧ jIs (dC, dI) G0 t.heap [(jFy, jYb dC dI G0)]) (jA base)) 0 0 (jA base) := by
  refine Met.ofW (cc := cX11_putOnTape) (maxL := 3) (ret := none) (by decide) rfl ?_
  intro p e s m args below meth c s₁ Bd hml hv
  obtain ⟨rfl, hH0, hX, hG, hg_r0, hg_ta, hg_pr, hP0, hI0, hp0, hp1, hp2⟩ := hv
  have hK := hG.1
  have hx := Bd.exec
  have hb := Bd.bytes
  have hr := Bd.returns
  have hts := atoms_spec (ws := (jw yX11_putOnTape cX11_putOnTape 3 none)) Bd.pre
  have htw : ∀ w ∈ jWl, w.before _ s = true := fun w h => hts w (List.mem_cons_of_mem _ h)
  have hown : s.vm.findClass RX11 = some m.cls := findClass_of_methodNamed Bd.named
  have hlocks := Bd.notSynchronized
  obtain ⟨Q, hQ⟩ : ∃ Q, Q = MQ below (va_Qv (S := Int32) (fun u => u.toInt = pt.toInt + 4) (fun u t => ((jRt (dC, dI) B base G0 EX11_putOnTape H0 [(ta, 2, 1, .int u)] t.heap) ∧ jOl (dC, dI) G0 2 [ta] H0 t.heap) ∧ jIs (dC, dI) G0 t.heap [(jFy, jYb dC dI G0)]) (jA base)) ([.ref r0, .int a1] : List Value).toArray s 0 0 (jA base) := ⟨_, rfl⟩
  rw [← hQ]
  have hl := lv_entry ([.ref r0, .int a1]) (n := 3) (Nat.le_of_ble_eq_true rfl)
  rw [lg_entry_eq]
  generalize (lg_sl ([.ref r0, .int a1]) ++ List.replicate (3 - (lg_sl ([.ref r0, .int a1])).length) Slot.unset).toArray = ls at hl ⊢
  have hl : lv_has ls 3 [(0, .ref r0), (1, .int a1)] := hl
  generalize hR : (headSpec (jw yX11_putOnTape cX11_putOnTape 3 none) ({ frames := 3, cells := 0, slots := 0, locals := 83 })).room = R
  subst hH0
  have hh : jSt (dC, dI) B base G0 G0 EX11_putOnTape s.heap 0 0 [(r0, 13, 0, .ref ta), (ta, 2, 1, .int pt), (ta, 2, 0, .ref pr)] [] [(jFy, jYb dC dI G0)] s.heap [] := jSt.start hX hP0 jMc.nil hI0
  clear hX hP0
  have hk0 : (0 : Int32).toInt = 0 := by decide
  have hk1 : (1 : Int32).toInt = 1 := by decide
  have hk24 : (24 : Int32).toInt = 24 := by decide
  have hly_13_0 := htw (u_lay RX11 TX11 0) (jWc_wsX110 _ (u_in_lay (by decide)))
  have hlk_14 := (htw (.fieldLink RX11 14 "ProofServer" "tape" "LProofServer$Bytes;") (jWr_1 _ (List.mem_of_getElem? (i := 15) rfl)))
  have hrg_a1 := jb_rng a1
  have hh_1 := hh.addI (jOl.ie (dC := dC) (dI := dI) (G0 := G0) (k := 2) (rs := [ta]) (H0 := s.heap) (F := [(2, 0), (2, 1)]) (C := RX0) (T := TX0) (N := 2) rfl (by decide) hh.2.2.2.2.1 (jOl.rf))
  clear hh
  refine lv_bipush (v := 24) hx hb dX11_putOnTape_0 (by decide) ?_
  refine lv_istore_n (lv' := [(2, .int 24), (0, .ref r0), (1, .int a1)]) hx hb dX11_putOnTape_2 rfl hl (by decide) rfl (fun ls hl => ?_)
  have L3 : ∀ (N : Nat) (v2_2 : Int32) (wt_2 : Int32) (H_2 : Heap) (locs_2 : List Loc), jSt (dC, dI) B base G0 G0 EX11_putOnTape s.heap 0 0 [(ta, 2, 1, .int wt_2), (r0, 13, 0, .ref ta)] [] [([(2, 0), (2, 1)], jOl (dC, dI) G0 2 [ta] s.heap), (jFy, jYb dC dI G0)] H_2 locs_2 → ((v2_2.toInt = 24 ∧ wt_2.toInt = pt.toInt + 0) ∨ (v2_2.toInt = 16 ∧ wt_2.toInt = pt.toInt + 1) ∨ (v2_2.toInt = 8 ∧ wt_2.toInt = pt.toInt + 2) ∨ (v2_2.toInt = 0 ∧ wt_2.toInt = pt.toInt + 3) ∨ (v2_2.toInt = -8 ∧ wt_2.toInt = pt.toInt + 4)) → (v2_2.toInt + 8 : Int) < N → ∀ ls : Array Slot, lv_has ls 3 [(0, .ref r0), (1, .int a1), (2, .int v2_2)] → W p l e R s m ([.ref r0, .int a1] : List Value).toArray below meth c H_2 locs_2 0 0 Q (F0 m 3 ls []) := by
    intro N
    induction N with
    | zero => intro v2_2 wt_2 H_2 locs_2 hh_2  hi_2 hm; exact absurd hm (by omega)
    | succ N L3 =>
      intro v2_2 wt_2 H_2 locs_2 hh_2  hi_2 hm_2 ls hl
      refine lv_iload_n hx hb dX11_putOnTape_3 rfl (lv_at hl 2 rfl) ?_
      refine lv_if_lt (tgt := 23) hx hb dX11_putOnTape_4 (by decide) (fun c_3 => ?_) (fun c_3 => ?_)
      · skip
        have c_3' : v2_2.toInt < 0 := jb_lt (rfl) ((by decide)) c_3
        rw [hQ]
        exact W.vret hx hb hr (fun t ht hW => ⟨⟨wt_2, rfl, by first | omega | rfl | assumption | decide | exact Or.inl rfl | exact Or.inr rfl | (simp only; omega), ⟨⟨hh_2.rt (M1 := [(ta, 2, 1, .int wt_2)]) [0] rfl ht, by rw [ht]; exact hh_2.iv 0 rfl⟩, by rw [ht]; exact hh_2.2.2.2.2.2.2.2.2.sub (L1 := [(jFy, jYb dC dI G0)]) [1] rfl⟩⟩, by rw [ht]; try exact hh_2.1.1, fun q h9 hq => by rw [ht]; try exact hh_2.1.2.1 q h9 hq⟩) hh_2.1.2.2 dX11_putOnTape_23
      · skip
        have c_3' : v2_2.toInt ≥ 0 := jb_lt_n (rfl) ((by decide)) c_3
        refine lv_aload_n hx hb dX11_putOnTape_7 rfl (lv_at hl 0 rfl) ?_
        refine j7_read hx hb hown hK (C := RX11) (T := TX11) (N := 19) rfl hly_13_0 hlk_14 (hh_2.at 1 rfl) dX11_putOnTape_8 ?_
        refine lv_iload_n hx hb dX11_putOnTape_11 rfl (lv_at hl 1 rfl) ?_
        refine lv_iload_n hx hb dX11_putOnTape_12 rfl (lv_at hl 2 rfl) ?_
        refine lv_ishr hx hb dX11_putOnTape_13 ?_
        refine lv_topi (fun z_4 ez_4 => ?_)
        obtain ⟨v_7, hv_7, hh_8⟩ := hh_2.pin (C := RX0) (T := TX0) (N := 2) hB2 rfl (by decide) hg_ta (i := 0) (by decide) rfl
        obtain ⟨row_9, rfl, hg_row_9⟩ := jBr.k7 hv_7
        refine va_callv (A0 := jA base) (H0 := s.heap) (va_runV (As := [.int z_4]) (rest := []) ⟨hx, hb, hml, hown, hts⟩ (uX0_putF l dC dI ca base B hB hAp hB2 hB196 G0 H_2 ta z_4 4000 wt_2 row_9 4000) (cwV 1 hts (jgV (jWr_15 _ (List.mem_of_getElem? (i := 23) rfl)) (jWr_16 _ (List.mem_of_getElem? (i := 0) rfl)) (jWr_16 _ (List.mem_of_getElem? (i := 1) rfl)) (jWr_1 _ (List.mem_of_getElem? (i := 14) rfl)) (jWr_16 _ (List.mem_of_getElem? (i := 2) rfl))) rfl rfl rfl (by decide +kernel) ⟨by rw [← hR]; exact Nat.le_of_ble_eq_true rfl, by rw [← hR]; exact Nat.le_of_ble_eq_true rfl⟩) ⟨fun a U g mk q => by obtain ⟨q0, q1, q2, qK, q10, q11, q12, q13⟩ := q; exact ⟨q0, q1, q2, jG.calling g mk a qK, q10, q11, q12, q13⟩, hh_8.recv (C := RX0) (T := TX0) (N := 2) hB2 rfl (by decide) hg_ta hK, fun U hU hW => ⟨rfl, hU, hh_8.2.1, hG.step hW hU hh_8.1, hg_ta, hg_row_9, (hh_8.2.2.1.sub (L1 := [(ta, 2, 1, .int wt_2), (ta, 2, 0, .ref row_9)]) [1, 0] rfl), by first | omega | (refine ⟨?_, ?_, ?_, ?_, ?_⟩ <;> (first | omega | rfl | assumption | decide | exact Or.inl rfl | exact Or.inr rfl | (simp only; omega)))⟩⟩ rfl rfl hl.1 rfl (lv_room (Nat.le_of_ble_eq_true rfl)) dX11_putOnTape_14 ⟨Nat.zero_le _, Nat.zero_le _⟩) hh_8.1 (fun q _ h => h) (fun q h => h) (fun u_5 t_5 H_5 locs_5 ht_5 hvm_5 hr_6 hb_5 hz_5 hk_5 hS_5 => ?_)
        obtain ⟨qc_5, rfl⟩ : ∃ z, z = u_5 := ⟨_, rfl⟩
        rw [ht_5] at hb_5
        have hy_10 := hh_8.iv 1 rfl
        obtain ⟨hb_5, hbO_5⟩ := hb_5
        obtain ⟨hb_51, hb_52, hb_53, hb_54, hb_55⟩ := hb_5
        have hh_5 : jSt (dC, dI) B base G0 G0 EX11_putOnTape s.heap 0 0 [(ta, 2, 1, .int qc_5), (ta, 2, 0, .ref row_9), (r0, 13, 0, .ref ta)] [] [] H_5 locs_5 := ((hh_8.call hb_51 hb_52 hb_53 hb_54 hS_5 rfl (L1 := [(ta, 2, 0, .ref row_9), (r0, 13, 0, .ref ta)]) [0, 2] rfl rfl (M1 := []) [] rfl rfl (I1 := []) [] rfl rfl).more hb_55)
        have hd_11 := jOl.trO (hh_8.iv 0 rfl) hh_8.2.2.2.2.1 hbO_5 (by simp)
        have hh_12 := hh_5.addI (jOl.ie (dC := dC) (dI := dI) (G0 := G0) (k := 2) (rs := [ta]) (H0 := s.heap) (F := [(2, 0), (2, 1)]) (C := RX0) (T := TX0) (N := 2) rfl (by decide) hh_5.2.2.2.2.1 (hd_11))
        clear hh_5
        clear hh_8 ht_5 hvm_5 hz_5 hk_5 hS_5 hb_51 hb_52 hb_53 hb_54 hb_55
        have hy_13 := jYb.own hy_10 hbO_5 jLe.rf (ks := [2]) jNk.rf (by decide) (fun h => absurd (hg_ta.symm.trans h) (by decide))
        have hh_14 := hh_12.addI (jYb.ie hy_13)
        clear hh_12
        obtain ⟨z_15, ez_15⟩ : ∃ y : Int32, y = v2_2 + (-8) := ⟨_, rfl⟩
        refine lv_iinc (v := z_15) (lv' := [(2, .int z_15), (0, .ref r0), (1, .int a1)]) hx hb dX11_putOnTape_17 hl (k := 2) rfl (by rw [ez_15]; rfl) (by decide) rfl (fun ls hl => ?_)
        have hz_15 : z_15.toInt = v2_2.toInt + (-8) := by rw [ez_15]; exact jb_iadd2 (rfl) (by decide) (by omega)
        refine lv_goto (tgt := 3) hx hb dX11_putOnTape_20 (by decide) ?_
        exact L3 z_15 qc_5 _ _ (hh_14.sub (L1 := [(ta, 2, 1, .int qc_5), (r0, 13, 0, .ref ta)]) [0, 2] rfl (M1 := []) [] rfl (I1 := [([(2, 0), (2, 1)], jOl (dC, dI) G0 2 [ta] s.heap), (jFy, jYb dC dI G0)]) [1, 0] rfl) (by first | omega | rfl | assumption | decide | exact Or.inl rfl | exact Or.inr rfl | (simp only; omega)) (by omega) _ (lv_sub hl [1, 2, 0] rfl)
  exact L3 ((24 : Int32).toInt + 8 : Int).toNat.succ 24 pt _ _ (hh_1.sub (L1 := [(ta, 2, 1, .int pt), (r0, 13, 0, .ref ta)]) [1, 0] rfl (M1 := []) [] rfl (I1 := [([(2, 0), (2, 1)], jOl (dC, dI) G0 2 [ta] s.heap), (jFy, jYb dC dI G0)]) [0, 1] rfl) (by first | omega | rfl | assumption | decide | exact Or.inl rfl | exact Or.inr rfl | (simp only; omega)) (by omega) _ (lv_sub hl [1, 2, 0] rfl)
set_option maxHeartbeats 4000000 in
set_option maxRecDepth 20000 in
theorem uX11_feed (l : Launch) (dC : Nat → ClassId) (dI : Nat → Nat → Nat) (ca : Nat → ClassId) (base : Nat) (B : jF) (hB : jBok B) (hAp : jAp (dC, dI)) (hB2 : ∀ n G a H, B 2 n G a H ↔ jOb (dC, dI) 2 2 (F2 n G) a H) (hB13 : ∀ n G a H, B 13 n G a H ↔ jOb (dC, dI) 13 19 (F13 n G) a H) (hB196 : ∀ n G a H, B 196 n G a H ↔ jAr (dC, dI) (ca 0) (fun j z => jBf j z) n a H) (G0 : jT) (H0 : Heap) (r0 : Nat) (a1 : Int32) (a2 : Int32) (a3 : Int32) (a4 : Int32) (a5 : Int32) (ta : Nat) (pt : Int32) (pr : Nat) (n_pr : Nat) : Met l yX11_feed (jw yX11_feed cX11_feed 6 (some .int)) ({ frames := 4, cells := 0, slots := 0, locals := 105 }) (va_Pc [.ref r0, .int a1, .int a2, .int a3, .int a4, .int a5] (fun U => U.heap = H0 ∧ jX B base G0 [] H0 ∧ jG dC dI ca base U ∧ G0 r0 = some (13, 0) ∧ G0 ta = some (2, 4000) ∧ G0 pr = some (196, n_pr) ∧ jP (dC, dI) G0 H0 [(r0, 13, 0, .ref ta), (ta, 2, 1, .int pt), (ta, 2, 0, .ref pr)] ∧ jIs (dC, dI) G0 H0 [(jFy, jYb dC dI G0)] ∧ 0 ≤ pt.toInt ∧ pt.toInt ≤ 4000 ∧ n_pr = 4000)) (va_Qi (S := Int32) (fun r u => ((3980 < pt.toInt ∧ r.toInt = -1 ∧ u.toInt = pt.toInt) ∨ (pt.toInt ≤ 3980 ∧ r.toInt = pt.toInt + 20 ∧ u.toInt = pt.toInt + 20))) (fun u t => ((jRt (dC, dI) B base G0 EX11_feed H0 [(ta, 2, 1, .int u)] t.heap) ∧ jOl (dC, dI) G0 2 [ta] H0 t.heap) ∧ jIs (dC, dI) G0 t.heap [(jFy, jYb dC dI G0)]) (jA base)) 0 0 (jA base) := by
  refine Met.ofW (cc := cX11_feed) (maxL := 6) (ret := (some .int)) (by decide) rfl ?_
  intro p e s m args below meth c s₁ Bd hml hv
  obtain ⟨rfl, hH0, hX, hG, hg_r0, hg_ta, hg_pr, hP0, hI0, hp0, hp1, hp2⟩ := hv
  have hK := hG.1
  have hx := Bd.exec
  have hb := Bd.bytes
  have hr := Bd.returns
  have hts := atoms_spec (ws := (jw yX11_feed cX11_feed 6 (some .int))) Bd.pre
  have htw : ∀ w ∈ jWl, w.before _ s = true := fun w h => hts w (List.mem_cons_of_mem _ h)
  have hown : s.vm.findClass RX11 = some m.cls := findClass_of_methodNamed Bd.named
  have hlocks := Bd.notSynchronized
  obtain ⟨Q, hQ⟩ : ∃ Q, Q = MQ below (va_Qi (S := Int32) (fun r u => ((3980 < pt.toInt ∧ r.toInt = -1 ∧ u.toInt = pt.toInt) ∨ (pt.toInt ≤ 3980 ∧ r.toInt = pt.toInt + 20 ∧ u.toInt = pt.toInt + 20))) (fun u t => ((jRt (dC, dI) B base G0 EX11_feed H0 [(ta, 2, 1, .int u)] t.heap) ∧ jOl (dC, dI) G0 2 [ta] H0 t.heap) ∧ jIs (dC, dI) G0 t.heap [(jFy, jYb dC dI G0)]) (jA base)) ([.ref r0, .int a1, .int a2, .int a3, .int a4, .int a5] : List Value).toArray s 0 0 (jA base) := ⟨_, rfl⟩
  rw [← hQ]
  have hl := lv_entry ([.ref r0, .int a1, .int a2, .int a3, .int a4, .int a5]) (n := 6) (Nat.le_of_ble_eq_true rfl)
  rw [lg_entry_eq]
  generalize (lg_sl ([.ref r0, .int a1, .int a2, .int a3, .int a4, .int a5]) ++ List.replicate (6 - (lg_sl ([.ref r0, .int a1, .int a2, .int a3, .int a4, .int a5])).length) Slot.unset).toArray = ls at hl ⊢
  have hl : lv_has ls 6 [(0, .ref r0), (1, .int a1), (2, .int a2), (3, .int a3), (4, .int a4), (5, .int a5)] := hl
  generalize hR : (headSpec (jw yX11_feed cX11_feed 6 (some .int)) ({ frames := 4, cells := 0, slots := 0, locals := 105 })).room = R
  subst hH0
  have hh : jSt (dC, dI) B base G0 G0 EX11_feed s.heap 0 0 [(r0, 13, 0, .ref ta), (ta, 2, 1, .int pt), (ta, 2, 0, .ref pr)] [] [(jFy, jYb dC dI G0)] s.heap [] := jSt.start hX hP0 jMc.nil hI0
  clear hX hP0
  have hkm1 : ((-1) : Int32).toInt = (-1) := by decide
  have hk0 : (0 : Int32).toInt = 0 := by decide
  have hk1 : (1 : Int32).toInt = 1 := by decide
  have hk3980 : (3980 : Int32).toInt = 3980 := by decide
  have hly_2_1 := htw (u_lay RX0 TX0 1) (jWc_wsX00 _ (u_in_lay (by decide)))
  have hly_13_0 := htw (u_lay RX11 TX11 0) (jWc_wsX110 _ (u_in_lay (by decide)))
  have hlk_14 := (htw (.fieldLink RX11 14 "ProofServer" "tape" "LProofServer$Bytes;") (jWr_1 _ (List.mem_of_getElem? (i := 15) rfl)))
  have hlk_92 := (htw (.fieldLink RX11 92 "ProofServer$Bytes" "count" "I") (jWr_15 _ (List.mem_of_getElem? (i := 18) rfl)))
  have hrg_a1 := jb_rng a1
  have hrg_a2 := jb_rng a2
  have hrg_a3 := jb_rng a3
  have hrg_a4 := jb_rng a4
  have hrg_a5 := jb_rng a5
  have hh_1 := hh.addI (jOl.ie (dC := dC) (dI := dI) (G0 := G0) (k := 2) (rs := [ta]) (H0 := s.heap) (F := [(2, 0), (2, 1)]) (C := RX0) (T := TX0) (N := 2) rfl (by decide) hh.2.2.2.2.1 (jOl.rf))
  clear hh
  refine lv_aload_n hx hb dX11_feed_0 rfl (lv_at hl 0 rfl) ?_
  refine j7_read hx hb hown hK (C := RX11) (T := TX11) (N := 19) rfl hly_13_0 hlk_14 (hh_1.at 0 rfl) dX11_feed_1 ?_
  refine j7_read hx hb hown hK (C := RX0) (T := TX0) (N := 2) rfl hly_2_1 hlk_92 (hh_1.at 1 rfl) dX11_feed_4 ?_
  refine lv_sipush (v := 3980) hx hb dX11_feed_7 (by decide) ?_
  refine lv_icmp_le (tgt := 15) hx hb dX11_feed_10 (by decide) (fun c_2 => ?_) (fun c_2 => ?_)
  · skip
    have c_2' : pt.toInt ≤ 3980 := jb_le (rfl) ((by decide)) c_2
    refine lv_aload_n hx hb dX11_feed_15 rfl (lv_at hl 0 rfl) ?_
    refine lv_iload_n hx hb dX11_feed_16 rfl (lv_at hl 1 rfl) ?_
    refine va_callv (A0 := jA base) (H0 := s.heap) (va_runV (As := [.int a1]) (rest := []) ⟨hx, hb, hml, hown, hts⟩ (uX11_putOnTape l dC dI ca base B hB hAp hB2 hB13 hB196 G0 s.heap r0 a1 ta pt pr n_pr) (cwV 1 hts (jgV (jWr_15 _ (List.mem_of_getElem? (i := 19) rfl)) (jWr_15 _ (List.mem_of_getElem? (i := 20) rfl)) (jWr_15 _ (List.mem_of_getElem? (i := 21) rfl)) (jWr_1 _ (List.mem_of_getElem? (i := 2) rfl)) (jWr_15 _ (List.mem_of_getElem? (i := 22) rfl))) rfl rfl rfl (by decide +kernel) ⟨by rw [← hR]; exact Nat.le_of_ble_eq_true rfl, by rw [← hR]; exact Nat.le_of_ble_eq_true rfl⟩) ⟨fun a U g mk q => by obtain ⟨q0, q1, q2, qK, q10, q11, q12, q13, q14, q15⟩ := q; exact ⟨q0, q1, q2, jG.calling g mk a qK, q10, q11, q12, q13, q14, q15⟩, hh_1.recv (C := RX11) (T := TX11) (N := 19) hB13 rfl (by decide) hg_r0 hK, fun U hU hW => ⟨rfl, hU, hh_1.2.1, hG.step hW hU hh_1.1, hg_r0, hg_ta, hg_pr, (hh_1.2.2.1.sub (L1 := [(r0, 13, 0, .ref ta), (ta, 2, 1, .int pt), (ta, 2, 0, .ref pr)]) [0, 1, 2] rfl), (hh_1.2.2.2.2.2.2.2.2.sub (L1 := [(jFy, jYb dC dI G0)]) [1] rfl), by first | omega | (refine ⟨?_, ?_, ?_⟩ <;> (first | omega | rfl | assumption | decide | exact Or.inl rfl | exact Or.inr rfl | (simp only; omega)))⟩⟩ rfl rfl hl.1 rfl (lv_room (Nat.le_of_ble_eq_true rfl)) dX11_feed_17 ⟨Nat.zero_le _, Nat.zero_le _⟩) hh_1.1 (fun q _ h => h) (fun q h => h) (fun u_3 t_3 H_3 locs_3 ht_3 hvm_3 hr_4 hb_3 hz_3 hk_3 hS_3 => ?_)
    obtain ⟨qt_3, rfl⟩ : ∃ z, z = u_3 := ⟨_, rfl⟩
    rw [ht_3] at hb_3
    obtain ⟨hb_3, hbE_3⟩ := hb_3
    obtain ⟨hb_3, hbO_3⟩ := hb_3
    obtain ⟨hb_31, hb_32, hb_33, hb_34, hb_35⟩ := hb_3
    have hh_3 : jSt (dC, dI) B base G0 G0 EX11_feed s.heap 0 0 [(ta, 2, 1, .int qt_3), (r0, 13, 0, .ref ta)] [] [(jFy, jYb dC dI G0)] H_3 locs_3 := (((hh_1.call hb_31 hb_32 hb_33 hb_34 hS_3 rfl (L1 := [(r0, 13, 0, .ref ta)]) [0] rfl rfl (M1 := []) [] rfl rfl (I1 := []) [] rfl rfl).more hb_35)).addIs hbE_3
    have hd_5 := jOl.trL (hh_1.iv 0 rfl) hh_1.2.2.2.2.1 hbO_3 (by simp)
    have hh_6 := hh_3.addI (jOl.ie (dC := dC) (dI := dI) (G0 := G0) (k := 2) (rs := [ta]) (H0 := s.heap) (F := [(2, 0), (2, 1)]) (C := RX0) (T := TX0) (N := 2) rfl (by decide) hh_3.2.2.2.2.1 (hd_5))
    clear hh_3
    clear hh_1 ht_3 hvm_3 hz_3 hk_3 hS_3 hb_31 hb_32 hb_33 hb_34 hb_35
    clear  hbE_3
    refine lv_aload_n hx hb dX11_feed_20 rfl (lv_at hl 0 rfl) ?_
    refine lv_iload_n hx hb dX11_feed_21 rfl (lv_at hl 2 rfl) ?_
    obtain ⟨v_9, hv_9, hh_10⟩ := hh_6.pin (C := RX0) (T := TX0) (N := 2) hB2 rfl (by decide) hg_ta (i := 0) (by decide) rfl
    obtain ⟨row_11, rfl, hg_row_11⟩ := jBr.k7 hv_9
    refine va_callv (A0 := jA base) (H0 := s.heap) (va_runV (As := [.int a2]) (rest := []) ⟨hx, hb, hml, hown, hts⟩ (uX11_putOnTape l dC dI ca base B hB hAp hB2 hB13 hB196 G0 H_3 r0 a2 ta qt_3 row_11 4000) (cwV 1 hts (jgV (jWr_15 _ (List.mem_of_getElem? (i := 19) rfl)) (jWr_15 _ (List.mem_of_getElem? (i := 20) rfl)) (jWr_15 _ (List.mem_of_getElem? (i := 21) rfl)) (jWr_1 _ (List.mem_of_getElem? (i := 2) rfl)) (jWr_15 _ (List.mem_of_getElem? (i := 22) rfl))) rfl rfl rfl (by decide +kernel) ⟨by rw [← hR]; exact Nat.le_of_ble_eq_true rfl, by rw [← hR]; exact Nat.le_of_ble_eq_true rfl⟩) ⟨fun a U g mk q => by obtain ⟨q0, q1, q2, qK, q10, q11, q12, q13, q14, q15⟩ := q; exact ⟨q0, q1, q2, jG.calling g mk a qK, q10, q11, q12, q13, q14, q15⟩, hh_10.recv (C := RX11) (T := TX11) (N := 19) hB13 rfl (by decide) hg_r0 hK, fun U hU hW => ⟨rfl, hU, hh_10.2.1, hG.step hW hU hh_10.1, hg_r0, hg_ta, hg_row_11, (hh_10.2.2.1.sub (L1 := [(r0, 13, 0, .ref ta), (ta, 2, 1, .int qt_3), (ta, 2, 0, .ref row_11)]) [2, 1, 0] rfl), (hh_10.2.2.2.2.2.2.2.2.sub (L1 := [(jFy, jYb dC dI G0)]) [1] rfl), by first | omega | (refine ⟨?_, ?_, ?_⟩ <;> (first | omega | rfl | assumption | decide | exact Or.inl rfl | exact Or.inr rfl | (simp only; omega)))⟩⟩ rfl rfl hl.1 rfl (lv_room (Nat.le_of_ble_eq_true rfl)) dX11_feed_22 ⟨Nat.zero_le _, Nat.zero_le _⟩) hh_10.1 (fun q _ h => h) (fun q h => h) (fun u_7 t_7 H_7 locs_7 ht_7 hvm_7 hr_8 hb_7 hz_7 hk_7 hS_7 => ?_)
    obtain ⟨qt_7, rfl⟩ : ∃ z, z = u_7 := ⟨_, rfl⟩
    rw [ht_7] at hb_7
    obtain ⟨hb_7, hbE_7⟩ := hb_7
    obtain ⟨hb_7, hbO_7⟩ := hb_7
    obtain ⟨hb_71, hb_72, hb_73, hb_74, hb_75⟩ := hb_7
    have hh_7 : jSt (dC, dI) B base G0 G0 EX11_feed s.heap 0 0 [(ta, 2, 1, .int qt_7), (r0, 13, 0, .ref ta)] [] [(jFy, jYb dC dI G0)] H_7 locs_7 := (((hh_10.call hb_71 hb_72 hb_73 hb_74 hS_7 rfl (L1 := [(r0, 13, 0, .ref ta)]) [2] rfl rfl (M1 := []) [] rfl rfl (I1 := []) [] rfl rfl).more hb_75)).addIs hbE_7
    have hd_12 := jOl.trL (hh_10.iv 0 rfl) hh_10.2.2.2.2.1 hbO_7 (by simp)
    have hh_13 := hh_7.addI (jOl.ie (dC := dC) (dI := dI) (G0 := G0) (k := 2) (rs := [ta]) (H0 := s.heap) (F := [(2, 0), (2, 1)]) (C := RX0) (T := TX0) (N := 2) rfl (by decide) hh_7.2.2.2.2.1 (hd_12))
    clear hh_7
    clear hh_10 ht_7 hvm_7 hz_7 hk_7 hS_7 hb_71 hb_72 hb_73 hb_74 hb_75
    clear  hbE_7
    refine lv_aload_n hx hb dX11_feed_25 rfl (lv_at hl 0 rfl) ?_
    refine lv_iload_n hx hb dX11_feed_26 rfl (lv_at hl 3 rfl) ?_
    obtain ⟨v_16, hv_16, hh_17⟩ := hh_13.pin (C := RX0) (T := TX0) (N := 2) hB2 rfl (by decide) hg_ta (i := 0) (by decide) rfl
    obtain ⟨row_18, rfl, hg_row_18⟩ := jBr.k7 hv_16
    refine va_callv (A0 := jA base) (H0 := s.heap) (va_runV (As := [.int a3]) (rest := []) ⟨hx, hb, hml, hown, hts⟩ (uX11_putOnTape l dC dI ca base B hB hAp hB2 hB13 hB196 G0 H_7 r0 a3 ta qt_7 row_18 4000) (cwV 1 hts (jgV (jWr_15 _ (List.mem_of_getElem? (i := 19) rfl)) (jWr_15 _ (List.mem_of_getElem? (i := 20) rfl)) (jWr_15 _ (List.mem_of_getElem? (i := 21) rfl)) (jWr_1 _ (List.mem_of_getElem? (i := 2) rfl)) (jWr_15 _ (List.mem_of_getElem? (i := 22) rfl))) rfl rfl rfl (by decide +kernel) ⟨by rw [← hR]; exact Nat.le_of_ble_eq_true rfl, by rw [← hR]; exact Nat.le_of_ble_eq_true rfl⟩) ⟨fun a U g mk q => by obtain ⟨q0, q1, q2, qK, q10, q11, q12, q13, q14, q15⟩ := q; exact ⟨q0, q1, q2, jG.calling g mk a qK, q10, q11, q12, q13, q14, q15⟩, hh_17.recv (C := RX11) (T := TX11) (N := 19) hB13 rfl (by decide) hg_r0 hK, fun U hU hW => ⟨rfl, hU, hh_17.2.1, hG.step hW hU hh_17.1, hg_r0, hg_ta, hg_row_18, (hh_17.2.2.1.sub (L1 := [(r0, 13, 0, .ref ta), (ta, 2, 1, .int qt_7), (ta, 2, 0, .ref row_18)]) [2, 1, 0] rfl), (hh_17.2.2.2.2.2.2.2.2.sub (L1 := [(jFy, jYb dC dI G0)]) [1] rfl), by first | omega | (refine ⟨?_, ?_, ?_⟩ <;> (first | omega | rfl | assumption | decide | exact Or.inl rfl | exact Or.inr rfl | (simp only; omega)))⟩⟩ rfl rfl hl.1 rfl (lv_room (Nat.le_of_ble_eq_true rfl)) dX11_feed_27 ⟨Nat.zero_le _, Nat.zero_le _⟩) hh_17.1 (fun q _ h => h) (fun q h => h) (fun u_14 t_14 H_14 locs_14 ht_14 hvm_14 hr_15 hb_14 hz_14 hk_14 hS_14 => ?_)
    obtain ⟨qt_14, rfl⟩ : ∃ z, z = u_14 := ⟨_, rfl⟩
    rw [ht_14] at hb_14
    obtain ⟨hb_14, hbE_14⟩ := hb_14
    obtain ⟨hb_14, hbO_14⟩ := hb_14
    obtain ⟨hb_141, hb_142, hb_143, hb_144, hb_145⟩ := hb_14
    have hh_14 : jSt (dC, dI) B base G0 G0 EX11_feed s.heap 0 0 [(ta, 2, 1, .int qt_14), (r0, 13, 0, .ref ta)] [] [(jFy, jYb dC dI G0)] H_14 locs_14 := (((hh_17.call hb_141 hb_142 hb_143 hb_144 hS_14 rfl (L1 := [(r0, 13, 0, .ref ta)]) [2] rfl rfl (M1 := []) [] rfl rfl (I1 := []) [] rfl rfl).more hb_145)).addIs hbE_14
    have hd_19 := jOl.trL (hh_17.iv 0 rfl) hh_17.2.2.2.2.1 hbO_14 (by simp)
    have hh_20 := hh_14.addI (jOl.ie (dC := dC) (dI := dI) (G0 := G0) (k := 2) (rs := [ta]) (H0 := s.heap) (F := [(2, 0), (2, 1)]) (C := RX0) (T := TX0) (N := 2) rfl (by decide) hh_14.2.2.2.2.1 (hd_19))
    clear hh_14
    clear hh_17 ht_14 hvm_14 hz_14 hk_14 hS_14 hb_141 hb_142 hb_143 hb_144 hb_145
    clear  hbE_14
    refine lv_aload_n hx hb dX11_feed_30 rfl (lv_at hl 0 rfl) ?_
    refine lv_iload hx hb dX11_feed_31 (lv_at hl 4 rfl) ?_
    obtain ⟨v_23, hv_23, hh_24⟩ := hh_20.pin (C := RX0) (T := TX0) (N := 2) hB2 rfl (by decide) hg_ta (i := 0) (by decide) rfl
    obtain ⟨row_25, rfl, hg_row_25⟩ := jBr.k7 hv_23
    refine va_callv (A0 := jA base) (H0 := s.heap) (va_runV (As := [.int a4]) (rest := []) ⟨hx, hb, hml, hown, hts⟩ (uX11_putOnTape l dC dI ca base B hB hAp hB2 hB13 hB196 G0 H_14 r0 a4 ta qt_14 row_25 4000) (cwV 1 hts (jgV (jWr_15 _ (List.mem_of_getElem? (i := 19) rfl)) (jWr_15 _ (List.mem_of_getElem? (i := 20) rfl)) (jWr_15 _ (List.mem_of_getElem? (i := 21) rfl)) (jWr_1 _ (List.mem_of_getElem? (i := 2) rfl)) (jWr_15 _ (List.mem_of_getElem? (i := 22) rfl))) rfl rfl rfl (by decide +kernel) ⟨by rw [← hR]; exact Nat.le_of_ble_eq_true rfl, by rw [← hR]; exact Nat.le_of_ble_eq_true rfl⟩) ⟨fun a U g mk q => by obtain ⟨q0, q1, q2, qK, q10, q11, q12, q13, q14, q15⟩ := q; exact ⟨q0, q1, q2, jG.calling g mk a qK, q10, q11, q12, q13, q14, q15⟩, hh_24.recv (C := RX11) (T := TX11) (N := 19) hB13 rfl (by decide) hg_r0 hK, fun U hU hW => ⟨rfl, hU, hh_24.2.1, hG.step hW hU hh_24.1, hg_r0, hg_ta, hg_row_25, (hh_24.2.2.1.sub (L1 := [(r0, 13, 0, .ref ta), (ta, 2, 1, .int qt_14), (ta, 2, 0, .ref row_25)]) [2, 1, 0] rfl), (hh_24.2.2.2.2.2.2.2.2.sub (L1 := [(jFy, jYb dC dI G0)]) [1] rfl), by first | omega | (refine ⟨?_, ?_, ?_⟩ <;> (first | omega | rfl | assumption | decide | exact Or.inl rfl | exact Or.inr rfl | (simp only; omega)))⟩⟩ rfl rfl hl.1 rfl (lv_room (Nat.le_of_ble_eq_true rfl)) dX11_feed_33 ⟨Nat.zero_le _, Nat.zero_le _⟩) hh_24.1 (fun q _ h => h) (fun q h => h) (fun u_21 t_21 H_21 locs_21 ht_21 hvm_21 hr_22 hb_21 hz_21 hk_21 hS_21 => ?_)
    obtain ⟨qt_21, rfl⟩ : ∃ z, z = u_21 := ⟨_, rfl⟩
    rw [ht_21] at hb_21
    obtain ⟨hb_21, hbE_21⟩ := hb_21
    obtain ⟨hb_21, hbO_21⟩ := hb_21
    obtain ⟨hb_211, hb_212, hb_213, hb_214, hb_215⟩ := hb_21
    have hh_21 : jSt (dC, dI) B base G0 G0 EX11_feed s.heap 0 0 [(ta, 2, 1, .int qt_21), (r0, 13, 0, .ref ta)] [] [(jFy, jYb dC dI G0)] H_21 locs_21 := (((hh_24.call hb_211 hb_212 hb_213 hb_214 hS_21 rfl (L1 := [(r0, 13, 0, .ref ta)]) [2] rfl rfl (M1 := []) [] rfl rfl (I1 := []) [] rfl rfl).more hb_215)).addIs hbE_21
    have hd_26 := jOl.trL (hh_24.iv 0 rfl) hh_24.2.2.2.2.1 hbO_21 (by simp)
    have hh_27 := hh_21.addI (jOl.ie (dC := dC) (dI := dI) (G0 := G0) (k := 2) (rs := [ta]) (H0 := s.heap) (F := [(2, 0), (2, 1)]) (C := RX0) (T := TX0) (N := 2) rfl (by decide) hh_21.2.2.2.2.1 (hd_26))
    clear hh_21
    clear hh_24 ht_21 hvm_21 hz_21 hk_21 hS_21 hb_211 hb_212 hb_213 hb_214 hb_215
    clear  hbE_21
    refine lv_aload_n hx hb dX11_feed_36 rfl (lv_at hl 0 rfl) ?_
    refine lv_iload hx hb dX11_feed_37 (lv_at hl 5 rfl) ?_
    obtain ⟨v_30, hv_30, hh_31⟩ := hh_27.pin (C := RX0) (T := TX0) (N := 2) hB2 rfl (by decide) hg_ta (i := 0) (by decide) rfl
    obtain ⟨row_32, rfl, hg_row_32⟩ := jBr.k7 hv_30
    refine va_callv (A0 := jA base) (H0 := s.heap) (va_runV (As := [.int a5]) (rest := []) ⟨hx, hb, hml, hown, hts⟩ (uX11_putOnTape l dC dI ca base B hB hAp hB2 hB13 hB196 G0 H_21 r0 a5 ta qt_21 row_32 4000) (cwV 1 hts (jgV (jWr_15 _ (List.mem_of_getElem? (i := 19) rfl)) (jWr_15 _ (List.mem_of_getElem? (i := 20) rfl)) (jWr_15 _ (List.mem_of_getElem? (i := 21) rfl)) (jWr_1 _ (List.mem_of_getElem? (i := 2) rfl)) (jWr_15 _ (List.mem_of_getElem? (i := 22) rfl))) rfl rfl rfl (by decide +kernel) ⟨by rw [← hR]; exact Nat.le_of_ble_eq_true rfl, by rw [← hR]; exact Nat.le_of_ble_eq_true rfl⟩) ⟨fun a U g mk q => by obtain ⟨q0, q1, q2, qK, q10, q11, q12, q13, q14, q15⟩ := q; exact ⟨q0, q1, q2, jG.calling g mk a qK, q10, q11, q12, q13, q14, q15⟩, hh_31.recv (C := RX11) (T := TX11) (N := 19) hB13 rfl (by decide) hg_r0 hK, fun U hU hW => ⟨rfl, hU, hh_31.2.1, hG.step hW hU hh_31.1, hg_r0, hg_ta, hg_row_32, (hh_31.2.2.1.sub (L1 := [(r0, 13, 0, .ref ta), (ta, 2, 1, .int qt_21), (ta, 2, 0, .ref row_32)]) [2, 1, 0] rfl), (hh_31.2.2.2.2.2.2.2.2.sub (L1 := [(jFy, jYb dC dI G0)]) [1] rfl), by first | omega | (refine ⟨?_, ?_, ?_⟩ <;> (first | omega | rfl | assumption | decide | exact Or.inl rfl | exact Or.inr rfl | (simp only; omega)))⟩⟩ rfl rfl hl.1 rfl (lv_room (Nat.le_of_ble_eq_true rfl)) dX11_feed_39 ⟨Nat.zero_le _, Nat.zero_le _⟩) hh_31.1 (fun q _ h => h) (fun q h => h) (fun u_28 t_28 H_28 locs_28 ht_28 hvm_28 hr_29 hb_28 hz_28 hk_28 hS_28 => ?_)
    obtain ⟨qt_28, rfl⟩ : ∃ z, z = u_28 := ⟨_, rfl⟩
    rw [ht_28] at hb_28
    obtain ⟨hb_28, hbE_28⟩ := hb_28
    obtain ⟨hb_28, hbO_28⟩ := hb_28
    obtain ⟨hb_281, hb_282, hb_283, hb_284, hb_285⟩ := hb_28
    have hh_28 : jSt (dC, dI) B base G0 G0 EX11_feed s.heap 0 0 [(ta, 2, 1, .int qt_28), (r0, 13, 0, .ref ta)] [] [(jFy, jYb dC dI G0)] H_28 locs_28 := (((hh_31.call hb_281 hb_282 hb_283 hb_284 hS_28 rfl (L1 := [(r0, 13, 0, .ref ta)]) [2] rfl rfl (M1 := []) [] rfl rfl (I1 := []) [] rfl rfl).more hb_285)).addIs hbE_28
    have hd_33 := jOl.trL (hh_31.iv 0 rfl) hh_31.2.2.2.2.1 hbO_28 (by simp)
    have hh_34 := hh_28.addI (jOl.ie (dC := dC) (dI := dI) (G0 := G0) (k := 2) (rs := [ta]) (H0 := s.heap) (F := [(2, 0), (2, 1)]) (C := RX0) (T := TX0) (N := 2) rfl (by decide) hh_28.2.2.2.2.1 (hd_33))
    clear hh_28
    clear hh_31 ht_28 hvm_28 hz_28 hk_28 hS_28 hb_281 hb_282 hb_283 hb_284 hb_285
    clear  hbE_28
    refine lv_aload_n hx hb dX11_feed_42 rfl (lv_at hl 0 rfl) ?_
    refine j7_read hx hb hown hK (C := RX11) (T := TX11) (N := 19) rfl hly_13_0 hlk_14 (hh_34.at 1 rfl) dX11_feed_43 ?_
    refine j7_read hx hb hown hK (C := RX0) (T := TX0) (N := 2) rfl hly_2_1 hlk_92 (hh_34.at 0 rfl) dX11_feed_46 ?_
    rw [hQ]
    exact W.iret (v := qt_28) hx hb hr (fun t ht hW => ⟨⟨qt_28, qt_28, rfl, by first | omega | rfl | assumption | decide | exact Or.inl rfl | exact Or.inr rfl | (simp only; omega), ⟨⟨hh_34.rt (M1 := [(ta, 2, 1, .int qt_28)]) [0] rfl ht, by rw [ht]; exact hh_34.iv 0 rfl⟩, by rw [ht]; exact hh_34.2.2.2.2.2.2.2.2.sub (L1 := [(jFy, jYb dC dI G0)]) [1] rfl⟩⟩, by rw [ht]; try exact hh_34.1.1, fun q h9 hq => by rw [ht]; try exact hh_34.1.2.1 q h9 hq⟩) hh_34.1.2.2 dX11_feed_49
  · skip
    have c_2' : pt.toInt > 3980 := jb_le_n (rfl) ((by decide)) c_2
    refine lv_iconst (v := (-1)) hx hb dX11_feed_13 (by decide) ?_
    rw [hQ]
    exact W.iret (v := (-1)) hx hb hr (fun t ht hW => ⟨⟨(-1), pt, rfl, by first | omega | rfl | assumption | decide | exact Or.inl rfl | exact Or.inr rfl | (simp only; omega), ⟨⟨hh_1.rt (M1 := [(ta, 2, 1, .int pt)]) [1] rfl ht, by rw [ht]; exact hh_1.iv 0 rfl⟩, by rw [ht]; exact hh_1.2.2.2.2.2.2.2.2.sub (L1 := [(jFy, jYb dC dI G0)]) [1] rfl⟩⟩, by rw [ht]; try exact hh_1.1.1, fun q h9 hq => by rw [ht]; try exact hh_1.1.2.1 q h9 hq⟩) hh_1.1.2.2 dX11_feed_14
