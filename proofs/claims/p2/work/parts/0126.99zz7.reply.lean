section
theorem dX11_goals_0 : decode cX11_goals 0 = .ok (.aload_n 0, 1) := by decide +kernel
theorem dX11_goals_1 : decode cX11_goals 1 = .ok (.getfield 200, 3) := by decide +kernel
theorem dX11_goals_4 : decode cX11_goals 4 = .ok (.ifnull 19, 3) := by decide +kernel
theorem dX11_goals_7 : decode cX11_goals 7 = .ok (.iload_n 1, 1) := by decide +kernel
theorem dX11_goals_8 : decode cX11_goals 8 = .ok (.iconst (-1), 1) := by decide +kernel
theorem dX11_goals_9 : decode cX11_goals 9 = .ok (.if_icmp .lt 14, 3) := by decide +kernel
theorem dX11_goals_12 : decode cX11_goals 12 = .ok (.iload_n 1, 1) := by decide +kernel
theorem dX11_goals_13 : decode cX11_goals 13 = .ok (.aload_n 0, 1) := by decide +kernel
theorem dX11_goals_14 : decode cX11_goals 14 = .ok (.getfield 200, 3) := by decide +kernel
theorem dX11_goals_17 : decode cX11_goals 17 = .ok (.getfield 168, 3) := by decide +kernel
theorem dX11_goals_20 : decode cX11_goals 20 = .ok (.if_icmp .lt 5, 3) := by decide +kernel
theorem dX11_goals_23 : decode cX11_goals 23 = .ok (.iconst (-1), 1) := by decide +kernel
theorem dX11_goals_24 : decode cX11_goals 24 = .ok (.ireturn, 1) := by decide +kernel
theorem dX11_goals_25 : decode cX11_goals 25 = .ok (.aload_n 0, 1) := by decide +kernel
theorem dX11_goals_26 : decode cX11_goals 26 = .ok (.getfield 89, 3) := by decide +kernel
theorem dX11_goals_29 : decode cX11_goals 29 = .ok (.iload_n 1, 1) := by decide +kernel
theorem dX11_goals_30 : decode cX11_goals 30 = .ok (.if_icmp .eq 44, 3) := by decide +kernel
theorem dX11_goals_33 : decode cX11_goals 33 = .ok (.aload_n 0, 1) := by decide +kernel
theorem dX11_goals_34 : decode cX11_goals 34 = .ok (.getfield 86, 3) := by decide +kernel
theorem dX11_goals_37 : decode cX11_goals 37 = .ok (.iconst 0, 1) := by decide +kernel
theorem dX11_goals_38 : decode cX11_goals 38 = .ok (.putfield 92, 3) := by decide +kernel
theorem dX11_goals_41 : decode cX11_goals 41 = .ok (.aload_n 0, 1) := by decide +kernel
theorem dX11_goals_42 : decode cX11_goals 42 = .ok (.getfield 54, 3) := by decide +kernel
theorem dX11_goals_45 : decode cX11_goals 45 = .ok (.aload_n 0, 1) := by decide +kernel
theorem dX11_goals_46 : decode cX11_goals 46 = .ok (.getfield 200, 3) := by decide +kernel
theorem dX11_goals_49 : decode cX11_goals 49 = .ok (.iload_n 1, 1) := by decide +kernel
theorem dX11_goals_50 : decode cX11_goals 50 = .ok (.iconst 1, 1) := by decide +kernel
theorem dX11_goals_51 : decode cX11_goals 51 = .ok (.iadd, 1) := by decide +kernel
theorem dX11_goals_52 : decode cX11_goals 52 = .ok (.aload_n 0, 1) := by decide +kernel
theorem dX11_goals_53 : decode cX11_goals 53 = .ok (.getfield 41, 3) := by decide +kernel
theorem dX11_goals_56 : decode cX11_goals 56 = .ok (.getfield 217, 3) := by decide +kernel
theorem dX11_goals_59 : decode cX11_goals 59 = .ok (.invokevirtual 221, 3) := by decide +kernel
theorem dX11_goals_62 : decode cX11_goals 62 = .ok (.aload_n 0, 1) := by decide +kernel
theorem dX11_goals_63 : decode cX11_goals 63 = .ok (.getfield 86, 3) := by decide +kernel
theorem dX11_goals_66 : decode cX11_goals 66 = .ok (.invokevirtual 242, 3) := by decide +kernel
theorem dX11_goals_69 : decode cX11_goals 69 = .ok (.aload_n 0, 1) := by decide +kernel
theorem dX11_goals_70 : decode cX11_goals 70 = .ok (.iload_n 1, 1) := by decide +kernel
theorem dX11_goals_71 : decode cX11_goals 71 = .ok (.putfield 89, 3) := by decide +kernel
theorem dX11_goals_74 : decode cX11_goals 74 = .ok (.iload_n 2, 1) := by decide +kernel
theorem dX11_goals_75 : decode cX11_goals 75 = .ok (.ifCond .lt 14, 3) := by decide +kernel
theorem dX11_goals_78 : decode cX11_goals 78 = .ok (.iload_n 2, 1) := by decide +kernel
theorem dX11_goals_79 : decode cX11_goals 79 = .ok (.aload_n 0, 1) := by decide +kernel
theorem dX11_goals_80 : decode cX11_goals 80 = .ok (.getfield 86, 3) := by decide +kernel
theorem dX11_goals_83 : decode cX11_goals 83 = .ok (.getfield 92, 3) := by decide +kernel
theorem dX11_goals_86 : decode cX11_goals 86 = .ok (.if_icmp .lt 7, 3) := by decide +kernel
theorem dX11_goals_89 : decode cX11_goals 89 = .ok (.iconst (-1), 1) := by decide +kernel
theorem dX11_goals_90 : decode cX11_goals 90 = .ok (.goto 16, 3) := by decide +kernel
theorem dX11_goals_93 : decode cX11_goals 93 = .ok (.aload_n 0, 1) := by decide +kernel
theorem dX11_goals_94 : decode cX11_goals 94 = .ok (.getfield 86, 3) := by decide +kernel
theorem dX11_goals_97 : decode cX11_goals 97 = .ok (.getfield 98, 3) := by decide +kernel
theorem dX11_goals_100 : decode cX11_goals 100 = .ok (.iload_n 2, 1) := by decide +kernel
theorem dX11_goals_101 : decode cX11_goals 101 = .ok (.baload, 1) := by decide +kernel
theorem dX11_goals_102 : decode cX11_goals 102 = .ok (.sipush 255, 3) := by decide +kernel
theorem dX11_goals_105 : decode cX11_goals 105 = .ok (.iand, 1) := by decide +kernel
theorem dX11_goals_106 : decode cX11_goals 106 = .ok (.ireturn, 1) := by decide +kernel
def EX11_goals : List (Nat × Nat) := [(2, 0), (2, 1), (9, 2), (13, 18), (196, 0), (286, 0), (287, 0), (288, 0)]
set_option maxHeartbeats 4000000 in
set_option maxRecDepth 20000 in
theorem uX11_goals (l : Launch) (dC : Nat → ClassId) (dI : Nat → Nat → Nat) (ca : Nat → ClassId) (base : Nat) (B : jF) (hB : jBok B) (hAp : jAp (dC, dI)) (hB2 : ∀ n G a H, B 2 n G a H ↔ jOb (dC, dI) 2 2 (F2 n G) a H) (hB3 : ∀ n G a H, B 3 n G a H ↔ jOb (dC, dI) 3 17 (F3 n G) a H) (hB5 : ∀ n G a H, B 5 n G a H ↔ jOb (dC, dI) 5 4 (F5 n G) a H) (hB7 : ∀ n G a H, B 7 n G a H ↔ jOb (dC, dI) 7 11 (F7 n G) a H) (hB8 : ∀ n G a H, B 8 n G a H ↔ jOb (dC, dI) 8 4 (F8 n G) a H) (hB9 : ∀ n G a H, B 9 n G a H ↔ jOb (dC, dI) 9 5 (F9b n G) a H) (hB11 : ∀ n G a H, B 11 n G a H ↔ jOb (dC, dI) 11 9 (F11 n G) a H) (hB13 : ∀ n G a H, B 13 n G a H ↔ jOb (dC, dI) 13 19 (F13 n G) a H) (hB101 : ∀ n G a H, B 101 n G a H ↔ jAr (dC, dI) (ca 1) (fun j z => True) n a H) (hB102 : ∀ n G a H, B 102 n G a H ↔ jAl (dC, dI) (ca 2) n a H) (hB132 : ∀ n G a H, B 132 n G a H ↔ jAr (dC, dI) (ca 1) (fun j z => 0 ≤ z.toInt ∧ z.toInt ≤ 10) n a H) (hB196 : ∀ n G a H, B 196 n G a H ↔ jAr (dC, dI) (ca 0) (fun j z => jBf j z) n a H) (hB210 : ∀ n G a H, B 210 n G a H ↔ jAq (dC, dI) (ca 6) (jQn 11 0) n G a H) (hB214 : ∀ n G a H, B 214 n G a H ↔ jAq (dC, dI) (ca 7) (jQg) n G a H) (hB280 : ∀ n G a H, B 280 n G a H ↔ jAr (dC, dI) (ca 1) (fun j z => -1 ≤ z.toInt) n a H) (hB286 : ∀ n G a H, B 286 n G a H ↔ jAr (dC, dI) (ca 1) (fun j z => (0 ≤ z.toInt ∨ z.toInt = -3)) n a H) (hB287 : ∀ n G a H, B 287 n G a H ↔ jAr (dC, dI) (ca 1) (fun j z => 0 ≤ z.toInt ∧ z.toInt ≤ 65535) n a H) (hB288 : ∀ n G a H, B 288 n G a H ↔ jAr (dC, dI) (ca 1) (fun j z => 0 ≤ z.toInt ∧ z.toInt ≤ 160) n a H) (hB313 : ∀ n G a H, B 313 n G a H ↔ jAq (dC, dI) (ca 8) (jQk 280 80) n G a H) (G0 : jT) (H0 : Heap) (r0 : Nat) (a1 : Int32) (a2 : Int32) (sh : Nat) (pc : Int32) (pa : Nat) (n_pa : Nat) (LC LS : Nat) : Met l yX11_goals (jw yX11_goals cX11_goals 3 (some .int)) ({ frames := 7, cells := LC - H0.size, slots := LS - jTot H0, locals := 219 }) (va_Pc [.ref r0, .int a1, .int a2] (fun U => U.heap = H0 ∧ jX B base G0 [] H0 ∧ jG dC dI ca base U ∧ jK2 dC dI ca U ∧ jK5 dC dI ca U ∧ G0 r0 = some (13, 0) ∧ G0 sh = some (2, 0) ∧ G0 pa = some (196, n_pa) ∧ jP (dC, dI) G0 H0 [(r0, 13, 17, .ref sh), (sh, 2, 1, .int pc), (sh, 2, 0, .ref pa)] ∧ jIs (dC, dI) G0 H0 [(jFy, jYb dC dI G0)] ∧ H0.size + (1048576 - n_pa) / 16 + 1 ≤ LC ∧ jTot H0 + 2 * (1048576 - n_pa) ≤ LS ∧ 0 ≤ pc.toInt ∧ pc.toInt ≤ n_pa ∧ 16 ≤ n_pa ∧ n_pa ≤ 1048576 ∧ jPw n_pa)) (va_Qi (S := Int32 × Nat × Nat × jT) (fun r u => (0 ≤ u.1.toInt ∧ u.1.toInt ≤ u.2.2.1 ∧ n_pa ≤ u.2.2.1 ∧ u.2.2.1 ≤ 1048576 ∧ jPw u.2.2.1)) (fun u t => jRa (dC, dI) B base G0 u.2.2.2 EX11_goals H0 ((u.2.2.1 - n_pa) / 16) (2 * (u.2.2.1 - n_pa)) [(sh, 2, 1, .int u.1), (sh, 2, 0, .ref u.2.1)] t.heap ∧ u.2.2.2 u.2.1 = some (196, u.2.2.1) ∧ (jNk [0, 1, 2, 3, 4, 5, 6, 7, 8, 9, 10, 11, 12, 13, 14, 15, 16]) G0 u.2.2.2 ∧ jOl (dC, dI) G0 2 [sh] H0 t.heap ∧ jIs (dC, dI) u.2.2.2 t.heap [(jFy, jYb dC dI u.2.2.2)]) (jA base)) (LC - H0.size) (LS - jTot H0) (jA base) := by
  refine Met.ofW (cc := cX11_goals) (maxL := 3) (ret := (some .int)) (by decide) rfl ?_
  intro p e s m args below meth c s₁ Bd hml hv
  obtain ⟨rfl, hH0, hX, hG, hK2, hK5, hg_r0, hg_sh, hg_pa, hP0, hI0, hLC0, hLS0, hp0, hp1, hp2, hp3, hp4⟩ := hv
  have hK := hG.1
  have hx := Bd.exec
  have hb := Bd.bytes
  have hr := Bd.returns
  have hts := atoms_spec (ws := (jw yX11_goals cX11_goals 3 (some .int))) Bd.pre
  have htw : ∀ w ∈ jWl, w.before _ s = true := fun w h => hts w (List.mem_cons_of_mem _ h)
  have hown : s.vm.findClass RX11 = some m.cls := findClass_of_methodNamed Bd.named
  have hlocks := Bd.notSynchronized
  obtain ⟨Q, hQ⟩ : ∃ Q, Q = MQ below (va_Qi (S := Int32 × Nat × Nat × jT) (fun r u => (0 ≤ u.1.toInt ∧ u.1.toInt ≤ u.2.2.1 ∧ n_pa ≤ u.2.2.1 ∧ u.2.2.1 ≤ 1048576 ∧ jPw u.2.2.1)) (fun u t => jRa (dC, dI) B base G0 u.2.2.2 EX11_goals H0 ((u.2.2.1 - n_pa) / 16) (2 * (u.2.2.1 - n_pa)) [(sh, 2, 1, .int u.1), (sh, 2, 0, .ref u.2.1)] t.heap ∧ u.2.2.2 u.2.1 = some (196, u.2.2.1) ∧ (jNk [0, 1, 2, 3, 4, 5, 6, 7, 8, 9, 10, 11, 12, 13, 14, 15, 16]) G0 u.2.2.2 ∧ jOl (dC, dI) G0 2 [sh] H0 t.heap ∧ jIs (dC, dI) u.2.2.2 t.heap [(jFy, jYb dC dI u.2.2.2)]) (jA base)) ([.ref r0, .int a1, .int a2] : List Value).toArray s (LC - H0.size) (LS - jTot H0) (jA base) := ⟨_, rfl⟩
  rw [← hQ]
  have hl := lv_entry ([.ref r0, .int a1, .int a2]) (n := 3) (Nat.le_of_ble_eq_true rfl)
  rw [lg_entry_eq]
  generalize (lg_sl ([.ref r0, .int a1, .int a2]) ++ List.replicate (3 - (lg_sl ([.ref r0, .int a1, .int a2])).length) Slot.unset).toArray = ls at hl ⊢
  have hl : lv_has ls 3 [(0, .ref r0), (1, .int a1), (2, .int a2)] := hl
  generalize hR : (headSpec (jw yX11_goals cX11_goals 3 (some .int)) ({ frames := 7, cells := LC - H0.size, slots := LS - jTot H0, locals := 219 })).room = R
  subst hH0
  have hh : jSt (dC, dI) B base G0 G0 EX11_goals s.heap 0 0 [(r0, 13, 17, .ref sh), (sh, 2, 1, .int pc), (sh, 2, 0, .ref pa)] [] [(jFy, jYb dC dI G0)] s.heap [] := jSt.start hX hP0 jMc.nil hI0
  clear hX hP0
  have hkm1 : ((-1) : Int32).toInt = (-1) := by decide
  have hk0 : (0 : Int32).toInt = 0 := by decide
  have hk1 : (1 : Int32).toInt = 1 := by decide
  have hk255 : (255 : Int32).toInt = 255 := by decide
  have hly_2_0 := htw (u_lay RX0 TX0 0) (jWc_wsX00 _ (u_in_lay (by decide)))
  have hly_2_1 := htw (u_lay RX0 TX0 1) (jWc_wsX00 _ (u_in_lay (by decide)))
  have hly_3_4 := htw (u_lay RX1 TX1 4) (jWc_wsX10 _ (u_in_lay (by decide)))
  have hly_7_2 := htw (u_lay RX5 TX5 2) (jWc_wsX50 _ (u_in_lay (by decide)))
  have hly_13_5 := htw (u_lay RX11 TX11 5) (jWc_wsX110 _ (u_in_lay (by decide)))
  have hly_13_6 := htw (u_lay RX11 TX11 6) (jWc_wsX110 _ (u_in_lay (by decide)))
  have hly_13_16 := htw (u_lay RX11 TX11 16) (jWc_wsX110 _ (u_in_lay (by decide)))
  have hly_13_17 := htw (u_lay RX11 TX11 17) (jWc_wsX110 _ (u_in_lay (by decide)))
  have hly_13_18 := htw (u_lay RX11 TX11 18) (jWc_wsX110 _ (u_in_lay (by decide)))
  have hlk_200 := (htw (.fieldLink RX11 200 "ProofServer" "latest" "LProofServer$Document;") (jWr_93 _ (List.mem_of_getElem? (i := 14) rfl)))
  have hlk_168 := (htw (.fieldLink RX11 168 "ProofServer$Document" "sentences" "I") (jWr_35 _ (List.mem_of_getElem? (i := 4) rfl)))
  have hlk_89 := (htw (.fieldLink RX11 89 "ProofServer" "shownOf" "I") (jWr_3 _ (List.mem_of_getElem? (i := 0) rfl)))
  have hlk_86 := (htw (.fieldLink RX11 86 "ProofServer" "shown" "LProofServer$Bytes;") (jWr_2 _ (List.mem_of_getElem? (i := 23) rfl)))
  have hlk_92 := (htw (.fieldLink RX11 92 "ProofServer$Bytes" "count" "I") (jWr_15 _ (List.mem_of_getElem? (i := 18) rfl)))
  have hlk_54 := (htw (.fieldLink RX11 54 "ProofServer" "printer" "LProofServer$Printer;") (jWr_2 _ (List.mem_of_getElem? (i := 10) rfl)))
  have hlk_41 := (htw (.fieldLink RX11 41 "ProofServer" "kernel" "LProofServer$Kernel;") (jWr_2 _ (List.mem_of_getElem? (i := 5) rfl)))
  have hlk_217 := (htw (.fieldLink RX11 217 "ProofServer$Kernel" "start" "LProofServer$State;") (jWr_30 _ (List.mem_of_getElem? (i := 6) rfl)))
  have hlk_98 := (htw (.fieldLink RX11 98 "ProofServer$Bytes" "row" "[B") (jWr_17 _ (List.mem_of_getElem? (i := 7) rfl)))
  have hrg_a1 := jb_rng a1
  have hrg_a2 := jb_rng a2
  have hbs : base ≤ s.heap.size := Nat.le_of_lt (Nat.lt_of_le_of_lt (hh.ab hg_r0).1 (hh.ab hg_r0).2)
  have hRc : R.cells = LC - s.heap.size := by rw [← hR]; rfl
  have hRs : R.slots = LS - jTot s.heap := by rw [← hR]; rfl
  have hh_1 := hh.addI (jOl.ie (dC := dC) (dI := dI) (G0 := G0) (k := 2) (rs := [sh]) (H0 := s.heap) (F := [(2, 0), (2, 1)]) (C := RX0) (T := TX0) (N := 2) rfl (by decide) hh.2.2.2.2.1 (jOl.rf))
  clear hh
  refine lv_aload_n hx hb dX11_goals_0 rfl (lv_at hl 0 rfl) ?_
  obtain ⟨v_2, hv_2, hh_3⟩ := hh_1.pin (C := RX11) (T := TX11) (N := 19) hB13 rfl (by decide) hg_r0 (i := 16) (by decide) rfl
  clear hh_1
  rcases hv_2 with rfl | ⟨latest_4, rfl, hg_latest_4⟩
  · refine j7_read hx hb hown hK (C := RX11) (T := TX11) (N := 19) rfl hly_13_16 hlk_200 (hh_3.at 0 rfl) dX11_goals_1 ?_
    refine lv_ifnullN (tgt := 23) hx hb dX11_goals_4 (by decide) ?_
    refine lv_iconst (v := (-1)) hx hb dX11_goals_23 (by decide) ?_
    have hsz_5 := hh_3.2.2.2.2.2.1
    have htt_5 := hh_3.2.2.2.2.2.2.1
    refine W.room (fun hrc_5 hrs_5 => ?_)
    refine W.widen (k := LC - s.heap.size) (n := LS - jTot s.heap) (by omega) (by omega) ?_
    rw [hQ]
    exact W.iret (v := (-1)) hx hb hr (fun t ht hW => ⟨⟨(-1), (pc, pa, n_pa, G0), rfl, by (try dsimp only); exact ⟨(by first | omega | rfl | assumption | fail), (by first | omega | rfl | assumption | fail), (by first | omega | rfl | assumption | fail), (by first | omega | rfl | assumption | fail), (by first | assumption | fail | omega)⟩, ⟨hh_3.ra (by first | omega | (simp only; omega)) (by first | omega | (simp only; omega)) (M1 := [(sh, 2, 1, .int pc), (sh, 2, 0, .ref pa)]) [2, 3] rfl ht, hg_pa, jNk.rf, by rw [ht]; exact hh_3.iv 0 rfl, by rw [ht]; exact hh_3.2.2.2.2.2.2.2.2.sub (L1 := [(jFy, jYb dC dI G0)]) [1] rfl⟩⟩, by rw [ht]; try exact hh_3.1.1, fun q h9 hq => by rw [ht]; try exact hh_3.1.2.1 q h9 hq⟩) hh_3.1.2.2 dX11_goals_24
  · refine j7_read hx hb hown hK (C := RX11) (T := TX11) (N := 19) rfl hly_13_16 hlk_200 (hh_3.at 0 rfl) dX11_goals_1 ?_
    refine lv_ifnull hx hb dX11_goals_4 ?_
    refine lv_iload_n hx hb dX11_goals_7 rfl (lv_at hl 1 rfl) ?_
    refine lv_iconst (v := (-1)) hx hb dX11_goals_8 (by decide) ?_
    refine lv_icmp_lt (tgt := 23) hx hb dX11_goals_9 (by decide) (fun c_6 => ?_) (fun c_6 => ?_)
    · skip
      have c_6' : a1.toInt < (-1) := jb_lt (rfl) ((by decide)) c_6
      refine lv_iconst (v := (-1)) hx hb dX11_goals_23 (by decide) ?_
      have hsz_7 := hh_3.2.2.2.2.2.1
      have htt_7 := hh_3.2.2.2.2.2.2.1
      refine W.room (fun hrc_7 hrs_7 => ?_)
      refine W.widen (k := LC - s.heap.size) (n := LS - jTot s.heap) (by omega) (by omega) ?_
      rw [hQ]
      exact W.iret (v := (-1)) hx hb hr (fun t ht hW => ⟨⟨(-1), (pc, pa, n_pa, G0), rfl, by (try dsimp only); exact ⟨(by first | omega | rfl | assumption | fail), (by first | omega | rfl | assumption | fail), (by first | omega | rfl | assumption | fail), (by first | omega | rfl | assumption | fail), (by first | assumption | fail | omega)⟩, ⟨hh_3.ra (by first | omega | (simp only; omega)) (by first | omega | (simp only; omega)) (M1 := [(sh, 2, 1, .int pc), (sh, 2, 0, .ref pa)]) [2, 3] rfl ht, hg_pa, jNk.rf, by rw [ht]; exact hh_3.iv 0 rfl, by rw [ht]; exact hh_3.2.2.2.2.2.2.2.2.sub (L1 := [(jFy, jYb dC dI G0)]) [1] rfl⟩⟩, by rw [ht]; try exact hh_3.1.1, fun q h9 hq => by rw [ht]; try exact hh_3.1.2.1 q h9 hq⟩) hh_3.1.2.2 dX11_goals_24
    · skip
      have c_6' : a1.toInt ≥ (-1) := jb_lt_n (rfl) ((by decide)) c_6
      refine lv_iload_n hx hb dX11_goals_12 rfl (lv_at hl 1 rfl) ?_
      refine lv_aload_n hx hb dX11_goals_13 rfl (lv_at hl 0 rfl) ?_
      refine j7_read hx hb hown hK (C := RX11) (T := TX11) (N := 19) rfl hly_13_16 hlk_200 (hh_3.at 0 rfl) dX11_goals_14 ?_
      obtain ⟨v_8, hv_8, hh_9⟩ := hh_3.pin (C := RX1) (T := TX1) (N := 17) hB3 rfl (by decide) hg_latest_4 (i := 4) (by decide) rfl
      clear hh_3
      obtain ⟨sentences_10, rfl, hlosentences_10, hhisentences_10⟩ := hv_8
      refine j7_read hx hb hown hK (C := RX1) (T := TX1) (N := 17) rfl hly_3_4 hlk_168 (hh_9.at 0 rfl) dX11_goals_17 ?_
      refine lv_icmp_lt (tgt := 25) hx hb dX11_goals_20 (by decide) (fun c_11 => ?_) (fun c_11 => ?_)
      · skip
        have c_11' : a1.toInt < sentences_10.toInt := jb_lt (rfl) (rfl) c_11
        refine lv_aload_n hx hb dX11_goals_25 rfl (lv_at hl 0 rfl) ?_
        obtain ⟨v_12, hv_12, hh_13⟩ := hh_9.pin (C := RX11) (T := TX11) (N := 19) hB13 rfl (by decide) hg_r0 (i := 18) (by decide) rfl
        clear hh_9
        obtain ⟨shownOf_14, rfl⟩ := hv_12
        refine j7_read hx hb hown hK (C := RX11) (T := TX11) (N := 19) rfl hly_13_18 hlk_89 (hh_13.at 0 rfl) dX11_goals_26 ?_
        refine lv_iload_n hx hb dX11_goals_29 rfl (lv_at hl 1 rfl) ?_
        refine lv_icmp_eq (tgt := 74) hx hb dX11_goals_30 (by decide) (fun c_15 => ?_) (fun c_15 => ?_)
        · skip
          have c_15' : shownOf_14.toInt = a1.toInt := jb_eq (rfl) (rfl) c_15
          refine lv_iload_n hx hb dX11_goals_74 rfl (lv_at hl 2 rfl) ?_
          refine lv_if_lt (tgt := 89) hx hb dX11_goals_75 (by decide) (fun c_16 => ?_) (fun c_16 => ?_)
          · skip
            have c_16' : a2.toInt < 0 := jb_lt (rfl) ((by decide)) c_16
            refine lv_iconst (v := (-1)) hx hb dX11_goals_89 (by decide) ?_
            refine lv_goto (tgt := 106) hx hb dX11_goals_90 (by decide) ?_
            have hsz_17 := hh_13.2.2.2.2.2.1
            have htt_17 := hh_13.2.2.2.2.2.2.1
            refine W.room (fun hrc_17 hrs_17 => ?_)
            refine W.widen (k := LC - s.heap.size) (n := LS - jTot s.heap) (by omega) (by omega) ?_
            rw [hQ]
            exact W.iret (v := (-1)) hx hb hr (fun t ht hW => ⟨⟨(-1), (pc, pa, n_pa, G0), rfl, by (try dsimp only); exact ⟨(by first | omega | rfl | assumption | fail), (by first | omega | rfl | assumption | fail), (by first | omega | rfl | assumption | fail), (by first | omega | rfl | assumption | fail), (by first | assumption | fail | omega)⟩, ⟨hh_13.ra (by first | omega | (simp only; omega)) (by first | omega | (simp only; omega)) (M1 := [(sh, 2, 1, .int pc), (sh, 2, 0, .ref pa)]) [4, 5] rfl ht, hg_pa, jNk.rf, by rw [ht]; exact hh_13.iv 0 rfl, by rw [ht]; exact hh_13.2.2.2.2.2.2.2.2.sub (L1 := [(jFy, jYb dC dI G0)]) [1] rfl⟩⟩, by rw [ht]; try exact hh_13.1.1, fun q h9 hq => by rw [ht]; try exact hh_13.1.2.1 q h9 hq⟩) hh_13.1.2.2 dX11_goals_106
          · skip
            have c_16' : a2.toInt ≥ 0 := jb_lt_n (rfl) ((by decide)) c_16
            refine lv_iload_n hx hb dX11_goals_78 rfl (lv_at hl 2 rfl) ?_
            refine lv_aload_n hx hb dX11_goals_79 rfl (lv_at hl 0 rfl) ?_
            refine j7_read hx hb hown hK (C := RX11) (T := TX11) (N := 19) rfl hly_13_17 hlk_86 (hh_13.at 3 rfl) dX11_goals_80 ?_
            refine j7_read hx hb hown hK (C := RX0) (T := TX0) (N := 2) rfl hly_2_1 hlk_92 (hh_13.at 4 rfl) dX11_goals_83 ?_
            refine lv_icmp_lt (tgt := 93) hx hb dX11_goals_86 (by decide) (fun c_18 => ?_) (fun c_18 => ?_)
            · skip
              have c_18' : a2.toInt < pc.toInt := jb_lt (rfl) (rfl) c_18
              refine lv_aload_n hx hb dX11_goals_93 rfl (lv_at hl 0 rfl) ?_
              refine j7_read hx hb hown hK (C := RX11) (T := TX11) (N := 19) rfl hly_13_17 hlk_86 (hh_13.at 3 rfl) dX11_goals_94 ?_
              refine j7_read hx hb hown hK (C := RX0) (T := TX0) (N := 2) rfl hly_2_0 hlk_98 (hh_13.at 5 rfl) dX11_goals_97 ?_
              refine lv_iload_n hx hb dX11_goals_100 rfl (lv_at hl 2 rfl) ?_
              refine j7_bald hx hb hK hh_13 hB196 0 rfl (by decide) hg_pa (x := a2.toInt) (rfl) (by omega) dX11_goals_101 (fun z_19 (hz_19 : jBf (a2.toInt).toNat z_19) => ?_)
              refine lv_sipush (v := 255) hx hb dX11_goals_102 (by decide) ?_
              refine lv_iand hx hb dX11_goals_105 ?_
              refine lv_topi (fun z_20 ez_20 => ?_)
              have hz_20 : 0 ≤ z_20.toInt ∧ z_20.toInt ≤ 255 := by rw [ez_20]; exact jb_and z_19 (m := 255) (k := 8) (by decide) (by decide)
              have hsz_21 := hh_13.2.2.2.2.2.1
              have htt_21 := hh_13.2.2.2.2.2.2.1
              refine W.room (fun hrc_21 hrs_21 => ?_)
              refine W.widen (k := LC - s.heap.size) (n := LS - jTot s.heap) (by omega) (by omega) ?_
              rw [hQ]
              exact W.iret (v := z_20) hx hb hr (fun t ht hW => ⟨⟨z_20, (pc, pa, n_pa, G0), rfl, by (try dsimp only); exact ⟨(by first | omega | rfl | assumption | fail), (by first | omega | rfl | assumption | fail), (by first | omega | rfl | assumption | fail), (by first | omega | rfl | assumption | fail), (by first | assumption | fail | omega)⟩, ⟨hh_13.ra (by first | omega | (simp only; omega)) (by first | omega | (simp only; omega)) (M1 := [(sh, 2, 1, .int pc), (sh, 2, 0, .ref pa)]) [4, 5] rfl ht, hg_pa, jNk.rf, by rw [ht]; exact hh_13.iv 0 rfl, by rw [ht]; exact hh_13.2.2.2.2.2.2.2.2.sub (L1 := [(jFy, jYb dC dI G0)]) [1] rfl⟩⟩, by rw [ht]; try exact hh_13.1.1, fun q h9 hq => by rw [ht]; try exact hh_13.1.2.1 q h9 hq⟩) hh_13.1.2.2 dX11_goals_106
            · skip
              have c_18' : a2.toInt ≥ pc.toInt := jb_lt_n (rfl) (rfl) c_18
              refine lv_iconst (v := (-1)) hx hb dX11_goals_89 (by decide) ?_
              refine lv_goto (tgt := 106) hx hb dX11_goals_90 (by decide) ?_
              have hsz_22 := hh_13.2.2.2.2.2.1
              have htt_22 := hh_13.2.2.2.2.2.2.1
              refine W.room (fun hrc_22 hrs_22 => ?_)
              refine W.widen (k := LC - s.heap.size) (n := LS - jTot s.heap) (by omega) (by omega) ?_
              rw [hQ]
              exact W.iret (v := (-1)) hx hb hr (fun t ht hW => ⟨⟨(-1), (pc, pa, n_pa, G0), rfl, by (try dsimp only); exact ⟨(by first | omega | rfl | assumption | fail), (by first | omega | rfl | assumption | fail), (by first | omega | rfl | assumption | fail), (by first | omega | rfl | assumption | fail), (by first | assumption | fail | omega)⟩, ⟨hh_13.ra (by first | omega | (simp only; omega)) (by first | omega | (simp only; omega)) (M1 := [(sh, 2, 1, .int pc), (sh, 2, 0, .ref pa)]) [4, 5] rfl ht, hg_pa, jNk.rf, by rw [ht]; exact hh_13.iv 0 rfl, by rw [ht]; exact hh_13.2.2.2.2.2.2.2.2.sub (L1 := [(jFy, jYb dC dI G0)]) [1] rfl⟩⟩, by rw [ht]; try exact hh_13.1.1, fun q h9 hq => by rw [ht]; try exact hh_13.1.2.1 q h9 hq⟩) hh_13.1.2.2 dX11_goals_106
        · skip
          have c_15' : shownOf_14.toInt ≠ a1.toInt := jb_eq_n (rfl) (rfl) c_15
          refine lv_aload_n hx hb dX11_goals_33 rfl (lv_at hl 0 rfl) ?_
          refine j7_read hx hb hown hK (C := RX11) (T := TX11) (N := 19) rfl hly_13_17 hlk_86 (hh_13.at 3 rfl) dX11_goals_34 ?_
          refine lv_iconst (v := 0) hx hb dX11_goals_37 (by decide) ?_
          have hd_24 := hh_13.iv 0 rfl
          have hd_25 := hh_13.iv 1 rfl
          have hh_26 := hh_13.sub (L1 := [(r0, 13, 18, .int shownOf_14), (latest_4, 3, 4, .int sentences_10), (r0, 13, 16, .ref latest_4), (r0, 13, 17, .ref sh), (sh, 2, 1, .int pc), (sh, 2, 0, .ref pa)]) [0, 1, 2, 3, 4, 5] rfl (M1 := []) [] rfl (I1 := []) [] rfl
          clear hh_13
          refine j7_putX hx hb hown hK hh_26 hB hAp hB2 (C := RX0) (T := TX0) (N := 2) rfl (by decide) hg_sh (i := 1) (by decide) hly_2_1 rfl hlk_92 rfl (ty := .int) (v := .int 0) (by decide +kernel) rfl rfl (⟨_, rfl, by omega, by omega, by omega⟩) rfl (L1 := [(r0, 13, 18, .int shownOf_14), (latest_4, 3, 4, .int sentences_10), (r0, 13, 16, .ref latest_4), (r0, 13, 17, .ref sh), (sh, 2, 0, .ref pa)]) [0, 1, 2, 3, 5] rfl rfl rfl dX11_goals_38 (fun H_23 locs_23 hr_23 hh_23 => ?_)
          clear hh_26
          have hd_25n := jYb.put hd_25 hr_23 hg_sh (fun h9 => ⟨_, _, _, hh_23.at 0 rfl, hh_23.at 5 rfl, hg_pa, by omega⟩)
          have hd_24n := jOl.put hd_24 hr_23 (by simp)
          have hh_27 := hh_23.addI (jYb.ie hd_25n)
          clear hh_23
          have hh_28 := hh_27.addI (jOl.ie (dC := dC) (dI := dI) (G0 := G0) (k := 2) (rs := [sh]) (H0 := s.heap) (F := [(2, 0), (2, 1)]) (C := RX0) (T := TX0) (N := 2) rfl (by decide) hh_27.2.2.2.2.1 (hd_24n))
          clear hh_27
          clear hd_24 hd_24n hd_25 hd_25n hr_23
          refine lv_aload_n hx hb dX11_goals_41 rfl (lv_at hl 0 rfl) ?_
          obtain ⟨v_29, hv_29, hh_30⟩ := hh_28.pin (C := RX11) (T := TX11) (N := 19) hB13 rfl (by decide) hg_r0 (i := 6) (by decide) rfl
          clear hh_28
          obtain ⟨printer_31, rfl, hg_printer_31⟩ := hv_29
          refine j7_read hx hb hown hK (C := RX11) (T := TX11) (N := 19) rfl hly_13_6 hlk_54 (hh_30.at 0 rfl) dX11_goals_42 ?_
          refine lv_aload_n hx hb dX11_goals_45 rfl (lv_at hl 0 rfl) ?_
          refine j7_read hx hb hown hK (C := RX11) (T := TX11) (N := 19) rfl hly_13_16 hlk_200 (hh_30.at 4 rfl) dX11_goals_46 ?_
          refine lv_iload_n hx hb dX11_goals_49 rfl (lv_at hl 1 rfl) ?_
          refine lv_iconst (v := 1) hx hb dX11_goals_50 (by decide) ?_
          refine lv_iadd hx hb dX11_goals_51 ?_
          refine lv_topi (fun z_32 ez_32 => ?_)
          have hz_32 : z_32.toInt = a1.toInt + 1 := by rw [ez_32]; exact jb_iadd2 (rfl) ((by decide)) (by omega)
          refine lv_aload_n hx hb dX11_goals_52 rfl (lv_at hl 0 rfl) ?_
          obtain ⟨v_33, hv_33, hh_34⟩ := hh_30.pin (C := RX11) (T := TX11) (N := 19) hB13 rfl (by decide) hg_r0 (i := 5) (by decide) rfl
          clear hh_30
          obtain ⟨kernel_35, rfl, hg_kernel_35⟩ := hv_33
          refine j7_read hx hb hown hK (C := RX11) (T := TX11) (N := 19) rfl hly_13_5 hlk_41 (hh_34.at 0 rfl) dX11_goals_53 ?_
          obtain ⟨v_36, hv_36, hh_37⟩ := hh_34.pin (C := RX5) (T := TX5) (N := 11) hB7 rfl (by decide) hg_kernel_35 (i := 2) (by decide) rfl
          clear hh_34
          obtain ⟨start_38, rfl, hg_start_38⟩ := hv_36
          refine j7_read hx hb hown hK (C := RX5) (T := TX5) (N := 11) rfl hly_7_2 hlk_217 (hh_37.at 0 rfl) dX11_goals_56 ?_
          have hsz_39 := hh_37.2.2.2.2.2.1
          have htt_39 := hh_37.2.2.2.2.2.2.1
          refine W.room (fun hrc_39 hrs_39 => ?_)
          refine j_callx (A0 := jA base) (H0 := s.heap) (va_runV (As := [.int z_32, .ref start_38]) (rest := [.ref printer_31]) ⟨hx, hb, hml, hown, hts⟩ (uX1_stateBehind l dC dI ca base B hB hAp hB3 hB11 hB210 G0 H_23 latest_4 z_32 start_38 1) (cwV 2 hts (jgV (jWr_30 _ (List.mem_of_getElem? (i := 9) rfl)) (jWr_30 _ (List.mem_of_getElem? (i := 10) rfl)) (jWr_30 _ (List.mem_of_getElem? (i := 11) rfl)) (jWr_2 _ (List.mem_of_getElem? (i := 21) rfl)) (jWr_30 _ (List.mem_of_getElem? (i := 12) rfl))) rfl rfl rfl (by decide +kernel) ⟨by rw [← hR]; exact Nat.le_of_ble_eq_true rfl, by rw [← hR]; exact Nat.le_of_ble_eq_true rfl⟩) ⟨fun a U g mk q => by obtain ⟨q0, q1, q2, qK, q10, q11, q12, q13, q14⟩ := q; exact ⟨q0, q1, q2, jG.calling g mk a qK, (va_K.moved (Vm.Alike.refl U.vm) q10), q11, q12, q13, q14⟩, hh_37.recv (C := RX1) (T := TX1) (N := 17) hB3 rfl (by decide) hg_latest_4 hK, fun U hU hW => ⟨rfl, hU, hh_37.2.1, hG.step hW hU hh_37.1, va_K.moved hW.alike hK2, hg_latest_4, hg_start_38, jP.nil, trivial⟩⟩ rfl rfl hl.1 rfl (lv_room (Nat.le_of_ble_eq_true rfl)) dX11_goals_59 ⟨by rw [hRc]; show _ + 0 ≤ _; omega, by rw [hRs]; show _ + 0 ≤ _; omega⟩) hh_37.1 (fun q _ h => h) (fun q h => h) (fun r_40 u_39 t_39 H_39 locs_39 ht_39 hvm_39 hr_40 hb_39 hz_39 hk_39 hS_39 => ?_)
          rw [ht_39] at hb_39
          obtain ⟨hb_391, hb_392, hb_393, hb_394, hb_395⟩ := hb_39
          have hh_39 : jSt (dC, dI) B base G0 G0 EX11_goals s.heap 0 0 [(kernel_35, 7, 2, .ref start_38), (r0, 13, 5, .ref kernel_35), (r0, 13, 6, .ref printer_31), (sh, 2, 1, .int 0), (r0, 13, 18, .int shownOf_14), (latest_4, 3, 4, .int sentences_10), (r0, 13, 16, .ref latest_4), (r0, 13, 17, .ref sh), (sh, 2, 0, .ref pa)] [] [([(2, 0), (2, 1)], jOl (dC, dI) G0 2 [sh] s.heap), (jFy, jYb dC dI G0)] H_39 locs_39 := ((hh_37.call hb_391 hb_392 hb_393 hb_394 hS_39 rfl (L1 := [(kernel_35, 7, 2, .ref start_38), (r0, 13, 5, .ref kernel_35), (r0, 13, 6, .ref printer_31), (sh, 2, 1, .int 0), (r0, 13, 18, .int shownOf_14), (latest_4, 3, 4, .int sentences_10), (r0, 13, 16, .ref latest_4), (r0, 13, 17, .ref sh), (sh, 2, 0, .ref pa)]) [0, 1, 2, 3, 4, 5, 6, 7, 8] rfl rfl (M1 := []) [] rfl rfl (I1 := [([(2, 0), (2, 1)], jOl (dC, dI) G0 2 [sh] s.heap), (jFy, jYb dC dI G0)]) [0, 1] rfl rfl).more hb_395)
          clear hh_37 ht_39 hvm_39 hz_39 hk_39 hS_39 hb_391 hb_392 hb_393 hb_394 hb_395
          obtain ⟨ret_41, rfl, hg_ret_41⟩ := hr_40
          refine lv_aload_n hx hb dX11_goals_62 rfl (lv_at hl 0 rfl) ?_
          refine j7_read hx hb hown hK (C := RX11) (T := TX11) (N := 19) rfl hly_13_17 hlk_86 (hh_39.at 7 rfl) dX11_goals_63 ?_
          have hsz_42 := hh_39.2.2.2.2.2.1
          have htt_42 := hh_39.2.2.2.2.2.2.1
          refine W.room (fun hrc_42 hrs_42 => ?_)
          refine va_callv (A0 := jA base) (H0 := s.heap) (va_runV (As := [.ref ret_41, .ref sh]) (rest := []) ⟨hx, hb, hml, hown, hts⟩ (uX7_proof l dC dI ca base B hB hAp hB2 hB5 hB8 hB9 hB11 hB101 hB102 hB132 hB196 hB214 hB280 hB286 hB287 hB288 hB313 G0 H_39 printer_31 ret_41 sh 0 pa n_pa LC LS) (cwV 2 hts (jgV (jWr_32 _ (List.mem_of_getElem? (i := 21) rfl)) (jWr_32 _ (List.mem_of_getElem? (i := 22) rfl)) (jWr_32 _ (List.mem_of_getElem? (i := 23) rfl)) (jWr_2 _ (List.mem_of_getElem? (i := 8) rfl)) (jWr_33 _ (List.mem_of_getElem? (i := 0) rfl))) rfl rfl rfl (by decide +kernel) ⟨by rw [← hR]; exact Nat.le_of_ble_eq_true rfl, by rw [← hR]; exact Nat.le_of_ble_eq_true rfl⟩) ⟨fun a U g mk q => by obtain ⟨q0, q1, q2, qK, q10, q11, q12, q13, q14, q15, q16, q17⟩ := q; exact ⟨q0, q1, q2, jG.calling g mk a qK, (va_K.moved (Vm.Alike.refl U.vm) q10), (jK5.moved (Vm.Alike.refl U.vm) q11), q12, q13, q14, q15, q16, q17⟩, hh_39.recv (C := RX7) (T := TX7) (N := 5) hB9 rfl (by decide) hg_printer_31 hK, fun U hU hW => ⟨rfl, hU, hh_39.2.1, hG.step hW hU hh_39.1, va_K.moved hW.alike hK2, jK5.moved hW.alike hK5, hg_sh, hg_ret_41, hg_printer_31, hg_pa, (hh_39.2.2.1.sub (L1 := [(sh, 2, 1, .int 0), (sh, 2, 0, .ref pa)]) [3, 8] rfl), (by omega), (by omega), ⟨(by first | omega | rfl | assumption | fail), (by first | omega | rfl | assumption | fail), (by first | omega | rfl | assumption | fail), (by first | omega | rfl | assumption | fail), (by first | assumption | fail | omega)⟩⟩⟩ rfl rfl hl.1 rfl (lv_room (Nat.le_of_ble_eq_true rfl)) dX11_goals_66 ⟨by rw [hRc]; omega, by rw [hRs]; omega⟩) hh_39.1 (fun q _ h => h) (fun q h => h) (fun u_42 t_42 H_42 locs_42 ht_42 hvm_42 hr_43 hb_42 hz_42 hk_42 hS_42 => ?_)
          obtain ⟨qc_42, qa_42, m_qa_42, G_42⟩ := u_42
          rw [ht_42] at hb_42
          simp only at hb_42
          obtain ⟨⟨hb_421, hb_422, hb_423, hb_424, hb_425, hb_426⟩, hgq_42_0, hN_42, hbO_42⟩ := hb_42
          have hy_44 := hh_39.iv 1 rfl
          have hh_42 : jSt (dC, dI) B base G0 G_42 EX11_goals s.heap (0 + ((m_qa_42 - n_pa) / 16)) (0 + (2 * (m_qa_42 - n_pa))) [(sh, 2, 1, .int qc_42), (sh, 2, 0, .ref qa_42), (kernel_35, 7, 2, .ref start_38), (r0, 13, 5, .ref kernel_35), (r0, 13, 6, .ref printer_31), (r0, 13, 18, .int shownOf_14), (latest_4, 3, 4, .int sentences_10), (r0, 13, 16, .ref latest_4), (r0, 13, 17, .ref sh)] [] [] H_42 locs_42 := (hh_39.callG hb_421 hb_422 hb_423 hb_424 hb_425 hS_42 rfl (L1 := [(kernel_35, 7, 2, .ref start_38), (r0, 13, 5, .ref kernel_35), (r0, 13, 6, .ref printer_31), (r0, 13, 18, .int shownOf_14), (latest_4, 3, 4, .int sentences_10), (r0, 13, 16, .ref latest_4), (r0, 13, 17, .ref sh)]) [0, 1, 2, 4, 5, 6, 7] rfl rfl (M1 := []) [] rfl rfl (I1 := []) [] rfl rfl).more hb_426
          have hNn_42 : (jNk [0, 1, 2, 3, 4, 5, 6, 7, 8, 9, 10, 11, 12, 13, 14, 15, 16]) G0 G_42 := (jNk.rf).tr hN_42
          have hg_45 := hb_422 _ _ hg_r0
          have hg_46 := hb_422 _ _ hg_start_38
          have hg_47 := hb_422 _ _ hg_kernel_35
          have hg_48 := hb_422 _ _ hg_printer_31
          have hg_49 := hb_422 _ _ hg_latest_4
          have hg_50 := hb_422 _ _ hg_sh
          have hd_51 := jOl.trO (hh_39.iv 0 rfl) hh_39.2.2.2.2.1 hbO_42 (by simp)
          have hh_52 := hh_42.addI (jOl.ie (dC := dC) (dI := dI) (G0 := G0) (k := 2) (rs := [sh]) (H0 := s.heap) (F := [(2, 0), (2, 1)]) (C := RX0) (T := TX0) (N := 2) rfl (by decide) hh_42.2.2.2.2.1 (hd_51))
          clear hh_42
          have hyp_42 : qc_42.toInt ≤ (m_qa_42 : Nat) ∧ m_qa_42 ≤ 1048576 := by (try simp only at hr_43); omega
          have hy_53 := jYb.own hy_44 hbO_42 hb_422 hN_42 (by decide) (fun _ => ⟨_, _, _, hh_52.at 0 rfl, hh_52.at 1 rfl, hgq_42_0, hyp_42⟩)
          have hh_54 := hh_52.addI (jYb.ie hy_53)
          clear hh_52
          try simp only at hr_43
          obtain ⟨hr_43_0, hr_43_1, hr_43_2, hr_43_3, hr_43_4⟩ := hr_43
          have hh_55 := hh_54.wk (zc1 := (m_qa_42 - n_pa) / 16) (zs1 := 2 * (m_qa_42 - n_pa)) (by omega) (by omega)
          clear hh_54
          try clear hsz_42 htt_42 hrc_42 hrs_42
          try clear hb_424 hb_425
          refine lv_aload_n hx hb dX11_goals_69 rfl (lv_at hl 0 rfl) ?_
          refine lv_iload_n hx hb dX11_goals_70 rfl (lv_at hl 1 rfl) ?_
          refine j7_put hx hb hown hK hh_55 hB hAp hB13 (C := RX11) (T := TX11) (N := 19) rfl (by decide) hg_45 (i := 18) (by decide) hly_13_18 rfl hlk_89 rfl (ty := .int) (v := .int a1) (by decide +kernel) rfl rfl (⟨_, rfl⟩) rfl (L1 := [(sh, 2, 1, .int qc_42), (sh, 2, 0, .ref qa_42), (kernel_35, 7, 2, .ref start_38), (r0, 13, 5, .ref kernel_35), (r0, 13, 6, .ref printer_31), (latest_4, 3, 4, .int sentences_10), (r0, 13, 16, .ref latest_4), (r0, 13, 17, .ref sh)]) [0, 1, 2, 3, 4, 6, 7, 8] rfl rfl rfl dX11_goals_71 (fun H_56 locs_56 hh_56 => ?_)
          clear hh_55
          refine lv_iload_n hx hb dX11_goals_74 rfl (lv_at hl 2 rfl) ?_
          refine lv_if_lt (tgt := 89) hx hb dX11_goals_75 (by decide) (fun c_57 => ?_) (fun c_57 => ?_)
          · skip
            have c_57' : a2.toInt < 0 := jb_lt (rfl) ((by decide)) c_57
            refine lv_iconst (v := (-1)) hx hb dX11_goals_89 (by decide) ?_
            refine lv_goto (tgt := 106) hx hb dX11_goals_90 (by decide) ?_
            have hsz_58 := hh_56.2.2.2.2.2.1
            have htt_58 := hh_56.2.2.2.2.2.2.1
            refine W.room (fun hrc_58 hrs_58 => ?_)
            refine W.widen (k := LC - s.heap.size) (n := LS - jTot s.heap) (by omega) (by omega) ?_
            rw [hQ]
            exact W.iret (v := (-1)) hx hb hr (fun t ht hW => ⟨⟨(-1), (qc_42, qa_42, m_qa_42, G_42), rfl, by (try dsimp only); exact ⟨(by first | omega | rfl | assumption | fail), (by first | omega | rfl | assumption | fail), (by first | omega | rfl | assumption | fail), (by first | omega | rfl | assumption | fail), (by first | assumption | fail | omega)⟩, ⟨hh_56.ra (by first | omega | (simp only; omega)) (by first | omega | (simp only; omega)) (M1 := [(sh, 2, 1, .int qc_42), (sh, 2, 0, .ref qa_42)]) [1, 2] rfl ht, hgq_42_0, hNn_42, by rw [ht]; exact hh_56.iv 1 rfl, by rw [ht]; exact hh_56.2.2.2.2.2.2.2.2.sub (L1 := [(jFy, jYb dC dI G_42)]) [0] rfl⟩⟩, by rw [ht]; try exact hh_56.1.1, fun q h9 hq => by rw [ht]; try exact hh_56.1.2.1 q h9 hq⟩) hh_56.1.2.2 dX11_goals_106
          · skip
            have c_57' : a2.toInt ≥ 0 := jb_lt_n (rfl) ((by decide)) c_57
            refine lv_iload_n hx hb dX11_goals_78 rfl (lv_at hl 2 rfl) ?_
            refine lv_aload_n hx hb dX11_goals_79 rfl (lv_at hl 0 rfl) ?_
            refine j7_read hx hb hown hK (C := RX11) (T := TX11) (N := 19) rfl hly_13_17 hlk_86 (hh_56.at 8 rfl) dX11_goals_80 ?_
            refine j7_read hx hb hown hK (C := RX0) (T := TX0) (N := 2) rfl hly_2_1 hlk_92 (hh_56.at 1 rfl) dX11_goals_83 ?_
            refine lv_icmp_lt (tgt := 93) hx hb dX11_goals_86 (by decide) (fun c_59 => ?_) (fun c_59 => ?_)
            · skip
              have c_59' : a2.toInt < qc_42.toInt := jb_lt (rfl) (rfl) c_59
              refine lv_aload_n hx hb dX11_goals_93 rfl (lv_at hl 0 rfl) ?_
              refine j7_read hx hb hown hK (C := RX11) (T := TX11) (N := 19) rfl hly_13_17 hlk_86 (hh_56.at 8 rfl) dX11_goals_94 ?_
              refine j7_read hx hb hown hK (C := RX0) (T := TX0) (N := 2) rfl hly_2_0 hlk_98 (hh_56.at 2 rfl) dX11_goals_97 ?_
              refine lv_iload_n hx hb dX11_goals_100 rfl (lv_at hl 2 rfl) ?_
              refine j7_bald hx hb hK hh_56 hB196 0 rfl (by decide) hgq_42_0 (x := a2.toInt) (rfl) (by omega) dX11_goals_101 (fun z_60 (hz_60 : jBf (a2.toInt).toNat z_60) => ?_)
              refine lv_sipush (v := 255) hx hb dX11_goals_102 (by decide) ?_
              refine lv_iand hx hb dX11_goals_105 ?_
              refine lv_topi (fun z_61 ez_61 => ?_)
              have hz_61 : 0 ≤ z_61.toInt ∧ z_61.toInt ≤ 255 := by rw [ez_61]; exact jb_and z_60 (m := 255) (k := 8) (by decide) (by decide)
              have hsz_62 := hh_56.2.2.2.2.2.1
              have htt_62 := hh_56.2.2.2.2.2.2.1
              refine W.room (fun hrc_62 hrs_62 => ?_)
              refine W.widen (k := LC - s.heap.size) (n := LS - jTot s.heap) (by omega) (by omega) ?_
              rw [hQ]
              exact W.iret (v := z_61) hx hb hr (fun t ht hW => ⟨⟨z_61, (qc_42, qa_42, m_qa_42, G_42), rfl, by (try dsimp only); exact ⟨(by first | omega | rfl | assumption | fail), (by first | omega | rfl | assumption | fail), (by first | omega | rfl | assumption | fail), (by first | omega | rfl | assumption | fail), (by first | assumption | fail | omega)⟩, ⟨hh_56.ra (by first | omega | (simp only; omega)) (by first | omega | (simp only; omega)) (M1 := [(sh, 2, 1, .int qc_42), (sh, 2, 0, .ref qa_42)]) [1, 2] rfl ht, hgq_42_0, hNn_42, by rw [ht]; exact hh_56.iv 1 rfl, by rw [ht]; exact hh_56.2.2.2.2.2.2.2.2.sub (L1 := [(jFy, jYb dC dI G_42)]) [0] rfl⟩⟩, by rw [ht]; try exact hh_56.1.1, fun q h9 hq => by rw [ht]; try exact hh_56.1.2.1 q h9 hq⟩) hh_56.1.2.2 dX11_goals_106
            · skip
              have c_59' : a2.toInt ≥ qc_42.toInt := jb_lt_n (rfl) (rfl) c_59
              refine lv_iconst (v := (-1)) hx hb dX11_goals_89 (by decide) ?_
              refine lv_goto (tgt := 106) hx hb dX11_goals_90 (by decide) ?_
              have hsz_63 := hh_56.2.2.2.2.2.1
              have htt_63 := hh_56.2.2.2.2.2.2.1
              refine W.room (fun hrc_63 hrs_63 => ?_)
              refine W.widen (k := LC - s.heap.size) (n := LS - jTot s.heap) (by omega) (by omega) ?_
              rw [hQ]
              exact W.iret (v := (-1)) hx hb hr (fun t ht hW => ⟨⟨(-1), (qc_42, qa_42, m_qa_42, G_42), rfl, by (try dsimp only); exact ⟨(by first | omega | rfl | assumption | fail), (by first | omega | rfl | assumption | fail), (by first | omega | rfl | assumption | fail), (by first | omega | rfl | assumption | fail), (by first | assumption | fail | omega)⟩, ⟨hh_56.ra (by first | omega | (simp only; omega)) (by first | omega | (simp only; omega)) (M1 := [(sh, 2, 1, .int qc_42), (sh, 2, 0, .ref qa_42)]) [1, 2] rfl ht, hgq_42_0, hNn_42, by rw [ht]; exact hh_56.iv 1 rfl, by rw [ht]; exact hh_56.2.2.2.2.2.2.2.2.sub (L1 := [(jFy, jYb dC dI G_42)]) [0] rfl⟩⟩, by rw [ht]; try exact hh_56.1.1, fun q h9 hq => by rw [ht]; try exact hh_56.1.2.1 q h9 hq⟩) hh_56.1.2.2 dX11_goals_106
      · skip
        have c_11' : a1.toInt ≥ sentences_10.toInt := jb_lt_n (rfl) (rfl) c_11
        refine lv_iconst (v := (-1)) hx hb dX11_goals_23 (by decide) ?_
        have hsz_64 := hh_9.2.2.2.2.2.1
        have htt_64 := hh_9.2.2.2.2.2.2.1
        refine W.room (fun hrc_64 hrs_64 => ?_)
        refine W.widen (k := LC - s.heap.size) (n := LS - jTot s.heap) (by omega) (by omega) ?_
        rw [hQ]
        exact W.iret (v := (-1)) hx hb hr (fun t ht hW => ⟨⟨(-1), (pc, pa, n_pa, G0), rfl, by (try dsimp only); exact ⟨(by first | omega | rfl | assumption | fail), (by first | omega | rfl | assumption | fail), (by first | omega | rfl | assumption | fail), (by first | omega | rfl | assumption | fail), (by first | assumption | fail | omega)⟩, ⟨hh_9.ra (by first | omega | (simp only; omega)) (by first | omega | (simp only; omega)) (M1 := [(sh, 2, 1, .int pc), (sh, 2, 0, .ref pa)]) [3, 4] rfl ht, hg_pa, jNk.rf, by rw [ht]; exact hh_9.iv 0 rfl, by rw [ht]; exact hh_9.2.2.2.2.2.2.2.2.sub (L1 := [(jFy, jYb dC dI G0)]) [1] rfl⟩⟩, by rw [ht]; try exact hh_9.1.1, fun q h9 hq => by rw [ht]; try exact hh_9.1.2.1 q h9 hq⟩) hh_9.1.2.2 dX11_goals_24
end
