section
theorem dX6_write_0 : decode cX6_write 0 = .ok (.iload_n 1, 1) := by decide +kernel
theorem dX6_write_1 : decode cX6_write 1 = .ok (.ifCond .lt 11, 3) := by decide +kernel
theorem dX6_write_4 : decode cX6_write 4 = .ok (.iload_n 1, 1) := by decide +kernel
theorem dX6_write_5 : decode cX6_write 5 = .ok (.aload_n 0, 1) := by decide +kernel
theorem dX6_write_6 : decode cX6_write 6 = .ok (.getfield 52, 3) := by decide +kernel
theorem dX6_write_9 : decode cX6_write 9 = .ok (.if_icmp .lt 4, 3) := by decide +kernel
theorem dX6_write_12 : decode cX6_write 12 = .ok (.return_, 1) := by decide +kernel
theorem dX6_write_13 : decode cX6_write 13 = .ok (.aload_n 0, 1) := by decide +kernel
theorem dX6_write_14 : decode cX6_write 14 = .ok (.getfield 11, 3) := by decide +kernel
theorem dX6_write_17 : decode cX6_write 17 = .ok (.iload_n 1, 1) := by decide +kernel
theorem dX6_write_18 : decode cX6_write 18 = .ok (.laload, 1) := by decide +kernel
theorem dX6_write_19 : decode cX6_write 19 = .ok (.lstore 4, 2) := by decide +kernel
theorem dX6_write_21 : decode cX6_write 21 = .ok (.lload 4, 2) := by decide +kernel
theorem dX6_write_23 : decode cX6_write 23 = .ok (.lconst 1, 1) := by decide +kernel
theorem dX6_write_24 : decode cX6_write 24 = .ok (.lcmp, 1) := by decide +kernel
theorem dX6_write_25 : decode cX6_write 25 = .ok (.ifCond .le 29, 3) := by decide +kernel
theorem dX6_write_28 : decode cX6_write 28 = .ok (.aload_n 3, 1) := by decide +kernel
theorem dX6_write_29 : decode cX6_write 29 = .ok (.ldc 56, 2) := by decide +kernel
theorem dX6_write_31 : decode cX6_write 31 = .ok (.lload 4, 2) := by decide +kernel
theorem dX6_write_33 : decode cX6_write 33 = .ok (.ldc2_w 58, 3) := by decide +kernel
theorem dX6_write_36 : decode cX6_write 36 = .ok (.land, 1) := by decide +kernel
theorem dX6_write_37 : decode cX6_write 37 = .ok (.l2i, 1) := by decide +kernel
theorem dX6_write_38 : decode cX6_write 38 = .ok (.invokevirtual 30, 3) := by decide +kernel
theorem dX6_write_41 : decode cX6_write 41 = .ok (.invokevirtual 60, 3) := by decide +kernel
theorem dX6_write_44 : decode cX6_write 44 = .ok (.lload 4, 2) := by decide +kernel
theorem dX6_write_46 : decode cX6_write 46 = .ok (.bipush 6, 2) := by decide +kernel
theorem dX6_write_48 : decode cX6_write 48 = .ok (.lushr, 1) := by decide +kernel
theorem dX6_write_49 : decode cX6_write 49 = .ok (.lstore 4, 2) := by decide +kernel
theorem dX6_write_51 : decode cX6_write 51 = .ok (.goto (-30), 3) := by decide +kernel
theorem dX6_write_54 : decode cX6_write 54 = .ok (.iconst 0, 1) := by decide +kernel
theorem dX6_write_55 : decode cX6_write 55 = .ok (.istore 4, 2) := by decide +kernel
theorem dX6_write_57 : decode cX6_write 57 = .ok (.iload 4, 2) := by decide +kernel
theorem dX6_write_59 : decode cX6_write 59 = .ok (.aload_n 0, 1) := by decide +kernel
theorem dX6_write_60 : decode cX6_write 60 = .ok (.getfield 15, 3) := by decide +kernel
theorem dX6_write_63 : decode cX6_write 63 = .ok (.iload_n 1, 1) := by decide +kernel
theorem dX6_write_64 : decode cX6_write 64 = .ok (.iaload, 1) := by decide +kernel
theorem dX6_write_65 : decode cX6_write 65 = .ok (.iload_n 2, 1) := by decide +kernel
theorem dX6_write_66 : decode cX6_write 66 = .ok (.iadd, 1) := by decide +kernel
theorem dX6_write_67 : decode cX6_write 67 = .ok (.if_icmp .ge 15, 3) := by decide +kernel
theorem dX6_write_70 : decode cX6_write 70 = .ok (.aload_n 3, 1) := by decide +kernel
theorem dX6_write_71 : decode cX6_write 71 = .ok (.bipush 39, 2) := by decide +kernel
theorem dX6_write_73 : decode cX6_write 73 = .ok (.invokevirtual 60, 3) := by decide +kernel
theorem dX6_write_76 : decode cX6_write 76 = .ok (.iinc 4 1, 3) := by decide +kernel
theorem dX6_write_79 : decode cX6_write 79 = .ok (.goto (-22), 3) := by decide +kernel
theorem dX6_write_82 : decode cX6_write 82 = .ok (.return_, 1) := by decide +kernel
def EX6_write : List (Nat × Nat) := [(2, 0), (2, 1), (196, 0)]
set_option maxHeartbeats 4000000 in
set_option maxRecDepth 20000 in
theorem uX6_write (l : Launch) (dC : Nat → ClassId) (dI : Nat → Nat → Nat) (ca : Nat → ClassId) (base : Nat) (B : jF) (hB : jBok B) (hAp : jAp (dC, dI)) (hB2 : ∀ n G a H, B 2 n G a H ↔ jOb (dC, dI) 2 2 (F2 n G) a H) (hB8 : ∀ n G a H, B 8 n G a H ↔ jOb (dC, dI) 8 4 (F8 n G) a H) (hB102 : ∀ n G a H, B 102 n G a H ↔ jAl (dC, dI) (ca 2) n a H) (hB132 : ∀ n G a H, B 132 n G a H ↔ jAr (dC, dI) (ca 1) (fun j z => 0 ≤ z.toInt ∧ z.toInt ≤ 10) n a H) (hB196 : ∀ n G a H, B 196 n G a H ↔ jAr (dC, dI) (ca 0) (fun j z => jBf j z) n a H) (G0 : jT) (H0 : Heap) (r0 : Nat) (a1 : Int32) (a2 : Int32) (r3 : Nat) (pc : Int32) (pa : Nat) (n_pa : Nat) (LC LS : Nat) : Met l yX6_write (jw yX6_write cX6_write 6 none) ({ frames := 4, cells := LC - H0.size, slots := LS - jTot H0, locals := 141 }) (va_Pc [.ref r0, .int a1, .int a2, .ref r3] (fun U => U.heap = H0 ∧ jX B base G0 [] H0 ∧ jG dC dI ca base U ∧ G0 r3 = some (2, 0) ∧ G0 r0 = some (8, 0) ∧ G0 pa = some (196, n_pa) ∧ jP (dC, dI) G0 H0 [(r3, 2, 1, .int pc), (r3, 2, 0, .ref pa)] ∧ H0.size + (1048576 - n_pa) / 16 + 1 ≤ LC ∧ jTot H0 + 2 * (1048576 - n_pa) ≤ LS ∧ 0 ≤ pc.toInt ∧ pc.toInt ≤ n_pa ∧ 16 ≤ n_pa ∧ n_pa ≤ 1048576 ∧ jPw n_pa)) (va_Qv (S := Int32 × Nat × Nat × jT) (fun u => 0 ≤ u.1.toInt ∧ u.1.toInt ≤ u.2.2.1 ∧ n_pa ≤ u.2.2.1 ∧ u.2.2.1 ≤ 1048576 ∧ jPw u.2.2.1) (fun u t => jRa (dC, dI) B base G0 u.2.2.2 EX6_write H0 ((u.2.2.1 - n_pa) / 16) (2 * (u.2.2.1 - n_pa)) [(r3, 2, 1, .int u.1), (r3, 2, 0, .ref u.2.1)] t.heap ∧ u.2.2.2 u.2.1 = some (196, u.2.2.1) ∧ (jNk [0, 1, 2, 3, 4, 5, 6, 7, 8, 9, 10, 11, 12, 13, 14, 15, 16, 17, 175]) G0 u.2.2.2 ∧ jOw (dC, dI) G0 2 r3 H0 t.heap) (jA base)) (LC - H0.size) (LS - jTot H0) (jA base) := by
  refine Met.ofW (cc := cX6_write) (maxL := 6) (ret := none) (by decide) rfl ?_
  intro p e s m args below meth c s₁ Bd hml hv
  obtain ⟨rfl, hH0, hX, hG, hg_r3, hg_r0, hg_pa, hP0, hLC0, hLS0, hp0, hp1, hp2, hp3, hp4⟩ := hv
  have hK := hG.1
  have hx := Bd.exec
  have hb := Bd.bytes
  have hr := Bd.returns
  have hts := atoms_spec (ws := (jw yX6_write cX6_write 6 none)) Bd.pre
  have htw : ∀ w ∈ jWl, w.before _ s = true := fun w h => hts w (List.mem_cons_of_mem _ h)
  have hown : s.vm.findClass RX6 = some m.cls := findClass_of_methodNamed Bd.named
  have hlocks := Bd.notSynchronized
  obtain ⟨Q, hQ⟩ : ∃ Q, Q = MQ below (va_Qv (S := Int32 × Nat × Nat × jT) (fun u => 0 ≤ u.1.toInt ∧ u.1.toInt ≤ u.2.2.1 ∧ n_pa ≤ u.2.2.1 ∧ u.2.2.1 ≤ 1048576 ∧ jPw u.2.2.1) (fun u t => jRa (dC, dI) B base G0 u.2.2.2 EX6_write H0 ((u.2.2.1 - n_pa) / 16) (2 * (u.2.2.1 - n_pa)) [(r3, 2, 1, .int u.1), (r3, 2, 0, .ref u.2.1)] t.heap ∧ u.2.2.2 u.2.1 = some (196, u.2.2.1) ∧ (jNk [0, 1, 2, 3, 4, 5, 6, 7, 8, 9, 10, 11, 12, 13, 14, 15, 16, 17, 175]) G0 u.2.2.2 ∧ jOw (dC, dI) G0 2 r3 H0 t.heap) (jA base)) ([.ref r0, .int a1, .int a2, .ref r3] : List Value).toArray s (LC - H0.size) (LS - jTot H0) (jA base) := ⟨_, rfl⟩
  rw [← hQ]
  have hl := lv_entry ([.ref r0, .int a1, .int a2, .ref r3]) (n := 6) (Nat.le_of_ble_eq_true rfl)
  rw [lg_entry_eq]
  generalize (lg_sl ([.ref r0, .int a1, .int a2, .ref r3]) ++ List.replicate (6 - (lg_sl ([.ref r0, .int a1, .int a2, .ref r3])).length) Slot.unset).toArray = ls at hl ⊢
  have hl : lv_has ls 6 [(0, .ref r0), (1, .int a1), (2, .int a2), (3, .ref r3)] := hl
  generalize hR : (headSpec (jw yX6_write cX6_write 6 none) ({ frames := 4, cells := LC - H0.size, slots := LS - jTot H0, locals := 141 })).room = R
  subst hH0
  have hh : jSt (dC, dI) B base G0 G0 EX6_write s.heap 0 0 [(r3, 2, 1, .int pc), (r3, 2, 0, .ref pa)] [] [] s.heap [] := jSt.start hX hP0 jMc.nil jIs.nil
  clear hX hP0
  have hk0 : (0 : Int32).toInt = 0 := by decide
  have hk1 : (1 : Int32).toInt = 1 := by decide
  have hk6 : (6 : Int32).toInt = 6 := by decide
  have hk39 : (39 : Int32).toInt = 39 := by decide
  have hly_8_0 := htw (u_lay RX6 TX6 0) (jWc_wsX60 _ (u_in_lay (by decide)))
  have hly_8_1 := htw (u_lay RX6 TX6 1) (jWc_wsX60 _ (u_in_lay (by decide)))
  have hly_8_3 := htw (u_lay RX6 TX6 3) (jWc_wsX60 _ (u_in_lay (by decide)))
  have hlk_52 := (htw (.fieldLink RX6 52 "ProofServer$Names" "count" "I") (jWr_8 _ (List.mem_of_getElem? (i := 3) rfl)))
  have hlk_11 := (htw (.fieldLink RX6 11 "ProofServer$Names" "stems" "[J") (jWr_5 _ (List.mem_of_getElem? (i := 9) rfl)))
  obtain ⟨str56, rstr56, hstr560⟩ := hG.str (o := RX6) (k := 56) (tx := "abcdefghijklmnopqrstuvwxyzABCDEFGHIJKLMNOPQRSTUVWXYZ0123456789_'") (List.mem_of_getElem? (i := 987) (by decide +kernel))
  have hstr56 : jStr base str56 64 s s.heap := hstr560
  have hlk_15 := (htw (.fieldLink RX6 15 "ProofServer$Names" "primes" "[I") (jWr_5 _ (List.mem_of_getElem? (i := 10) rfl)))
  have hrg_a1 := jb_rng a1
  have hrg_a2 := jb_rng a2
  have hbs : base ≤ s.heap.size := Nat.le_of_lt (Nat.lt_of_le_of_lt (hh.ab hg_r0).1 (hh.ab hg_r0).2)
  have hRc : R.cells = LC - s.heap.size := by rw [← hR]; rfl
  have hRs : R.slots = LS - jTot s.heap := by rw [← hR]; rfl
  have hh_1 := hh.addI (jOw.ie (dC := dC) (dI := dI) (G0 := G0) (k := 2) (r := r3) (H0 := s.heap) (F := [(2, 0), (2, 1)]) (C := RX0) (T := TX0) (N := 2) rfl (by decide) hh.2.2.2.2.1 (jOw.rf))
  clear hh
  refine lv_iload_n hx hb dX6_write_0 rfl (lv_at hl 1 rfl) ?_
  refine lv_if_lt (tgt := 12) hx hb dX6_write_1 (by decide) (fun c_2 => ?_) (fun c_2 => ?_)
  · skip
    have c_2' : a1.toInt < 0 := jb_lt (rfl) ((by decide)) c_2
    have hsz_3 := hh_1.2.2.2.2.2.1
    have htt_3 := hh_1.2.2.2.2.2.2.1
    refine W.room (fun hrc_3 hrs_3 => ?_)
    refine W.widen (k := LC - s.heap.size) (n := LS - jTot s.heap) (by omega) (by omega) ?_
    rw [hQ]
    exact W.vret hx hb hr (fun t ht hW => ⟨⟨(pc, pa, n_pa, G0), rfl, by (try dsimp only); exact ⟨(by first | omega | rfl | assumption | fail), (by first | omega | rfl | assumption | fail), (by first | omega | rfl | assumption | fail), (by first | omega | rfl | assumption | fail), (by first | assumption | fail | omega)⟩, ⟨hh_1.ra (by first | omega | (simp only; omega)) (by first | omega | (simp only; omega)) (M1 := [(r3, 2, 1, .int pc), (r3, 2, 0, .ref pa)]) [0, 1] rfl ht, hg_pa, jNk.rf, by rw [ht]; exact hh_1.iv 0 rfl⟩⟩, by rw [ht]; try exact hh_1.1.1, fun q h9 hq => by rw [ht]; try exact hh_1.1.2.1 q h9 hq⟩) hh_1.1.2.2 dX6_write_12
  · skip
    have c_2' : a1.toInt ≥ 0 := jb_lt_n (rfl) ((by decide)) c_2
    refine lv_iload_n hx hb dX6_write_4 rfl (lv_at hl 1 rfl) ?_
    refine lv_aload_n hx hb dX6_write_5 rfl (lv_at hl 0 rfl) ?_
    obtain ⟨v_4, hv_4, hh_5⟩ := hh_1.pin (C := RX6) (T := TX6) (N := 4) hB8 rfl (by decide) hg_r0 (i := 3) (by decide) rfl
    clear hh_1
    obtain ⟨count_6, rfl, hlocount_6, hhicount_6⟩ := hv_4
    refine j7_read hx hb hown hK (C := RX6) (T := TX6) (N := 4) rfl hly_8_3 hlk_52 (hh_5.at 0 rfl) dX6_write_6 ?_
    refine lv_icmp_lt (tgt := 13) hx hb dX6_write_9 (by decide) (fun c_7 => ?_) (fun c_7 => ?_)
    · skip
      have c_7' : a1.toInt < count_6.toInt := jb_lt (rfl) (rfl) c_7
      refine lv_aload_n hx hb dX6_write_13 rfl (lv_at hl 0 rfl) ?_
      obtain ⟨v_8, hv_8, hh_9⟩ := hh_5.pin (C := RX6) (T := TX6) (N := 4) hB8 rfl (by decide) hg_r0 (i := 0) (by decide) rfl
      clear hh_5
      obtain ⟨stems_10, rfl, hg_stems_10⟩ := hv_8
      refine j7_read hx hb hown hK (C := RX6) (T := TX6) (N := 4) rfl hly_8_0 hlk_11 (hh_9.at 0 rfl) dX6_write_14 ?_
      refine lv_iload_n hx hb dX6_write_17 rfl (lv_at hl 1 rfl) ?_
      refine j7_lald hx hb hK hh_9 hB102 2 rfl (by decide) hg_stems_10 (x := a1.toInt) (rfl) (by omega) dX6_write_18 (fun z_11 => ?_)
      refine lv_lstore (lv' := [(4, .long z_11), (0, .ref r0), (1, .int a1), (2, .int a2), (3, .ref r3)]) hx hb dX6_write_19 hl (by decide) rfl (fun ls hl => ?_)
      have L21 : ∀ (N : Nat) (Gx_12 : jT) (zcx_12 : Nat) (zsx_12 : Nat) (v4_12 : Int64) (wc_12 : Int32) (wr_12 : Nat) (m_wr_12 : Nat) (H_12 : Heap) (locs_12 : List Loc), jSt (dC, dI) B base G0 Gx_12 EX6_write s.heap zcx_12 zsx_12 [(r3, 2, 1, .int wc_12), (r3, 2, 0, .ref wr_12), (r0, 8, 0, .ref stems_10), (r0, 8, 3, .int count_6)] [] [([(2, 0), (2, 1)], jOw (dC, dI) G0 2 r3 s.heap)] H_12 locs_12 → (jNk [0, 1, 2, 3, 4, 5, 6, 7, 8, 9, 10, 11, 12, 13, 14, 15, 16, 17, 175]) G0 Gx_12 → jLe G0 Gx_12 → Gx_12 wr_12 = some (196, m_wr_12) → (0 ≤ wc_12.toInt ∧ wc_12.toInt ≤ m_wr_12 ∧ n_pa ≤ m_wr_12 ∧ m_wr_12 ≤ 1048576 ∧ jPw m_wr_12 ∧ zcx_12 ≤ (m_wr_12 - n_pa) / 16 ∧ zsx_12 ≤ 2 * (m_wr_12 - n_pa)) → (((v4_12.toInt).toNat : Int) : Int) < N → ∀ ls : Array Slot, lv_has ls 6 [(0, .ref r0), (1, .int a1), (2, .int a2), (3, .ref r3), (4, .long v4_12)] → W p l e R s m ([.ref r0, .int a1, .int a2, .ref r3] : List Value).toArray below meth c H_12 locs_12 zcx_12 zsx_12 Q (F0 m 21 ls []) := by
        intro N
        induction N with
        | zero => intro Gx_12 zcx_12 zsx_12 v4_12 wc_12 wr_12 m_wr_12 H_12 locs_12 hh_12 hN_12 hle_12 hg_wr_12 hi_12 hm; exact absurd hm (by omega)
        | succ N L21 =>
          intro Gx_12 zcx_12 zsx_12 v4_12 wc_12 wr_12 m_wr_12 H_12 locs_12 hh_12 hN_12 hle_12 hg_wr_12 hi_12 hm_12 ls hl
          have hg_13 := hle_12 _ _ hg_r0
          have hg_14 := hle_12 _ _ hg_r3
          have hg_15 := hle_12 _ _ hg_stems_10
          obtain ⟨hi_12_0, hi_12_1, hi_12_2, hi_12_3, hi_12_4, hi_12_5, hi_12_6⟩ := hi_12
          refine lv_lload hx hb dX6_write_21 (lv_at hl 4 rfl) ?_
          refine lv_lconst (v := 1) hx hb dX6_write_23 (by decide) ?_
          refine W.lcmp hx hb dX6_write_24 ?_
          refine lv_topi (fun z_16 ez_16 => ?_)
          have hz_16 := jb_lcmp ez_16
          have hqz_16_1 : (1 : Int64).toInt = 1 := by decide
          refine lv_if_le (tgt := 54) hx hb dX6_write_25 (by decide) (fun c_17 => ?_) (fun c_17 => ?_)
          · skip
            have c_17' : z_16.toInt ≤ 0 := jb_le (rfl) ((by decide)) c_17
            refine lv_iconst (v := 0) hx hb dX6_write_54 (by decide) ?_
            refine lv_istore (lv' := [(4, .int 0), (0, .ref r0), (1, .int a1), (2, .int a2), (3, .ref r3)]) hx hb dX6_write_55 hl (by decide) rfl (fun ls hl => ?_)
            have L57 : ∀ (N : Nat) (Gx_18 : jT) (zcx_18 : Nat) (zsx_18 : Nat) (v4_18 : Int32) (wc_18 : Int32) (wr_18 : Nat) (m_wr_18 : Nat) (H_18 : Heap) (locs_18 : List Loc), jSt (dC, dI) B base G0 Gx_18 EX6_write s.heap zcx_18 zsx_18 [(r3, 2, 1, .int wc_18), (r3, 2, 0, .ref wr_18), (r0, 8, 0, .ref stems_10), (r0, 8, 3, .int count_6)] [] [([(2, 0), (2, 1)], jOw (dC, dI) G0 2 r3 s.heap)] H_18 locs_18 → (jNk [0, 1, 2, 3, 4, 5, 6, 7, 8, 9, 10, 11, 12, 13, 14, 15, 16, 17, 175]) G0 Gx_18 → jLe Gx_12 Gx_18 → Gx_18 wr_18 = some (196, m_wr_18) → (0 ≤ wc_18.toInt ∧ wc_18.toInt ≤ m_wr_18 ∧ n_pa ≤ m_wr_18 ∧ m_wr_18 ≤ 1048576 ∧ jPw m_wr_18 ∧ zcx_18 ≤ (m_wr_18 - n_pa) / 16 ∧ zsx_18 ≤ 2 * (m_wr_18 - n_pa) ∧ 0 ≤ v4_18.toInt ∧ v4_18.toInt ≤ 2147483647) → (2147483648 - v4_18.toInt : Int) < N → ∀ ls : Array Slot, lv_has ls 6 [(0, .ref r0), (1, .int a1), (2, .int a2), (3, .ref r3), (4, .int v4_18)] → W p l e R s m ([.ref r0, .int a1, .int a2, .ref r3] : List Value).toArray below meth c H_18 locs_18 zcx_18 zsx_18 Q (F0 m 57 ls []) := by
              intro N
              induction N with
              | zero => intro Gx_18 zcx_18 zsx_18 v4_18 wc_18 wr_18 m_wr_18 H_18 locs_18 hh_18 hN_18 hle_18 hg_wr_18 hi_18 hm; exact absurd hm (by omega)
              | succ N L57 =>
                intro Gx_18 zcx_18 zsx_18 v4_18 wc_18 wr_18 m_wr_18 H_18 locs_18 hh_18 hN_18 hle_18 hg_wr_18 hi_18 hm_18 ls hl
                have hg_19 := hle_18 _ _ hg_13
                have hg_20 := hle_18 _ _ hg_14
                have hg_21 := hle_18 _ _ hg_15
                obtain ⟨hi_18_0, hi_18_1, hi_18_2, hi_18_3, hi_18_4, hi_18_5, hi_18_6, hi_18_7, hi_18_8⟩ := hi_18
                refine lv_iload hx hb dX6_write_57 (lv_at hl 4 rfl) ?_
                refine lv_aload_n hx hb dX6_write_59 rfl (lv_at hl 0 rfl) ?_
                obtain ⟨v_22, hv_22, hh_23⟩ := hh_18.pin (C := RX6) (T := TX6) (N := 4) hB8 rfl (by decide) hg_19 (i := 1) (by decide) rfl
                clear hh_18
                obtain ⟨primes_24, rfl, hg_primes_24⟩ := hv_22
                refine j7_read hx hb hown hK (C := RX6) (T := TX6) (N := 4) rfl hly_8_1 hlk_15 (hh_23.at 0 rfl) dX6_write_60 ?_
                refine lv_iload_n hx hb dX6_write_63 rfl (lv_at hl 1 rfl) ?_
                refine j7_iald hx hb hK hh_23 hB132 1 rfl (by decide) hg_primes_24 (x := a1.toInt) (rfl) (by omega) dX6_write_64 (fun z_25 (hz_25 : 0 ≤ z_25.toInt ∧ z_25.toInt ≤ 10) => ?_)
                refine lv_iload_n hx hb dX6_write_65 rfl (lv_at hl 2 rfl) ?_
                refine lv_iadd hx hb dX6_write_66 ?_
                refine lv_topi (fun z_26 ez_26 => ?_)
                have hrgz_26 := jb_rng z_26
                refine lv_icmp_ge (tgt := 82) hx hb dX6_write_67 (by decide) (fun c_27 => ?_) (fun c_27 => ?_)
                · skip
                  have c_27' : v4_18.toInt ≥ z_26.toInt := jb_ge (rfl) (rfl) c_27
                  have hsz_28 := hh_23.2.2.2.2.2.1
                  have htt_28 := hh_23.2.2.2.2.2.2.1
                  refine W.room (fun hrc_28 hrs_28 => ?_)
                  refine W.widen (k := LC - s.heap.size) (n := LS - jTot s.heap) (by omega) (by omega) ?_
                  rw [hQ]
                  exact W.vret hx hb hr (fun t ht hW => ⟨⟨(wc_18, wr_18, m_wr_18, Gx_18), rfl, by (try dsimp only); exact ⟨(by first | omega | rfl | assumption | fail), (by first | omega | rfl | assumption | fail), (by first | omega | rfl | assumption | fail), (by first | omega | rfl | assumption | fail), (by first | assumption | fail | omega)⟩, ⟨hh_23.ra (by first | omega | (simp only; omega)) (by first | omega | (simp only; omega)) (M1 := [(r3, 2, 1, .int wc_18), (r3, 2, 0, .ref wr_18)]) [1, 2] rfl ht, hg_wr_18, hN_18, by rw [ht]; exact hh_23.iv 0 rfl⟩⟩, by rw [ht]; try exact hh_23.1.1, fun q h9 hq => by rw [ht]; try exact hh_23.1.2.1 q h9 hq⟩) hh_23.1.2.2 dX6_write_82
                · skip
                  have c_27' : v4_18.toInt < z_26.toInt := jb_ge_n (rfl) (rfl) c_27
                  refine lv_aload_n hx hb dX6_write_70 rfl (lv_at hl 3 rfl) ?_
                  refine lv_bipush (v := 39) hx hb dX6_write_71 (by decide) ?_
                  have hsz_29 := hh_23.2.2.2.2.2.1
                  have htt_29 := hh_23.2.2.2.2.2.2.1
                  refine W.room (fun hrc_29 hrs_29 => ?_)
                  refine va_callv (A0 := jA base) (H0 := s.heap) (va_runV (As := [.int 39]) (rest := []) ⟨hx, hb, hml, hown, hts⟩ (uX0_put l dC dI ca base B hB hAp hB2 hB196 Gx_18 H_18 r3 39 wc_18 wr_18 m_wr_18 LC LS) (cwV 1 hts (jgV (jWr_31 _ (List.mem_of_getElem? (i := 22) rfl)) (jWr_16 _ (List.mem_of_getElem? (i := 0) rfl)) (jWr_16 _ (List.mem_of_getElem? (i := 1) rfl)) (jWr_1 _ (List.mem_of_getElem? (i := 14) rfl)) (jWr_16 _ (List.mem_of_getElem? (i := 2) rfl))) rfl rfl rfl (by decide +kernel) ⟨by rw [← hR]; exact Nat.le_of_ble_eq_true rfl, by rw [← hR]; exact Nat.le_of_ble_eq_true rfl⟩) ⟨fun a U g mk q => by obtain ⟨q0, q1, q2, qK, q10, q11, q12, q13⟩ := q; exact ⟨q0, q1, q2, jG.calling g mk a qK, q10, q11, q12, q13⟩, hh_23.recv (C := RX0) (T := TX0) (N := 2) hB2 rfl (by decide) hg_20 hK, fun U hU hW => ⟨rfl, hU, hh_23.2.1, hG.step hW hU hh_23.1, hg_20, hg_wr_18, (hh_23.2.2.1.sub (L1 := [(r3, 2, 1, .int wc_18), (r3, 2, 0, .ref wr_18)]) [1, 2] rfl), (by omega), (by omega), ⟨(by first | omega | rfl | assumption | fail), (by first | omega | rfl | assumption | fail), (by first | omega | rfl | assumption | fail), (by first | omega | rfl | assumption | fail), (by first | assumption | fail | omega)⟩⟩⟩ rfl rfl hl.1 rfl (lv_room (Nat.le_of_ble_eq_true rfl)) dX6_write_73 ⟨by rw [hRc]; omega, by rw [hRs]; omega⟩) hh_23.1 (fun q _ h => h) (fun q h => h) (fun u_29 t_29 H_29 locs_29 ht_29 hvm_29 hr_30 hb_29 hz_29 hk_29 hS_29 => ?_)
                  obtain ⟨qc_29, qa_29, m_qa_29, G_29⟩ := u_29
                  rw [ht_29] at hb_29
                  simp only at hb_29
                  obtain ⟨⟨hb_291, hb_292, hb_293, hb_294, hb_295, hb_296⟩, hgq_29_0, hN_29, hbO_29⟩ := hb_29
                  have hh_29 : jSt (dC, dI) B base G0 G_29 EX6_write s.heap (zcx_18 + ((m_qa_29 - m_wr_18) / 16)) (zsx_18 + (2 * (m_qa_29 - m_wr_18))) [(r3, 2, 1, .int qc_29), (r3, 2, 0, .ref qa_29), (r0, 8, 1, .ref primes_24), (r0, 8, 0, .ref stems_10), (r0, 8, 3, .int count_6)] [] [] H_29 locs_29 := (hh_23.callG hb_291 hb_292 hb_293 hb_294 hb_295 hS_29 rfl (L1 := [(r0, 8, 1, .ref primes_24), (r0, 8, 0, .ref stems_10), (r0, 8, 3, .int count_6)]) [0, 3, 4] rfl rfl (M1 := []) [] rfl rfl (I1 := []) [] rfl rfl).more hb_296
                  have hNn_29 : (jNk [0, 1, 2, 3, 4, 5, 6, 7, 8, 9, 10, 11, 12, 13, 14, 15, 16, 17, 175]) G0 G_29 := (hN_18).tr hN_29
                  have hg_31 := hb_292 _ _ hg_19
                  have hg_32 := hb_292 _ _ hg_20
                  have hg_33 := hb_292 _ _ hg_primes_24
                  have hg_34 := hb_292 _ _ hg_21
                  have hd_35 := jOw.tr (hh_23.iv 0 rfl) hh_23.2.2.2.2.1 hbO_29
                  have hh_36 := hh_29.addI (jOw.ie (dC := dC) (dI := dI) (G0 := G0) (k := 2) (r := r3) (H0 := s.heap) (F := [(2, 0), (2, 1)]) (C := RX0) (T := TX0) (N := 2) rfl (by decide) hh_29.2.2.2.2.1 (hd_35))
                  clear hh_29
                  try simp only at hr_30
                  obtain ⟨hr_30_0, hr_30_1, hr_30_2, hr_30_3, hr_30_4⟩ := hr_30
                  have hh_37 := hh_36.wk (zc1 := (m_qa_29 - n_pa) / 16) (zs1 := 2 * (m_qa_29 - n_pa)) (by omega) (by omega)
                  clear hh_36
                  try clear hsz_29 htt_29 hrc_29 hrs_29
                  try clear hb_294 hb_295
                  obtain ⟨z_38, ez_38⟩ : ∃ y : Int32, y = v4_18 + 1 := ⟨_, rfl⟩
                  refine lv_iinc (v := z_38) (lv' := [(4, .int z_38), (0, .ref r0), (1, .int a1), (2, .int a2), (3, .ref r3)]) hx hb dX6_write_76 hl (k := 4) rfl (by rw [ez_38]; rfl) (by decide) rfl (fun ls hl => ?_)
                  have hz_38 : z_38.toInt = v4_18.toInt + 1 := by rw [ez_38]; exact jb_iadd2 (rfl) (by decide) (by omega)
                  refine lv_goto (tgt := 57) hx hb dX6_write_79 (by decide) ?_
                  refine W.tight (c2 := ((m_qa_29 - n_pa) / 16)) (n2 := (2 * (m_qa_29 - n_pa))) hh_37.2.2.2.2.2.1 hh_37.2.2.2.2.2.2.1 ?_
                  exact L57 G_29 ((m_qa_29 - n_pa) / 16) (2 * (m_qa_29 - n_pa)) z_38 qc_29 qa_29 m_qa_29 _ _ (hh_37.sub (L1 := [(r3, 2, 1, .int qc_29), (r3, 2, 0, .ref qa_29), (r0, 8, 0, .ref stems_10), (r0, 8, 3, .int count_6)]) [0, 1, 3, 4] rfl (M1 := []) [] rfl (I1 := [([(2, 0), (2, 1)], jOw (dC, dI) G0 2 r3 s.heap)]) [0] rfl) (hNn_29) ((hle_18).tr hb_292) hgq_29_0 (⟨(by first | omega | rfl | assumption | fail), (by first | omega | rfl | assumption | fail), (by first | omega | rfl | assumption | fail), (by first | omega | rfl | assumption | fail), (by first | assumption | fail | omega), (by first | omega | rfl | assumption | fail), (by first | omega | rfl | assumption | fail), (by first | omega | rfl | assumption | fail), (by first | omega | rfl | assumption | fail)⟩) (by omega) _ (lv_sub hl [1, 2, 3, 4, 0] rfl)
            refine W.tight (c2 := zcx_12) (n2 := zsx_12) hh_12.2.2.2.2.2.1 hh_12.2.2.2.2.2.2.1 ?_
            exact L57 (2147483648 - (0 : Int32).toInt : Int).toNat.succ Gx_12 zcx_12 zsx_12 0 wc_12 wr_12 m_wr_12 _ _ hh_12 (hN_12) (jLe.rf) hg_wr_12 (⟨(by first | omega | rfl | assumption | fail), (by first | omega | rfl | assumption | fail), (by first | omega | rfl | assumption | fail), (by first | omega | rfl | assumption | fail), (by first | assumption | fail | omega), (by first | omega | rfl | assumption | fail), (by first | omega | rfl | assumption | fail), (by first | omega | rfl | assumption | fail), (by first | omega | rfl | assumption | fail)⟩) (by omega) _ (lv_sub hl [1, 2, 3, 4, 0] rfl)
          · skip
            have c_17' : z_16.toInt > 0 := jb_le_n (rfl) ((by decide)) c_17
            refine lv_aload_n hx hb dX6_write_28 rfl (lv_at hl 3 rfl) ?_
            refine va_ldcS hx hb hown rstr56 dX6_write_29 ?_
            refine lv_lload hx hb dX6_write_31 (lv_at hl 4 rfl) ?_
            refine lv_ldc2 hx hb hown (htw (.constantLong RX6 58 63) (jWr_31 _ (List.mem_of_getElem? (i := 21) rfl))) dX6_write_33 ?_
            refine lv_land hx hb dX6_write_36 ?_
            refine lv_topl (fun z_39 ez_39 => ?_)
            refine lv_l2i hx hb dX6_write_37 rfl ?_
            refine lv_topi (fun z_40 ez_40 => ?_)
            have hld := jb_land63 (by assumption) (by assumption)
            have hsz_43 := hh_12.2.2.2.2.2.1
            have htt_43 := hh_12.2.2.2.2.2.2.1
            refine W.room (fun hrc_43 hrs_43 => ?_)
            have hsz_42 := hh_12.2.2.2.2.2.1
            have htt_42 := hh_12.2.2.2.2.2.2.1
            refine W.room (fun hrc_42 hrs_42 => ?_)
            refine vp_callSi (W.runV (As := [.int z_40]) (rest := [.ref r3]) ⟨hx, hb, hml, hown, hts⟩ (wJ0_charAt_5068e l dC dI ca base H_12 str56 64 z_40) (cwV 1 hts (jgV (jWr_6 _ (List.mem_of_getElem? (i := 0) rfl)) (jWr_6 _ (List.mem_of_getElem? (i := 1) rfl)) (jWr_6 _ (List.mem_of_getElem? (i := 2) rfl)) (jWr_5 _ (List.mem_of_getElem? (i := 15) rfl)) (jWr_6 _ (List.mem_of_getElem? (i := 3) rfl))) rfl rfl rfl (by decide +kernel) ⟨by rw [← hR]; exact Nat.le_of_ble_eq_true rfl, by rw [← hR]; exact Nat.le_of_ble_eq_true rfl⟩) ⟨fun a U g mk q => by obtain ⟨q0, q1, q2, qK, q9⟩ := q; exact ⟨q0, q1, (q2.moved (Vm.Alike.refl U.vm)), jG.calling g mk a qK, q9⟩, jStr_recv hstr56 hh_12.1, fun U hU hW => ⟨rfl, hU, (hstr56.moved hW.alike).kept hh_12.1.2.1, hG.step hW hU hh_12.1, ⟨by omega, by omega, by omega⟩⟩⟩ rfl rfl hl.1 rfl (lv_room (Nat.le_of_ble_eq_true rfl)) dX6_write_38 ⟨by rw [hRc]; omega, by rw [hRs]; omega⟩) (fun r_41 hr_41 => ?_)
            have hsz_44 := hh_12.2.2.2.2.2.1
            have htt_44 := hh_12.2.2.2.2.2.2.1
            refine W.room (fun hrc_44 hrs_44 => ?_)
            refine va_callv (A0 := jA base) (H0 := s.heap) (va_runV (As := [.int r_41]) (rest := []) ⟨hx, hb, hml, hown, hts⟩ (uX0_put l dC dI ca base B hB hAp hB2 hB196 Gx_12 H_12 r3 r_41 wc_12 wr_12 m_wr_12 LC LS) (cwV 1 hts (jgV (jWr_31 _ (List.mem_of_getElem? (i := 22) rfl)) (jWr_16 _ (List.mem_of_getElem? (i := 0) rfl)) (jWr_16 _ (List.mem_of_getElem? (i := 1) rfl)) (jWr_1 _ (List.mem_of_getElem? (i := 14) rfl)) (jWr_16 _ (List.mem_of_getElem? (i := 2) rfl))) rfl rfl rfl (by decide +kernel) ⟨by rw [← hR]; exact Nat.le_of_ble_eq_true rfl, by rw [← hR]; exact Nat.le_of_ble_eq_true rfl⟩) ⟨fun a U g mk q => by obtain ⟨q0, q1, q2, qK, q10, q11, q12, q13⟩ := q; exact ⟨q0, q1, q2, jG.calling g mk a qK, q10, q11, q12, q13⟩, hh_12.recv (C := RX0) (T := TX0) (N := 2) hB2 rfl (by decide) hg_14 hK, fun U hU hW => ⟨rfl, hU, hh_12.2.1, hG.step hW hU hh_12.1, hg_14, hg_wr_12, (hh_12.2.2.1.sub (L1 := [(r3, 2, 1, .int wc_12), (r3, 2, 0, .ref wr_12)]) [0, 1] rfl), (by omega), (by omega), ⟨(by first | omega | rfl | assumption | fail), (by first | omega | rfl | assumption | fail), (by first | omega | rfl | assumption | fail), (by first | omega | rfl | assumption | fail), (by first | assumption | fail | omega)⟩⟩⟩ rfl rfl hl.1 rfl (lv_room (Nat.le_of_ble_eq_true rfl)) dX6_write_41 ⟨by rw [hRc]; omega, by rw [hRs]; omega⟩) hh_12.1 (fun q _ h => h) (fun q h => h) (fun u_44 t_44 H_44 locs_44 ht_44 hvm_44 hr_45 hb_44 hz_44 hk_44 hS_44 => ?_)
            obtain ⟨qc_44, qa_44, m_qa_44, G_44⟩ := u_44
            rw [ht_44] at hb_44
            simp only at hb_44
            obtain ⟨⟨hb_441, hb_442, hb_443, hb_444, hb_445, hb_446⟩, hgq_44_0, hN_44, hbO_44⟩ := hb_44
            have hh_44 : jSt (dC, dI) B base G0 G_44 EX6_write s.heap (zcx_12 + ((m_qa_44 - m_wr_12) / 16)) (zsx_12 + (2 * (m_qa_44 - m_wr_12))) [(r3, 2, 1, .int qc_44), (r3, 2, 0, .ref qa_44), (r0, 8, 0, .ref stems_10), (r0, 8, 3, .int count_6)] [] [] H_44 locs_44 := (hh_12.callG hb_441 hb_442 hb_443 hb_444 hb_445 hS_44 rfl (L1 := [(r0, 8, 0, .ref stems_10), (r0, 8, 3, .int count_6)]) [2, 3] rfl rfl (M1 := []) [] rfl rfl (I1 := []) [] rfl rfl).more hb_446
            have hNn_44 : (jNk [0, 1, 2, 3, 4, 5, 6, 7, 8, 9, 10, 11, 12, 13, 14, 15, 16, 17, 175]) G0 G_44 := (hN_12).tr hN_44
            have hg_46 := hb_442 _ _ hg_13
            have hg_47 := hb_442 _ _ hg_14
            have hg_48 := hb_442 _ _ hg_15
            have hd_49 := jOw.tr (hh_12.iv 0 rfl) hh_12.2.2.2.2.1 hbO_44
            have hh_50 := hh_44.addI (jOw.ie (dC := dC) (dI := dI) (G0 := G0) (k := 2) (r := r3) (H0 := s.heap) (F := [(2, 0), (2, 1)]) (C := RX0) (T := TX0) (N := 2) rfl (by decide) hh_44.2.2.2.2.1 (hd_49))
            clear hh_44
            try simp only at hr_45
            obtain ⟨hr_45_0, hr_45_1, hr_45_2, hr_45_3, hr_45_4⟩ := hr_45
            have hh_51 := hh_50.wk (zc1 := (m_qa_44 - n_pa) / 16) (zs1 := 2 * (m_qa_44 - n_pa)) (by omega) (by omega)
            clear hh_50
            try clear hsz_44 htt_44 hrc_44 hrs_44
            try clear hb_444 hb_445
            refine lv_lload hx hb dX6_write_44 (lv_at hl 4 rfl) ?_
            refine lv_bipush (v := 6) hx hb dX6_write_46 (by decide) ?_
            refine lv_lushr hx hb dX6_write_48 rfl ?_
            refine lv_topl (fun z_52 ez_52 => ?_)
            have hls := jb_lush6 (by assumption) (by omega)
            refine lv_lstore (lv' := [(4, .long z_52), (0, .ref r0), (1, .int a1), (2, .int a2), (3, .ref r3)]) hx hb dX6_write_49 hl (by decide) rfl (fun ls hl => ?_)
            refine lv_goto (tgt := 21) hx hb dX6_write_51 (by decide) ?_
            refine W.tight (c2 := ((m_qa_44 - n_pa) / 16)) (n2 := (2 * (m_qa_44 - n_pa))) hh_51.2.2.2.2.2.1 hh_51.2.2.2.2.2.2.1 ?_
            exact L21 G_44 ((m_qa_44 - n_pa) / 16) (2 * (m_qa_44 - n_pa)) z_52 qc_44 qa_44 m_qa_44 _ _ hh_51 (hNn_44) ((hle_12).tr hb_442) hgq_44_0 (⟨(by first | omega | rfl | assumption | fail), (by first | omega | rfl | assumption | fail), (by first | omega | rfl | assumption | fail), (by first | omega | rfl | assumption | fail), (by first | assumption | fail | omega), (by first | omega | rfl | assumption | fail), (by first | omega | rfl | assumption | fail)⟩) (by omega) _ (lv_sub hl [1, 2, 3, 4, 0] rfl)
      refine W.tight (c2 := 0) (n2 := 0) hh_9.2.2.2.2.2.1 hh_9.2.2.2.2.2.2.1 ?_
      exact L21 ((((z_11 : Int64).toInt).toNat : Int) : Int).toNat.succ G0 0 0 z_11 pc pa n_pa _ _ (hh_9.sub (L1 := [(r3, 2, 1, .int pc), (r3, 2, 0, .ref pa), (r0, 8, 0, .ref stems_10), (r0, 8, 3, .int count_6)]) [2, 3, 0, 1] rfl (M1 := []) [] rfl (I1 := [([(2, 0), (2, 1)], jOw (dC, dI) G0 2 r3 s.heap)]) [0] rfl) (jNk.rf) (jLe.rf) hg_pa (⟨(by first | omega | rfl | assumption | fail), (by first | omega | rfl | assumption | fail), (by first | omega | rfl | assumption | fail), (by first | omega | rfl | assumption | fail), (by first | assumption | fail | omega), (by first | omega | rfl | assumption | fail), (by first | omega | rfl | assumption | fail)⟩) (by omega) _ (lv_sub hl [1, 2, 3, 4, 0] rfl)
    · skip
      have c_7' : a1.toInt ≥ count_6.toInt := jb_lt_n (rfl) (rfl) c_7
      have hsz_53 := hh_5.2.2.2.2.2.1
      have htt_53 := hh_5.2.2.2.2.2.2.1
      refine W.room (fun hrc_53 hrs_53 => ?_)
      refine W.widen (k := LC - s.heap.size) (n := LS - jTot s.heap) (by omega) (by omega) ?_
      rw [hQ]
      exact W.vret hx hb hr (fun t ht hW => ⟨⟨(pc, pa, n_pa, G0), rfl, by (try dsimp only); exact ⟨(by first | omega | rfl | assumption | fail), (by first | omega | rfl | assumption | fail), (by first | omega | rfl | assumption | fail), (by first | omega | rfl | assumption | fail), (by first | assumption | fail | omega)⟩, ⟨hh_5.ra (by first | omega | (simp only; omega)) (by first | omega | (simp only; omega)) (M1 := [(r3, 2, 1, .int pc), (r3, 2, 0, .ref pa)]) [1, 2] rfl ht, hg_pa, jNk.rf, by rw [ht]; exact hh_5.iv 0 rfl⟩⟩, by rw [ht]; try exact hh_5.1.1, fun q h9 hq => by rw [ht]; try exact hh_5.1.2.1 q h9 hq⟩) hh_5.1.2.2 dX6_write_12
end
section
def EX0_quotedu9 : List (Nat × Nat) := [(2, 0), (2, 1), (196, 0)]
set_option maxHeartbeats 4000000 in
set_option maxRecDepth 20000 in
theorem uX0_quotedu9 (l : Launch) (dC : Nat → ClassId) (dI : Nat → Nat → Nat) (ca : Nat → ClassId) (base : Nat) (B : jF) (hB : jBok B) (hAp : jAp (dC, dI)) (hB2 : ∀ n G a H, B 2 n G a H ↔ jOb (dC, dI) 2 2 (F2 n G) a H) (hB174 : ∀ n G a H, B 174 n G a H ↔ jAr (dC, dI) (ca 1) (fun j z => True) n a H) (hB196 : ∀ n G a H, B 196 n G a H ↔ jAr (dC, dI) (ca 0) (fun j z => jBf j z) n a H) (G0 : jT) (H0 : Heap) (r0 : Nat) (r1 : Nat) (a2 : Int32) (a3 : Int32) (n1 : Nat) (pc : Int32) (pa : Nat) (n_pa : Nat) (LC LS : Nat) : Met l yX0_quoted (jw yX0_quoted cX0_quoted 7 none) ({ frames := 5, cells := LC - H0.size, slots := LS - jTot H0, locals := 163 }) (va_Pc [.ref r0, .ref r1, .int a2, .int a3] (fun U => U.heap = H0 ∧ jX B base G0 [] H0 ∧ jG dC dI ca base U ∧ G0 r0 = some (2, 0) ∧ G0 r1 = some (174, n1) ∧ G0 pa = some (196, n_pa) ∧ jP (dC, dI) G0 H0 [(r0, 2, 1, .int pc), (r0, 2, 0, .ref pa)] ∧ H0.size + (1048576 - n_pa) / 16 + 1 ≤ LC ∧ jTot H0 + 2 * (1048576 - n_pa) ≤ LS ∧ 0 ≤ pc.toInt ∧ pc.toInt ≤ n_pa ∧ 16 ≤ n_pa ∧ n_pa ≤ 1048576 ∧ jPw n_pa ∧ n1 ≤ 3000 ∧ 0 ≤ a2.toInt ∧ a2.toInt ≤ 3000 ∧ 0 ≤ a3.toInt ∧ a3.toInt ≤ 3000)) (va_Qv (S := Int32 × Nat × Nat × jT) (fun u => 0 ≤ u.1.toInt ∧ u.1.toInt ≤ u.2.2.1 ∧ n_pa ≤ u.2.2.1 ∧ u.2.2.1 ≤ 1048576 ∧ jPw u.2.2.1) (fun u t => jRa (dC, dI) B base G0 u.2.2.2 EX0_quotedu9 H0 ((u.2.2.1 - n_pa) / 16) (2 * (u.2.2.1 - n_pa)) [(r0, 2, 1, .int u.1), (r0, 2, 0, .ref u.2.1)] t.heap ∧ u.2.2.2 u.2.1 = some (196, u.2.2.1) ∧ (jNk [0, 1, 2, 3, 4, 5, 6, 7, 8, 9, 10, 11, 12, 13, 14, 15, 16, 17, 175]) G0 u.2.2.2 ∧ jOw (dC, dI) G0 2 r0 H0 t.heap) (jA base)) (LC - H0.size) (LS - jTot H0) (jA base) := by
  refine Met.ofW (cc := cX0_quoted) (maxL := 7) (ret := none) (by decide) rfl ?_
  intro p e s m args below meth c s₁ Bd hml hv
  obtain ⟨rfl, hH0, hX, hG, hg_r0, hg_r1, hg_pa, hP0, hLC0, hLS0, hp0, hp1, hp2, hp3, hp4, hp5, hp6, hp7, hp8, hp9⟩ := hv
  have hK := hG.1
  have hx := Bd.exec
  have hb := Bd.bytes
  have hr := Bd.returns
  have hts := atoms_spec (ws := (jw yX0_quoted cX0_quoted 7 none)) Bd.pre
  have htw : ∀ w ∈ jWl, w.before _ s = true := fun w h => hts w (List.mem_cons_of_mem _ h)
  have hown : s.vm.findClass RX0 = some m.cls := findClass_of_methodNamed Bd.named
  have hlocks := Bd.notSynchronized
  obtain ⟨Q, hQ⟩ : ∃ Q, Q = MQ below (va_Qv (S := Int32 × Nat × Nat × jT) (fun u => 0 ≤ u.1.toInt ∧ u.1.toInt ≤ u.2.2.1 ∧ n_pa ≤ u.2.2.1 ∧ u.2.2.1 ≤ 1048576 ∧ jPw u.2.2.1) (fun u t => jRa (dC, dI) B base G0 u.2.2.2 EX0_quotedu9 H0 ((u.2.2.1 - n_pa) / 16) (2 * (u.2.2.1 - n_pa)) [(r0, 2, 1, .int u.1), (r0, 2, 0, .ref u.2.1)] t.heap ∧ u.2.2.2 u.2.1 = some (196, u.2.2.1) ∧ (jNk [0, 1, 2, 3, 4, 5, 6, 7, 8, 9, 10, 11, 12, 13, 14, 15, 16, 17, 175]) G0 u.2.2.2 ∧ jOw (dC, dI) G0 2 r0 H0 t.heap) (jA base)) ([.ref r0, .ref r1, .int a2, .int a3] : List Value).toArray s (LC - H0.size) (LS - jTot H0) (jA base) := ⟨_, rfl⟩
  rw [← hQ]
  have hl := lv_entry ([.ref r0, .ref r1, .int a2, .int a3]) (n := 7) (Nat.le_of_ble_eq_true rfl)
  rw [lg_entry_eq]
  generalize (lg_sl ([.ref r0, .ref r1, .int a2, .int a3]) ++ List.replicate (7 - (lg_sl ([.ref r0, .ref r1, .int a2, .int a3])).length) Slot.unset).toArray = ls at hl ⊢
  have hl : lv_has ls 7 [(0, .ref r0), (1, .ref r1), (2, .int a2), (3, .int a3)] := hl
  generalize hR : (headSpec (jw yX0_quoted cX0_quoted 7 none) ({ frames := 5, cells := LC - H0.size, slots := LS - jTot H0, locals := 163 })).room = R
  subst hH0
  have hh : jSt (dC, dI) B base G0 G0 EX0_quotedu9 s.heap 0 0 [(r0, 2, 1, .int pc), (r0, 2, 0, .ref pa)] [] [] s.heap [] := jSt.start hX hP0 jMc.nil jIs.nil
  clear hX hP0
  have hk0 : (0 : Int32).toInt = 0 := by decide
  have hk1 : (1 : Int32).toInt = 1 := by decide
  have hk4 : (4 : Int32).toInt = 4 := by decide
  have hk10 : (10 : Int32).toInt = 10 := by decide
  have hk15 : (15 : Int32).toInt = 15 := by decide
  have hk32 : (32 : Int32).toInt = 32 := by decide
  have hk34 : (34 : Int32).toInt = 34 := by decide
  have hk48 : (48 : Int32).toInt = 48 := by decide
  have hk92 : (92 : Int32).toInt = 92 := by decide
  have hk97 : (97 : Int32).toInt = 97 := by decide
  have hk55296 : (55296 : Int32).toInt = 55296 := by decide
  have hk56320 : (56320 : Int32).toInt = 56320 := by decide
  have hk65533 : (65533 : Int32).toInt = 65533 := by decide
  have hk65536 : (65536 : Int32).toInt = 65536 := by decide
  have hcs_60 := htw (.constant RX0 60 65536) (jWr_20 _ (List.mem_of_getElem? (i := 15) rfl))
  have hcs_61 := htw (.constant RX0 61 55296) (jWr_20 _ (List.mem_of_getElem? (i := 17) rfl))
  have hcs_62 := htw (.constant RX0 62 56320) (jWr_21 _ (List.mem_of_getElem? (i := 12) rfl))
  have hcs_66 := htw (.constant RX0 66 65533) (jWr_25 _ (List.mem_of_getElem? (i := 14) rfl))
  obtain ⟨str67, rstr67, hstr670⟩ := hG.str (o := RX0) (k := 67) (tx := "\\u00") (List.mem_of_getElem? (i := 790) (by decide +kernel))
  have hstr67 : jStr base str67 4 s s.heap := hstr670
  have hrg_a2 := jb_rng a2
  have hrg_a3 := jb_rng a3
  have hbs : base ≤ s.heap.size := Nat.le_of_lt (Nat.lt_of_le_of_lt (hh.ab hg_r0).1 (hh.ab hg_r0).2)
  have hRc : R.cells = LC - s.heap.size := by rw [← hR]; rfl
  have hRs : R.slots = LS - jTot s.heap := by rw [← hR]; rfl
  have hh_1 := hh.addI (jOw.ie (dC := dC) (dI := dI) (G0 := G0) (k := 2) (r := r0) (H0 := s.heap) (F := [(2, 0), (2, 1)]) (C := RX0) (T := TX0) (N := 2) rfl (by decide) hh.2.2.2.2.1 (jOw.rf))
  clear hh
  refine lv_aload_n hx hb dX0_quoted_0 rfl (lv_at hl 0 rfl) ?_
  refine lv_bipush (v := 34) hx hb dX0_quoted_1 (by decide) ?_
  have hsz_2 := hh_1.2.2.2.2.2.1
  have htt_2 := hh_1.2.2.2.2.2.2.1
  refine W.room (fun hrc_2 hrs_2 => ?_)
  refine va_callv (A0 := jA base) (H0 := s.heap) (va_runV (As := [.int 34]) (rest := []) ⟨hx, hb, hml, hown, hts⟩ (uX0_put l dC dI ca base B hB hAp hB2 hB196 G0 s.heap r0 34 pc pa n_pa LC LS) (cwV 1 hts (jgV (jWr_24 _ (List.mem_of_getElem? (i := 22) rfl)) (jWr_16 _ (List.mem_of_getElem? (i := 0) rfl)) (jWr_16 _ (List.mem_of_getElem? (i := 1) rfl)) (jWr_1 _ (List.mem_of_getElem? (i := 14) rfl)) (jWr_16 _ (List.mem_of_getElem? (i := 2) rfl))) rfl rfl rfl (by decide +kernel) ⟨by rw [← hR]; exact Nat.le_of_ble_eq_true rfl, by rw [← hR]; exact Nat.le_of_ble_eq_true rfl⟩) ⟨fun a U g mk q => by obtain ⟨q0, q1, q2, qK, q10, q11, q12, q13⟩ := q; exact ⟨q0, q1, q2, jG.calling g mk a qK, q10, q11, q12, q13⟩, hh_1.recv (C := RX0) (T := TX0) (N := 2) hB2 rfl (by decide) hg_r0 hK, fun U hU hW => ⟨rfl, hU, hh_1.2.1, hG.step hW hU hh_1.1, hg_r0, hg_pa, (hh_1.2.2.1.sub (L1 := [(r0, 2, 1, .int pc), (r0, 2, 0, .ref pa)]) [0, 1] rfl), (by omega), (by omega), ⟨(by first | omega | rfl | assumption | fail), (by first | omega | rfl | assumption | fail), (by first | omega | rfl | assumption | fail), (by first | omega | rfl | assumption | fail), (by first | assumption | fail | omega)⟩⟩⟩ rfl rfl hl.1 rfl (lv_room (Nat.le_of_ble_eq_true rfl)) dX0_quoted_3 ⟨by rw [hRc]; omega, by rw [hRs]; omega⟩) hh_1.1 (fun q _ h => h) (fun q h => h) (fun u_2 t_2 H_2 locs_2 ht_2 hvm_2 hr_3 hb_2 hz_2 hk_2 hS_2 => ?_)
  obtain ⟨qc_2, qa_2, m_qa_2, G_2⟩ := u_2
  rw [ht_2] at hb_2
  simp only at hb_2
  obtain ⟨⟨hb_21, hb_22, hb_23, hb_24, hb_25, hb_26⟩, hgq_2_0, hN_2, hbO_2⟩ := hb_2
  have hh_2 : jSt (dC, dI) B base G0 G_2 EX0_quotedu9 s.heap (0 + ((m_qa_2 - n_pa) / 16)) (0 + (2 * (m_qa_2 - n_pa))) [(r0, 2, 1, .int qc_2), (r0, 2, 0, .ref qa_2)] [] [] H_2 locs_2 := (hh_1.callG hb_21 hb_22 hb_23 hb_24 hb_25 hS_2 rfl (L1 := []) [] rfl rfl (M1 := []) [] rfl rfl (I1 := []) [] rfl rfl).more hb_26
  have hNn_2 : (jNk [0, 1, 2, 3, 4, 5, 6, 7, 8, 9, 10, 11, 12, 13, 14, 15, 16, 17, 175]) G0 G_2 := (jNk.rf).tr hN_2
  have hg_4 := hb_22 _ _ hg_r0
  have hg_5 := hb_22 _ _ hg_r1
  have hd_6 := jOw.tr (hh_1.iv 0 rfl) hh_1.2.2.2.2.1 hbO_2
  have hh_7 := hh_2.addI (jOw.ie (dC := dC) (dI := dI) (G0 := G0) (k := 2) (r := r0) (H0 := s.heap) (F := [(2, 0), (2, 1)]) (C := RX0) (T := TX0) (N := 2) rfl (by decide) hh_2.2.2.2.2.1 (hd_6))
  clear hh_2
  try simp only at hr_3
  obtain ⟨hr_3_0, hr_3_1, hr_3_2, hr_3_3, hr_3_4⟩ := hr_3
  have hh_8 := hh_7.wk (zc1 := (m_qa_2 - n_pa) / 16) (zs1 := 2 * (m_qa_2 - n_pa)) (by omega) (by omega)
  clear hh_7
  try clear hsz_2 htt_2 hrc_2 hrs_2
  try clear hb_24 hb_25
  refine lv_iload_n hx hb dX0_quoted_6 rfl (lv_at hl 2 rfl) ?_
  refine lv_iload_n hx hb dX0_quoted_7 rfl (lv_at hl 3 rfl) ?_
  refine lv_iadd hx hb dX0_quoted_8 ?_
  refine lv_topi (fun z_9 ez_9 => ?_)
  have hz_9 : z_9.toInt = a2.toInt + a3.toInt := by rw [ez_9]; exact jb_iadd2 (rfl) (rfl) (by omega)
  refine lv_aload_n hx hb dX0_quoted_9 rfl (lv_at hl 1 rfl) ?_
  refine j7_len hx hb hK hh_8 hB174 1 rfl (by decide) hg_5 (by omega) dX0_quoted_10 (fun z_10 hz_10 => ?_)
  have hsz_11 := hh_8.2.2.2.2.2.1
  have htt_11 := hh_8.2.2.2.2.2.2.1
  refine W.room (fun hrc_11 hrs_11 => ?_)
  refine va_mmin hx hb (by rw [hml]; exact hl.1.symm) hown (htw (.methodLink RX0 50 Lib.Math.min.name) (jWr_25 _ (List.mem_of_getElem? (i := 13) rfl))) (htw (.static Lib.Math.min.name) (jWr_16 _ (List.mem_of_getElem? (i := 16) rfl))) (htw (.initialized "java/lang/Math") (jWr_3 _ (List.mem_of_getElem? (i := 7) rfl))) (htw (.code Lib.Math.min.name Lib.Math.min.code 2 (some .int)) (jWr_16 _ (List.mem_of_getElem? (i := 17) rfl))) (by rw [← hR]; exact Nat.le_of_ble_eq_true rfl) (by rw [← hR]; exact Nat.le_of_ble_eq_true rfl) (by rw [hRc]; omega) (by rw [hRs]; omega) dX0_quoted_11 ?_
  refine lv_topi (fun z_12 ez_12 => ?_)
  have hz_12 := jb_min ez_12
  refine lv_istore (lv' := [(4, .int z_12), (0, .ref r0), (1, .ref r1), (2, .int a2), (3, .int a3)]) hx hb dX0_quoted_14 hl (by decide) rfl (fun ls hl => ?_)
  refine lv_iload_n hx hb dX0_quoted_16 rfl (lv_at hl 3 rfl) ?_
  refine lv_iconst (v := 0) hx hb dX0_quoted_17 (by decide) ?_
  have hsz_13 := hh_8.2.2.2.2.2.1
  have htt_13 := hh_8.2.2.2.2.2.2.1
  refine W.room (fun hrc_13 hrs_13 => ?_)
  refine va_mmax hx hb (by rw [hml]; exact hl.1.symm) hown (htw (.methodLink RX0 7 Lib.Math.max.name) (jWr_3 _ (List.mem_of_getElem? (i := 5) rfl))) (htw (.static Lib.Math.max.name) (jWr_3 _ (List.mem_of_getElem? (i := 6) rfl))) (htw (.initialized "java/lang/Math") (jWr_3 _ (List.mem_of_getElem? (i := 7) rfl))) (htw (.code Lib.Math.max.name Lib.Math.max.code 2 (some .int)) (jWr_3 _ (List.mem_of_getElem? (i := 8) rfl))) (by rw [← hR]; exact Nat.le_of_ble_eq_true rfl) (by rw [← hR]; exact Nat.le_of_ble_eq_true rfl) (by rw [hRc]; omega) (by rw [hRs]; omega) dX0_quoted_18 ?_
  refine lv_topi (fun z_14 ez_14 => ?_)
  have hz_14 := jb_max ez_14
  refine lv_istore (lv' := [(5, .int z_14), (4, .int z_12), (0, .ref r0), (1, .ref r1), (2, .int a2), (3, .int a3)]) hx hb dX0_quoted_21 hl (by decide) rfl (fun ls hl => ?_)
  have L23 : ∀ (N : Nat) (Gx_15 : jT) (zcx_15 : Nat) (zsx_15 : Nat) (v5_15 : Int32) (wc_15 : Int32) (wr_15 : Nat) (m_wr_15 : Nat) (H_15 : Heap) (locs_15 : List Loc), jSt (dC, dI) B base G0 Gx_15 EX0_quotedu9 s.heap zcx_15 zsx_15 [(r0, 2, 1, .int wc_15), (r0, 2, 0, .ref wr_15)] [] [([(2, 0), (2, 1)], jOw (dC, dI) G0 2 r0 s.heap)] H_15 locs_15 → (jNk [0, 1, 2, 3, 4, 5, 6, 7, 8, 9, 10, 11, 12, 13, 14, 15, 16, 17, 175]) G0 Gx_15 → jLe G_2 Gx_15 → Gx_15 wr_15 = some (196, m_wr_15) → (0 ≤ wc_15.toInt ∧ wc_15.toInt ≤ m_wr_15 ∧ n_pa ≤ m_wr_15 ∧ m_wr_15 ≤ 1048576 ∧ jPw m_wr_15 ∧ zcx_15 ≤ (m_wr_15 - n_pa) / 16 ∧ zsx_15 ≤ 2 * (m_wr_15 - n_pa) ∧ 0 ≤ v5_15.toInt ∧ v5_15.toInt ≤ 3001) → (((z_12.toInt - v5_15.toInt).toNat : Int) : Int) < N → ∀ ls : Array Slot, lv_has ls 7 [(0, .ref r0), (1, .ref r1), (2, .int a2), (3, .int a3), (4, .int z_12), (5, .int v5_15)] → W p l e R s m ([.ref r0, .ref r1, .int a2, .int a3] : List Value).toArray below meth c H_15 locs_15 zcx_15 zsx_15 Q (F0 m 23 ls []) := by
    intro N
    induction N with
    | zero => intro Gx_15 zcx_15 zsx_15 v5_15 wc_15 wr_15 m_wr_15 H_15 locs_15 hh_15 hN_15 hle_15 hg_wr_15 hi_15 hm; exact absurd hm (by omega)
    | succ N L23 =>
      intro Gx_15 zcx_15 zsx_15 v5_15 wc_15 wr_15 m_wr_15 H_15 locs_15 hh_15 hN_15 hle_15 hg_wr_15 hi_15 hm_15 ls hl
      have hg_16 := hle_15 _ _ hg_4
      have hg_17 := hle_15 _ _ hg_5
      obtain ⟨hi_15_0, hi_15_1, hi_15_2, hi_15_3, hi_15_4, hi_15_5, hi_15_6, hi_15_7, hi_15_8⟩ := hi_15
      refine lv_iload hx hb dX0_quoted_23 (lv_at hl 5 rfl) ?_
      refine lv_iload hx hb dX0_quoted_25 (lv_at hl 4 rfl) ?_
      refine lv_icmp_ge (tgt := 214) hx hb dX0_quoted_27 (by decide) (fun c_18 => ?_) (fun c_18 => ?_)
      · skip
        have c_18' : v5_15.toInt ≥ z_12.toInt := jb_ge (rfl) (rfl) c_18
        refine lv_aload_n hx hb dX0_quoted_214 rfl (lv_at hl 0 rfl) ?_
        refine lv_bipush (v := 34) hx hb dX0_quoted_215 (by decide) ?_
        have hsz_19 := hh_15.2.2.2.2.2.1
        have htt_19 := hh_15.2.2.2.2.2.2.1
        refine W.room (fun hrc_19 hrs_19 => ?_)
        refine va_callv (A0 := jA base) (H0 := s.heap) (va_runV (As := [.int 34]) (rest := []) ⟨hx, hb, hml, hown, hts⟩ (uX0_put l dC dI ca base B hB hAp hB2 hB196 Gx_15 H_15 r0 34 wc_15 wr_15 m_wr_15 LC LS) (cwV 1 hts (jgV (jWr_24 _ (List.mem_of_getElem? (i := 22) rfl)) (jWr_16 _ (List.mem_of_getElem? (i := 0) rfl)) (jWr_16 _ (List.mem_of_getElem? (i := 1) rfl)) (jWr_1 _ (List.mem_of_getElem? (i := 14) rfl)) (jWr_16 _ (List.mem_of_getElem? (i := 2) rfl))) rfl rfl rfl (by decide +kernel) ⟨by rw [← hR]; exact Nat.le_of_ble_eq_true rfl, by rw [← hR]; exact Nat.le_of_ble_eq_true rfl⟩) ⟨fun a U g mk q => by obtain ⟨q0, q1, q2, qK, q10, q11, q12, q13⟩ := q; exact ⟨q0, q1, q2, jG.calling g mk a qK, q10, q11, q12, q13⟩, hh_15.recv (C := RX0) (T := TX0) (N := 2) hB2 rfl (by decide) hg_16 hK, fun U hU hW => ⟨rfl, hU, hh_15.2.1, hG.step hW hU hh_15.1, hg_16, hg_wr_15, (hh_15.2.2.1.sub (L1 := [(r0, 2, 1, .int wc_15), (r0, 2, 0, .ref wr_15)]) [0, 1] rfl), (by omega), (by omega), ⟨(by first | omega | rfl | assumption | fail), (by first | omega | rfl | assumption | fail), (by first | omega | rfl | assumption | fail), (by first | omega | rfl | assumption | fail), (by first | assumption | fail | omega)⟩⟩⟩ rfl rfl hl.1 rfl (lv_room (Nat.le_of_ble_eq_true rfl)) dX0_quoted_217 ⟨by rw [hRc]; omega, by rw [hRs]; omega⟩) hh_15.1 (fun q _ h => h) (fun q h => h) (fun u_19 t_19 H_19 locs_19 ht_19 hvm_19 hr_20 hb_19 hz_19 hk_19 hS_19 => ?_)
        obtain ⟨qc_19, qa_19, m_qa_19, G_19⟩ := u_19
        rw [ht_19] at hb_19
        simp only at hb_19
        obtain ⟨⟨hb_191, hb_192, hb_193, hb_194, hb_195, hb_196⟩, hgq_19_0, hN_19, hbO_19⟩ := hb_19
        have hh_19 : jSt (dC, dI) B base G0 G_19 EX0_quotedu9 s.heap (zcx_15 + ((m_qa_19 - m_wr_15) / 16)) (zsx_15 + (2 * (m_qa_19 - m_wr_15))) [(r0, 2, 1, .int qc_19), (r0, 2, 0, .ref qa_19)] [] [] H_19 locs_19 := (hh_15.callG hb_191 hb_192 hb_193 hb_194 hb_195 hS_19 rfl (L1 := []) [] rfl rfl (M1 := []) [] rfl rfl (I1 := []) [] rfl rfl).more hb_196
        have hNn_19 : (jNk [0, 1, 2, 3, 4, 5, 6, 7, 8, 9, 10, 11, 12, 13, 14, 15, 16, 17, 175]) G0 G_19 := (hN_15).tr hN_19
        have hg_21 := hb_192 _ _ hg_16
        have hg_22 := hb_192 _ _ hg_17
        have hd_23 := jOw.tr (hh_15.iv 0 rfl) hh_15.2.2.2.2.1 hbO_19
        have hh_24 := hh_19.addI (jOw.ie (dC := dC) (dI := dI) (G0 := G0) (k := 2) (r := r0) (H0 := s.heap) (F := [(2, 0), (2, 1)]) (C := RX0) (T := TX0) (N := 2) rfl (by decide) hh_19.2.2.2.2.1 (hd_23))
        clear hh_19
        try simp only at hr_20
        obtain ⟨hr_20_0, hr_20_1, hr_20_2, hr_20_3, hr_20_4⟩ := hr_20
        have hh_25 := hh_24.wk (zc1 := (m_qa_19 - n_pa) / 16) (zs1 := 2 * (m_qa_19 - n_pa)) (by omega) (by omega)
        clear hh_24
        try clear hsz_19 htt_19 hrc_19 hrs_19
        try clear hb_194 hb_195
        have hsz_26 := hh_25.2.2.2.2.2.1
        have htt_26 := hh_25.2.2.2.2.2.2.1
        refine W.room (fun hrc_26 hrs_26 => ?_)
        refine W.widen (k := LC - s.heap.size) (n := LS - jTot s.heap) (by omega) (by omega) ?_
        rw [hQ]
        exact W.vret hx hb hr (fun t ht hW => ⟨⟨(qc_19, qa_19, m_qa_19, G_19), rfl, by (try dsimp only); exact ⟨(by first | omega | rfl | assumption | fail), (by first | omega | rfl | assumption | fail), (by first | omega | rfl | assumption | fail), (by first | omega | rfl | assumption | fail), (by first | assumption | fail | omega)⟩, ⟨hh_25.ra (by first | (simp only; omega) | omega) (by first | (simp only; omega) | omega) (M1 := [(r0, 2, 1, .int qc_19), (r0, 2, 0, .ref qa_19)]) [0, 1] rfl ht, hgq_19_0, hNn_19, by rw [ht]; exact hh_25.iv 0 rfl⟩⟩, by rw [ht]; try exact hh_25.1.1, fun q h9 hq => by rw [ht]; try exact hh_25.1.2.1 q h9 hq⟩) hh_25.1.2.2 dX0_quoted_220
      · skip
        have c_18' : v5_15.toInt < z_12.toInt := jb_ge_n (rfl) (rfl) c_18
        refine lv_aload_n hx hb dX0_quoted_30 rfl (lv_at hl 1 rfl) ?_
        refine lv_iload hx hb dX0_quoted_31 (lv_at hl 5 rfl) ?_
        refine j7_iald hx hb hK hh_15 hB174 1 rfl (by decide) hg_17 (x := v5_15.toInt) (rfl) (by omega) dX0_quoted_33 (fun z_27 (hz_27 : True) => ?_)
        refine lv_istore (lv' := [(6, .int z_27), (0, .ref r0), (1, .ref r1), (2, .int a2), (3, .int a3), (4, .int z_12), (5, .int v5_15)]) hx hb dX0_quoted_34 hl (by decide) rfl (fun ls hl => ?_)
        refine lv_iload hx hb dX0_quoted_36 (lv_at hl 0 rfl) ?_
        have hsz_30 := hh_15.2.2.2.2.2.1
        have htt_30 := hh_15.2.2.2.2.2.2.1
        refine W.room (fun hrc_30 hrs_30 => ?_)
        have hsz_29 := hh_15.2.2.2.2.2.1
        have htt_29 := hh_15.2.2.2.2.2.2.1
        refine W.room (fun hrc_29 hrs_29 => ?_)
        refine vp_callSi (W.runS (As := [.int z_27]) (rest := []) ⟨hx, hb, hml, hown, hts⟩ (wX0_isHigh l dC dI ca base H_15 z_27) (va_cwS 1 hts (jgS (jWr_25 _ (List.mem_of_getElem? (i := 15) rfl)) (jWr_21 _ (List.mem_of_getElem? (i := 18) rfl)) (jWr_1 _ (List.mem_of_getElem? (i := 14) rfl)) (jWr_21 _ (List.mem_of_getElem? (i := 19) rfl))) rfl rfl rfl (by decide +kernel) ⟨by rw [← hR]; exact Nat.le_of_ble_eq_true rfl, by rw [← hR]; exact Nat.le_of_ble_eq_true rfl⟩) ⟨fun a U g mk q => by obtain ⟨q0, q1, qK, q9⟩ := q; exact ⟨q0, q1, jG.calling g mk a qK, q9⟩, fun U hU hW => ⟨rfl, hU, hG.step hW hU hh_15.1, by first | trivial | omega | (constructor <;> omega)⟩⟩ rfl rfl hl.1 rfl (lv_room (Nat.le_of_ble_eq_true rfl)) dX0_quoted_38 ⟨by rw [hRc]; omega, by rw [hRs]; omega⟩) (fun r_28 hr_28 => ?_)
        have hr_28' : r_28.toInt = 0 ∨ r_28.toInt = 1 := jb_01 hr_28
        have C94 : ∀ (H_31 : Heap) (locs_31 : List Loc), jSt (dC, dI) B base G0 Gx_15 EX0_quotedu9 s.heap zcx_15 zsx_15 [(r0, 2, 1, .int wc_15), (r0, 2, 0, .ref wr_15)] [] [([(2, 0), (2, 1)], jOw (dC, dI) G0 2 r0 s.heap)] H_31 locs_31 → (True) → ∀ ls : Array Slot, lv_has ls 7 [(0, .ref r0), (1, .ref r1), (2, .int a2), (3, .int a3), (4, .int z_12), (5, .int v5_15), (6, .int z_27)] → W p l e R s m ([.ref r0, .ref r1, .int a2, .int a3] : List Value).toArray below meth c H_31 locs_31 zcx_15 zsx_15 Q (F0 m 94 ls []) := by
          intro  H_31 locs_31 hh_31  hi_31 ls hl
          refine lv_iload hx hb dX0_quoted_94 (lv_at hl 6 rfl) ?_
          have hsz_34 := hh_31.2.2.2.2.2.1
          have htt_34 := hh_31.2.2.2.2.2.2.1
          refine W.room (fun hrc_34 hrs_34 => ?_)
          have hsz_33 := hh_31.2.2.2.2.2.1
          have htt_33 := hh_31.2.2.2.2.2.2.1
          refine W.room (fun hrc_33 hrs_33 => ?_)
          refine vp_callSi (W.runS (As := [.int z_27]) (rest := []) ⟨hx, hb, hml, hown, hts⟩ (wX0_isHigh l dC dI ca base H_31 z_27) (va_cwS 1 hts (jgS (jWr_25 _ (List.mem_of_getElem? (i := 15) rfl)) (jWr_21 _ (List.mem_of_getElem? (i := 18) rfl)) (jWr_1 _ (List.mem_of_getElem? (i := 14) rfl)) (jWr_21 _ (List.mem_of_getElem? (i := 19) rfl))) rfl rfl rfl (by decide +kernel) ⟨by rw [← hR]; exact Nat.le_of_ble_eq_true rfl, by rw [← hR]; exact Nat.le_of_ble_eq_true rfl⟩) ⟨fun a U g mk q => by obtain ⟨q0, q1, qK, q9⟩ := q; exact ⟨q0, q1, jG.calling g mk a qK, q9⟩, fun U hU hW => ⟨rfl, hU, hG.step hW hU hh_31.1, by first | trivial | omega | (constructor <;> omega)⟩⟩ rfl rfl hl.1 rfl (lv_room (Nat.le_of_ble_eq_true rfl)) dX0_quoted_96 ⟨by rw [hRc]; omega, by rw [hRs]; omega⟩) (fun r_32 hr_32 => ?_)
          have hr_32' : r_32.toInt = 0 ∨ r_32.toInt = 1 := jb_01 hr_32
          refine lv_if_ne (tgt := 110) hx hb dX0_quoted_99 (by decide) (fun c_35 => ?_) (fun c_35 => ?_)
          · skip
            have c_35' : r_32.toInt ≠ 0 := jb_ne (rfl) ((by decide)) c_35
            refine lv_aload_n hx hb dX0_quoted_110 rfl (lv_at hl 0 rfl) ?_
            refine lv_ldc hx hb hown hcs_66 dX0_quoted_111 ?_
            have hsz_36 := hh_31.2.2.2.2.2.1
            have htt_36 := hh_31.2.2.2.2.2.2.1
            refine W.room (fun hrc_36 hrs_36 => ?_)
            refine va_callv (A0 := jA base) (H0 := s.heap) (va_runV (As := [.int 65533]) (rest := []) ⟨hx, hb, hml, hown, hts⟩ (uX0_character l dC dI ca base B hB hAp hB2 hB196 Gx_15 H_31 r0 65533 wc_15 wr_15 m_wr_15 LC LS) (cwV 1 hts (jgV (jWr_25 _ (List.mem_of_getElem? (i := 17) rfl)) (jWr_25 _ (List.mem_of_getElem? (i := 18) rfl)) (jWr_25 _ (List.mem_of_getElem? (i := 19) rfl)) (jWr_1 _ (List.mem_of_getElem? (i := 14) rfl)) (jWr_25 _ (List.mem_of_getElem? (i := 20) rfl))) rfl rfl rfl (by decide +kernel) ⟨by rw [← hR]; exact Nat.le_of_ble_eq_true rfl, by rw [← hR]; exact Nat.le_of_ble_eq_true rfl⟩) ⟨fun a U g mk q => by obtain ⟨q0, q1, q2, qK, q10, q11, q12, q13⟩ := q; exact ⟨q0, q1, q2, jG.calling g mk a qK, q10, q11, q12, q13⟩, hh_31.recv (C := RX0) (T := TX0) (N := 2) hB2 rfl (by decide) hg_16 hK, fun U hU hW => ⟨rfl, hU, hh_31.2.1, hG.step hW hU hh_31.1, hg_16, hg_wr_15, (hh_31.2.2.1.sub (L1 := [(r0, 2, 1, .int wc_15), (r0, 2, 0, .ref wr_15)]) [0, 1] rfl), (by omega), (by omega), ⟨(by first | omega | rfl | assumption | fail), (by first | omega | rfl | assumption | fail), (by first | omega | rfl | assumption | fail), (by first | omega | rfl | assumption | fail), (by first | assumption | fail | omega)⟩⟩⟩ rfl rfl hl.1 rfl (lv_room (Nat.le_of_ble_eq_true rfl)) dX0_quoted_113 ⟨by rw [hRc]; omega, by rw [hRs]; omega⟩) hh_31.1 (fun q _ h => h) (fun q h => h) (fun u_36 t_36 H_36 locs_36 ht_36 hvm_36 hr_37 hb_36 hz_36 hk_36 hS_36 => ?_)
            obtain ⟨qc_36, qa_36, m_qa_36, G_36⟩ := u_36
            rw [ht_36] at hb_36
            simp only at hb_36
            obtain ⟨⟨hb_361, hb_362, hb_363, hb_364, hb_365, hb_366⟩, hgq_36_0, hN_36, hbO_36⟩ := hb_36
            have hh_36 : jSt (dC, dI) B base G0 G_36 EX0_quotedu9 s.heap (zcx_15 + ((m_qa_36 - m_wr_15) / 16)) (zsx_15 + (2 * (m_qa_36 - m_wr_15))) [(r0, 2, 1, .int qc_36), (r0, 2, 0, .ref qa_36)] [] [] H_36 locs_36 := (hh_31.callG hb_361 hb_362 hb_363 hb_364 hb_365 hS_36 rfl (L1 := []) [] rfl rfl (M1 := []) [] rfl rfl (I1 := []) [] rfl rfl).more hb_366
            have hNn_36 : (jNk [0, 1, 2, 3, 4, 5, 6, 7, 8, 9, 10, 11, 12, 13, 14, 15, 16, 17, 175]) G0 G_36 := (hN_15).tr hN_36
            have hg_38 := hb_362 _ _ hg_16
            have hg_39 := hb_362 _ _ hg_17
            have hd_40 := jOw.tr (hh_31.iv 0 rfl) hh_31.2.2.2.2.1 hbO_36
            have hh_41 := hh_36.addI (jOw.ie (dC := dC) (dI := dI) (G0 := G0) (k := 2) (r := r0) (H0 := s.heap) (F := [(2, 0), (2, 1)]) (C := RX0) (T := TX0) (N := 2) rfl (by decide) hh_36.2.2.2.2.1 (hd_40))
            clear hh_36
            try simp only at hr_37
            obtain ⟨hr_37_0, hr_37_1, hr_37_2, hr_37_3, hr_37_4⟩ := hr_37
            have hh_42 := hh_41.wk (zc1 := (m_qa_36 - n_pa) / 16) (zs1 := 2 * (m_qa_36 - n_pa)) (by omega) (by omega)
            clear hh_41
            try clear hsz_36 htt_36 hrc_36 hrs_36
            try clear hb_364 hb_365
            refine lv_goto (tgt := 208) hx hb dX0_quoted_116 (by decide) ?_
            obtain ⟨z_43, ez_43⟩ : ∃ y : Int32, y = v5_15 + 1 := ⟨_, rfl⟩
            refine lv_iinc (v := z_43) (lv' := [(5, .int z_43), (0, .ref r0), (1, .ref r1), (2, .int a2), (3, .int a3), (4, .int z_12), (6, .int z_27)]) hx hb dX0_quoted_208 hl (k := 5) rfl (by rw [ez_43]; rfl) (by decide) rfl (fun ls hl => ?_)
            have hz_43 : z_43.toInt = v5_15.toInt + 1 := by rw [ez_43]; exact jb_iadd2 (rfl) (by decide) (by omega)
            refine lv_goto (tgt := 23) hx hb dX0_quoted_211 (by decide) ?_
            refine W.tight (c2 := ((m_qa_36 - n_pa) / 16)) (n2 := (2 * (m_qa_36 - n_pa))) hh_42.2.2.2.2.2.1 hh_42.2.2.2.2.2.2.1 ?_
            exact L23 G_36 ((m_qa_36 - n_pa) / 16) (2 * (m_qa_36 - n_pa)) z_43 qc_36 qa_36 m_qa_36 _ _ hh_42 (hNn_36) ((hle_15).tr hb_362) hgq_36_0 (⟨(by first | omega | rfl | assumption | fail), (by first | omega | rfl | assumption | fail), (by first | omega | rfl | assumption | fail), (by first | omega | rfl | assumption | fail), (by first | assumption | fail | omega), (by first | omega | rfl | assumption | fail), (by first | omega | rfl | assumption | fail), (by first | omega | rfl | assumption | fail), (by first | omega | rfl | assumption | fail)⟩) (by omega) _ (lv_sub hl [1, 2, 3, 4, 5, 0] rfl)
          · skip
            have c_35' : r_32.toInt = 0 := jb_ne_n (rfl) ((by decide)) c_35
            refine lv_iload hx hb dX0_quoted_102 (lv_at hl 6 rfl) ?_
            have hsz_46 := hh_31.2.2.2.2.2.1
            have htt_46 := hh_31.2.2.2.2.2.2.1
            refine W.room (fun hrc_46 hrs_46 => ?_)
            have hsz_45 := hh_31.2.2.2.2.2.1
            have htt_45 := hh_31.2.2.2.2.2.2.1
            refine W.room (fun hrc_45 hrs_45 => ?_)
            refine vp_callSi (W.runS (As := [.int z_27]) (rest := []) ⟨hx, hb, hml, hown, hts⟩ (wX0_isLow l dC dI ca base H_31 z_27) (va_cwS 1 hts (jgS (jWr_25 _ (List.mem_of_getElem? (i := 16) rfl)) (jWr_21 _ (List.mem_of_getElem? (i := 10) rfl)) (jWr_1 _ (List.mem_of_getElem? (i := 14) rfl)) (jWr_21 _ (List.mem_of_getElem? (i := 11) rfl))) rfl rfl rfl (by decide +kernel) ⟨by rw [← hR]; exact Nat.le_of_ble_eq_true rfl, by rw [← hR]; exact Nat.le_of_ble_eq_true rfl⟩) ⟨fun a U g mk q => by obtain ⟨q0, q1, qK, q9⟩ := q; exact ⟨q0, q1, jG.calling g mk a qK, q9⟩, fun U hU hW => ⟨rfl, hU, hG.step hW hU hh_31.1, by first | trivial | omega | (constructor <;> omega)⟩⟩ rfl rfl hl.1 rfl (lv_room (Nat.le_of_ble_eq_true rfl)) dX0_quoted_104 ⟨by rw [hRc]; omega, by rw [hRs]; omega⟩) (fun r_44 hr_44 => ?_)
            have hr_44' : r_44.toInt = 0 ∨ r_44.toInt = 1 := jb_01 hr_44
            refine lv_if_eq (tgt := 119) hx hb dX0_quoted_107 (by decide) (fun c_47 => ?_) (fun c_47 => ?_)
            · skip
              have c_47' : r_44.toInt = 0 := jb_eq (rfl) ((by decide)) c_47
              refine lv_iload hx hb dX0_quoted_119 (lv_at hl 6 rfl) ?_
              refine lv_bipush (v := 32) hx hb dX0_quoted_121 (by decide) ?_
              refine lv_icmp_ge (tgt := 182) hx hb dX0_quoted_123 (by decide) (fun c_48 => ?_) (fun c_48 => ?_)
              · skip
                have c_48' : z_27.toInt ≥ 32 := jb_ge (rfl) ((by decide)) c_48
                refine lv_iload hx hb dX0_quoted_182 (lv_at hl 6 rfl) ?_
                refine lv_bipush (v := 34) hx hb dX0_quoted_184 (by decide) ?_
                refine lv_icmp_eq (tgt := 196) hx hb dX0_quoted_186 (by decide) (fun c_49 => ?_) (fun c_49 => ?_)
                · skip
                  have c_49' : z_27.toInt = 34 := jb_eq (rfl) ((by decide)) c_49
                  refine lv_aload_n hx hb dX0_quoted_196 rfl (lv_at hl 0 rfl) ?_
                  refine lv_bipush (v := 92) hx hb dX0_quoted_197 (by decide) ?_
                  have hsz_50 := hh_31.2.2.2.2.2.1
                  have htt_50 := hh_31.2.2.2.2.2.2.1
                  refine W.room (fun hrc_50 hrs_50 => ?_)
                  refine va_callv (A0 := jA base) (H0 := s.heap) (va_runV (As := [.int 92]) (rest := []) ⟨hx, hb, hml, hown, hts⟩ (uX0_put l dC dI ca base B hB hAp hB2 hB196 Gx_15 H_31 r0 92 wc_15 wr_15 m_wr_15 LC LS) (cwV 1 hts (jgV (jWr_24 _ (List.mem_of_getElem? (i := 22) rfl)) (jWr_16 _ (List.mem_of_getElem? (i := 0) rfl)) (jWr_16 _ (List.mem_of_getElem? (i := 1) rfl)) (jWr_1 _ (List.mem_of_getElem? (i := 14) rfl)) (jWr_16 _ (List.mem_of_getElem? (i := 2) rfl))) rfl rfl rfl (by decide +kernel) ⟨by rw [← hR]; exact Nat.le_of_ble_eq_true rfl, by rw [← hR]; exact Nat.le_of_ble_eq_true rfl⟩) ⟨fun a U g mk q => by obtain ⟨q0, q1, q2, qK, q10, q11, q12, q13⟩ := q; exact ⟨q0, q1, q2, jG.calling g mk a qK, q10, q11, q12, q13⟩, hh_31.recv (C := RX0) (T := TX0) (N := 2) hB2 rfl (by decide) hg_16 hK, fun U hU hW => ⟨rfl, hU, hh_31.2.1, hG.step hW hU hh_31.1, hg_16, hg_wr_15, (hh_31.2.2.1.sub (L1 := [(r0, 2, 1, .int wc_15), (r0, 2, 0, .ref wr_15)]) [0, 1] rfl), (by omega), (by omega), ⟨(by first | omega | rfl | assumption | fail), (by first | omega | rfl | assumption | fail), (by first | omega | rfl | assumption | fail), (by first | omega | rfl | assumption | fail), (by first | assumption | fail | omega)⟩⟩⟩ rfl rfl hl.1 rfl (lv_room (Nat.le_of_ble_eq_true rfl)) dX0_quoted_199 ⟨by rw [hRc]; omega, by rw [hRs]; omega⟩) hh_31.1 (fun q _ h => h) (fun q h => h) (fun u_50 t_50 H_50 locs_50 ht_50 hvm_50 hr_51 hb_50 hz_50 hk_50 hS_50 => ?_)
                  obtain ⟨qc_50, qa_50, m_qa_50, G_50⟩ := u_50
                  rw [ht_50] at hb_50
                  simp only at hb_50
                  obtain ⟨⟨hb_501, hb_502, hb_503, hb_504, hb_505, hb_506⟩, hgq_50_0, hN_50, hbO_50⟩ := hb_50
                  have hh_50 : jSt (dC, dI) B base G0 G_50 EX0_quotedu9 s.heap (zcx_15 + ((m_qa_50 - m_wr_15) / 16)) (zsx_15 + (2 * (m_qa_50 - m_wr_15))) [(r0, 2, 1, .int qc_50), (r0, 2, 0, .ref qa_50)] [] [] H_50 locs_50 := (hh_31.callG hb_501 hb_502 hb_503 hb_504 hb_505 hS_50 rfl (L1 := []) [] rfl rfl (M1 := []) [] rfl rfl (I1 := []) [] rfl rfl).more hb_506
                  have hNn_50 : (jNk [0, 1, 2, 3, 4, 5, 6, 7, 8, 9, 10, 11, 12, 13, 14, 15, 16, 17, 175]) G0 G_50 := (hN_15).tr hN_50
                  have hg_52 := hb_502 _ _ hg_16
                  have hg_53 := hb_502 _ _ hg_17
                  have hd_54 := jOw.tr (hh_31.iv 0 rfl) hh_31.2.2.2.2.1 hbO_50
                  have hh_55 := hh_50.addI (jOw.ie (dC := dC) (dI := dI) (G0 := G0) (k := 2) (r := r0) (H0 := s.heap) (F := [(2, 0), (2, 1)]) (C := RX0) (T := TX0) (N := 2) rfl (by decide) hh_50.2.2.2.2.1 (hd_54))
                  clear hh_50
                  try simp only at hr_51
                  obtain ⟨hr_51_0, hr_51_1, hr_51_2, hr_51_3, hr_51_4⟩ := hr_51
                  have hh_56 := hh_55.wk (zc1 := (m_qa_50 - n_pa) / 16) (zs1 := 2 * (m_qa_50 - n_pa)) (by omega) (by omega)
                  clear hh_55
                  try clear hsz_50 htt_50 hrc_50 hrs_50
                  try clear hb_504 hb_505
                  refine lv_aload_n hx hb dX0_quoted_202 rfl (lv_at hl 0 rfl) ?_
                  refine lv_iload hx hb dX0_quoted_203 (lv_at hl 6 rfl) ?_
                  have hsz_57 := hh_56.2.2.2.2.2.1
                  have htt_57 := hh_56.2.2.2.2.2.2.1
                  refine W.room (fun hrc_57 hrs_57 => ?_)
                  refine va_callv (A0 := jA base) (H0 := s.heap) (va_runV (As := [.int z_27]) (rest := []) ⟨hx, hb, hml, hown, hts⟩ (uX0_character l dC dI ca base B hB hAp hB2 hB196 G_50 H_50 r0 z_27 qc_50 qa_50 m_qa_50 LC LS) (cwV 1 hts (jgV (jWr_25 _ (List.mem_of_getElem? (i := 17) rfl)) (jWr_25 _ (List.mem_of_getElem? (i := 18) rfl)) (jWr_25 _ (List.mem_of_getElem? (i := 19) rfl)) (jWr_1 _ (List.mem_of_getElem? (i := 14) rfl)) (jWr_25 _ (List.mem_of_getElem? (i := 20) rfl))) rfl rfl rfl (by decide +kernel) ⟨by rw [← hR]; exact Nat.le_of_ble_eq_true rfl, by rw [← hR]; exact Nat.le_of_ble_eq_true rfl⟩) ⟨fun a U g mk q => by obtain ⟨q0, q1, q2, qK, q10, q11, q12, q13⟩ := q; exact ⟨q0, q1, q2, jG.calling g mk a qK, q10, q11, q12, q13⟩, hh_56.recv (C := RX0) (T := TX0) (N := 2) hB2 rfl (by decide) hg_52 hK, fun U hU hW => ⟨rfl, hU, hh_56.2.1, hG.step hW hU hh_56.1, hg_52, hgq_50_0, (hh_56.2.2.1.sub (L1 := [(r0, 2, 1, .int qc_50), (r0, 2, 0, .ref qa_50)]) [0, 1] rfl), (by omega), (by omega), ⟨(by first | omega | rfl | assumption | fail), (by first | omega | rfl | assumption | fail), (by first | omega | rfl | assumption | fail), (by first | omega | rfl | assumption | fail), (by first | assumption | fail | omega)⟩⟩⟩ rfl rfl hl.1 rfl (lv_room (Nat.le_of_ble_eq_true rfl)) dX0_quoted_205 ⟨by rw [hRc]; omega, by rw [hRs]; omega⟩) hh_56.1 (fun q _ h => h) (fun q h => h) (fun u_57 t_57 H_57 locs_57 ht_57 hvm_57 hr_58 hb_57 hz_57 hk_57 hS_57 => ?_)
                  obtain ⟨qc_57, qa_57, m_qa_57, G_57⟩ := u_57
                  rw [ht_57] at hb_57
                  simp only at hb_57
                  obtain ⟨⟨hb_571, hb_572, hb_573, hb_574, hb_575, hb_576⟩, hgq_57_0, hN_57, hbO_57⟩ := hb_57
                  have hh_57 : jSt (dC, dI) B base G0 G_57 EX0_quotedu9 s.heap (((m_qa_50 - n_pa) / 16) + ((m_qa_57 - m_qa_50) / 16)) ((2 * (m_qa_50 - n_pa)) + (2 * (m_qa_57 - m_qa_50))) [(r0, 2, 1, .int qc_57), (r0, 2, 0, .ref qa_57)] [] [] H_57 locs_57 := (hh_56.callG hb_571 hb_572 hb_573 hb_574 hb_575 hS_57 rfl (L1 := []) [] rfl rfl (M1 := []) [] rfl rfl (I1 := []) [] rfl rfl).more hb_576
                  have hNn_57 : (jNk [0, 1, 2, 3, 4, 5, 6, 7, 8, 9, 10, 11, 12, 13, 14, 15, 16, 17, 175]) G0 G_57 := (hNn_50).tr hN_57
                  have hg_59 := hb_572 _ _ hg_52
                  have hg_60 := hb_572 _ _ hg_53
                  have hd_61 := jOw.tr (hh_56.iv 0 rfl) hh_56.2.2.2.2.1 hbO_57
                  have hh_62 := hh_57.addI (jOw.ie (dC := dC) (dI := dI) (G0 := G0) (k := 2) (r := r0) (H0 := s.heap) (F := [(2, 0), (2, 1)]) (C := RX0) (T := TX0) (N := 2) rfl (by decide) hh_57.2.2.2.2.1 (hd_61))
                  clear hh_57
                  try simp only at hr_58
                  obtain ⟨hr_58_0, hr_58_1, hr_58_2, hr_58_3, hr_58_4⟩ := hr_58
                  have hh_63 := hh_62.wk (zc1 := (m_qa_57 - n_pa) / 16) (zs1 := 2 * (m_qa_57 - n_pa)) (by omega) (by omega)
                  clear hh_62
                  try clear hsz_57 htt_57 hrc_57 hrs_57
                  try clear hb_574 hb_575
                  obtain ⟨z_64, ez_64⟩ : ∃ y : Int32, y = v5_15 + 1 := ⟨_, rfl⟩
                  refine lv_iinc (v := z_64) (lv' := [(5, .int z_64), (0, .ref r0), (1, .ref r1), (2, .int a2), (3, .int a3), (4, .int z_12), (6, .int z_27)]) hx hb dX0_quoted_208 hl (k := 5) rfl (by rw [ez_64]; rfl) (by decide) rfl (fun ls hl => ?_)
                  have hz_64 : z_64.toInt = v5_15.toInt + 1 := by rw [ez_64]; exact jb_iadd2 (rfl) (by decide) (by omega)
                  refine lv_goto (tgt := 23) hx hb dX0_quoted_211 (by decide) ?_
                  refine W.tight (c2 := ((m_qa_57 - n_pa) / 16)) (n2 := (2 * (m_qa_57 - n_pa))) hh_63.2.2.2.2.2.1 hh_63.2.2.2.2.2.2.1 ?_
                  exact L23 G_57 ((m_qa_57 - n_pa) / 16) (2 * (m_qa_57 - n_pa)) z_64 qc_57 qa_57 m_qa_57 _ _ hh_63 (hNn_57) (((hle_15).tr hb_502).tr hb_572) hgq_57_0 (⟨(by first | omega | rfl | assumption | fail), (by first | omega | rfl | assumption | fail), (by first | omega | rfl | assumption | fail), (by first | omega | rfl | assumption | fail), (by first | assumption | fail | omega), (by first | omega | rfl | assumption | fail), (by first | omega | rfl | assumption | fail), (by first | omega | rfl | assumption | fail), (by first | omega | rfl | assumption | fail)⟩) (by omega) _ (lv_sub hl [1, 2, 3, 4, 5, 0] rfl)
                · skip
                  have c_49' : z_27.toInt ≠ 34 := jb_eq_n (rfl) ((by decide)) c_49
                  refine lv_iload hx hb dX0_quoted_189 (lv_at hl 6 rfl) ?_
                  refine lv_bipush (v := 92) hx hb dX0_quoted_191 (by decide) ?_
                  refine lv_icmp_ne (tgt := 202) hx hb dX0_quoted_193 (by decide) (fun c_65 => ?_) (fun c_65 => ?_)
                  · skip
                    have c_65' : z_27.toInt ≠ 92 := jb_ne (rfl) ((by decide)) c_65
                    refine lv_aload_n hx hb dX0_quoted_202 rfl (lv_at hl 0 rfl) ?_
                    refine lv_iload hx hb dX0_quoted_203 (lv_at hl 6 rfl) ?_
                    have hsz_66 := hh_31.2.2.2.2.2.1
                    have htt_66 := hh_31.2.2.2.2.2.2.1
                    refine W.room (fun hrc_66 hrs_66 => ?_)
                    refine va_callv (A0 := jA base) (H0 := s.heap) (va_runV (As := [.int z_27]) (rest := []) ⟨hx, hb, hml, hown, hts⟩ (uX0_character l dC dI ca base B hB hAp hB2 hB196 Gx_15 H_31 r0 z_27 wc_15 wr_15 m_wr_15 LC LS) (cwV 1 hts (jgV (jWr_25 _ (List.mem_of_getElem? (i := 17) rfl)) (jWr_25 _ (List.mem_of_getElem? (i := 18) rfl)) (jWr_25 _ (List.mem_of_getElem? (i := 19) rfl)) (jWr_1 _ (List.mem_of_getElem? (i := 14) rfl)) (jWr_25 _ (List.mem_of_getElem? (i := 20) rfl))) rfl rfl rfl (by decide +kernel) ⟨by rw [← hR]; exact Nat.le_of_ble_eq_true rfl, by rw [← hR]; exact Nat.le_of_ble_eq_true rfl⟩) ⟨fun a U g mk q => by obtain ⟨q0, q1, q2, qK, q10, q11, q12, q13⟩ := q; exact ⟨q0, q1, q2, jG.calling g mk a qK, q10, q11, q12, q13⟩, hh_31.recv (C := RX0) (T := TX0) (N := 2) hB2 rfl (by decide) hg_16 hK, fun U hU hW => ⟨rfl, hU, hh_31.2.1, hG.step hW hU hh_31.1, hg_16, hg_wr_15, (hh_31.2.2.1.sub (L1 := [(r0, 2, 1, .int wc_15), (r0, 2, 0, .ref wr_15)]) [0, 1] rfl), (by omega), (by omega), ⟨(by first | omega | rfl | assumption | fail), (by first | omega | rfl | assumption | fail), (by first | omega | rfl | assumption | fail), (by first | omega | rfl | assumption | fail), (by first | assumption | fail | omega)⟩⟩⟩ rfl rfl hl.1 rfl (lv_room (Nat.le_of_ble_eq_true rfl)) dX0_quoted_205 ⟨by rw [hRc]; omega, by rw [hRs]; omega⟩) hh_31.1 (fun q _ h => h) (fun q h => h) (fun u_66 t_66 H_66 locs_66 ht_66 hvm_66 hr_67 hb_66 hz_66 hk_66 hS_66 => ?_)
                    obtain ⟨qc_66, qa_66, m_qa_66, G_66⟩ := u_66
                    rw [ht_66] at hb_66
                    simp only at hb_66
                    obtain ⟨⟨hb_661, hb_662, hb_663, hb_664, hb_665, hb_666⟩, hgq_66_0, hN_66, hbO_66⟩ := hb_66
                    have hh_66 : jSt (dC, dI) B base G0 G_66 EX0_quotedu9 s.heap (zcx_15 + ((m_qa_66 - m_wr_15) / 16)) (zsx_15 + (2 * (m_qa_66 - m_wr_15))) [(r0, 2, 1, .int qc_66), (r0, 2, 0, .ref qa_66)] [] [] H_66 locs_66 := (hh_31.callG hb_661 hb_662 hb_663 hb_664 hb_665 hS_66 rfl (L1 := []) [] rfl rfl (M1 := []) [] rfl rfl (I1 := []) [] rfl rfl).more hb_666
                    have hNn_66 : (jNk [0, 1, 2, 3, 4, 5, 6, 7, 8, 9, 10, 11, 12, 13, 14, 15, 16, 17, 175]) G0 G_66 := (hN_15).tr hN_66
                    have hg_68 := hb_662 _ _ hg_16
                    have hg_69 := hb_662 _ _ hg_17
                    have hd_70 := jOw.tr (hh_31.iv 0 rfl) hh_31.2.2.2.2.1 hbO_66
                    have hh_71 := hh_66.addI (jOw.ie (dC := dC) (dI := dI) (G0 := G0) (k := 2) (r := r0) (H0 := s.heap) (F := [(2, 0), (2, 1)]) (C := RX0) (T := TX0) (N := 2) rfl (by decide) hh_66.2.2.2.2.1 (hd_70))
                    clear hh_66
                    try simp only at hr_67
                    obtain ⟨hr_67_0, hr_67_1, hr_67_2, hr_67_3, hr_67_4⟩ := hr_67
                    have hh_72 := hh_71.wk (zc1 := (m_qa_66 - n_pa) / 16) (zs1 := 2 * (m_qa_66 - n_pa)) (by omega) (by omega)
                    clear hh_71
                    try clear hsz_66 htt_66 hrc_66 hrs_66
                    try clear hb_664 hb_665
                    obtain ⟨z_73, ez_73⟩ : ∃ y : Int32, y = v5_15 + 1 := ⟨_, rfl⟩
                    refine lv_iinc (v := z_73) (lv' := [(5, .int z_73), (0, .ref r0), (1, .ref r1), (2, .int a2), (3, .int a3), (4, .int z_12), (6, .int z_27)]) hx hb dX0_quoted_208 hl (k := 5) rfl (by rw [ez_73]; rfl) (by decide) rfl (fun ls hl => ?_)
                    have hz_73 : z_73.toInt = v5_15.toInt + 1 := by rw [ez_73]; exact jb_iadd2 (rfl) (by decide) (by omega)
                    refine lv_goto (tgt := 23) hx hb dX0_quoted_211 (by decide) ?_
                    refine W.tight (c2 := ((m_qa_66 - n_pa) / 16)) (n2 := (2 * (m_qa_66 - n_pa))) hh_72.2.2.2.2.2.1 hh_72.2.2.2.2.2.2.1 ?_
                    exact L23 G_66 ((m_qa_66 - n_pa) / 16) (2 * (m_qa_66 - n_pa)) z_73 qc_66 qa_66 m_qa_66 _ _ hh_72 (hNn_66) ((hle_15).tr hb_662) hgq_66_0 (⟨(by first | omega | rfl | assumption | fail), (by first | omega | rfl | assumption | fail), (by first | omega | rfl | assumption | fail), (by first | omega | rfl | assumption | fail), (by first | assumption | fail | omega), (by first | omega | rfl | assumption | fail), (by first | omega | rfl | assumption | fail), (by first | omega | rfl | assumption | fail), (by first | omega | rfl | assumption | fail)⟩) (by omega) _ (lv_sub hl [1, 2, 3, 4, 5, 0] rfl)
                  · skip
                    have c_65' : z_27.toInt = 92 := jb_ne_n (rfl) ((by decide)) c_65
                    refine lv_aload_n hx hb dX0_quoted_196 rfl (lv_at hl 0 rfl) ?_
                    refine lv_bipush (v := 92) hx hb dX0_quoted_197 (by decide) ?_
                    have hsz_74 := hh_31.2.2.2.2.2.1
                    have htt_74 := hh_31.2.2.2.2.2.2.1
                    refine W.room (fun hrc_74 hrs_74 => ?_)
                    refine va_callv (A0 := jA base) (H0 := s.heap) (va_runV (As := [.int 92]) (rest := []) ⟨hx, hb, hml, hown, hts⟩ (uX0_put l dC dI ca base B hB hAp hB2 hB196 Gx_15 H_31 r0 92 wc_15 wr_15 m_wr_15 LC LS) (cwV 1 hts (jgV (jWr_24 _ (List.mem_of_getElem? (i := 22) rfl)) (jWr_16 _ (List.mem_of_getElem? (i := 0) rfl)) (jWr_16 _ (List.mem_of_getElem? (i := 1) rfl)) (jWr_1 _ (List.mem_of_getElem? (i := 14) rfl)) (jWr_16 _ (List.mem_of_getElem? (i := 2) rfl))) rfl rfl rfl (by decide +kernel) ⟨by rw [← hR]; exact Nat.le_of_ble_eq_true rfl, by rw [← hR]; exact Nat.le_of_ble_eq_true rfl⟩) ⟨fun a U g mk q => by obtain ⟨q0, q1, q2, qK, q10, q11, q12, q13⟩ := q; exact ⟨q0, q1, q2, jG.calling g mk a qK, q10, q11, q12, q13⟩, hh_31.recv (C := RX0) (T := TX0) (N := 2) hB2 rfl (by decide) hg_16 hK, fun U hU hW => ⟨rfl, hU, hh_31.2.1, hG.step hW hU hh_31.1, hg_16, hg_wr_15, (hh_31.2.2.1.sub (L1 := [(r0, 2, 1, .int wc_15), (r0, 2, 0, .ref wr_15)]) [0, 1] rfl), (by omega), (by omega), ⟨(by first | omega | rfl | assumption | fail), (by first | omega | rfl | assumption | fail), (by first | omega | rfl | assumption | fail), (by first | omega | rfl | assumption | fail), (by first | assumption | fail | omega)⟩⟩⟩ rfl rfl hl.1 rfl (lv_room (Nat.le_of_ble_eq_true rfl)) dX0_quoted_199 ⟨by rw [hRc]; omega, by rw [hRs]; omega⟩) hh_31.1 (fun q _ h => h) (fun q h => h) (fun u_74 t_74 H_74 locs_74 ht_74 hvm_74 hr_75 hb_74 hz_74 hk_74 hS_74 => ?_)
                    obtain ⟨qc_74, qa_74, m_qa_74, G_74⟩ := u_74
                    rw [ht_74] at hb_74
                    simp only at hb_74
                    obtain ⟨⟨hb_741, hb_742, hb_743, hb_744, hb_745, hb_746⟩, hgq_74_0, hN_74, hbO_74⟩ := hb_74
                    have hh_74 : jSt (dC, dI) B base G0 G_74 EX0_quotedu9 s.heap (zcx_15 + ((m_qa_74 - m_wr_15) / 16)) (zsx_15 + (2 * (m_qa_74 - m_wr_15))) [(r0, 2, 1, .int qc_74), (r0, 2, 0, .ref qa_74)] [] [] H_74 locs_74 := (hh_31.callG hb_741 hb_742 hb_743 hb_744 hb_745 hS_74 rfl (L1 := []) [] rfl rfl (M1 := []) [] rfl rfl (I1 := []) [] rfl rfl).more hb_746
                    have hNn_74 : (jNk [0, 1, 2, 3, 4, 5, 6, 7, 8, 9, 10, 11, 12, 13, 14, 15, 16, 17, 175]) G0 G_74 := (hN_15).tr hN_74
                    have hg_76 := hb_742 _ _ hg_16
                    have hg_77 := hb_742 _ _ hg_17
                    have hd_78 := jOw.tr (hh_31.iv 0 rfl) hh_31.2.2.2.2.1 hbO_74
                    have hh_79 := hh_74.addI (jOw.ie (dC := dC) (dI := dI) (G0 := G0) (k := 2) (r := r0) (H0 := s.heap) (F := [(2, 0), (2, 1)]) (C := RX0) (T := TX0) (N := 2) rfl (by decide) hh_74.2.2.2.2.1 (hd_78))
                    clear hh_74
                    try simp only at hr_75
                    obtain ⟨hr_75_0, hr_75_1, hr_75_2, hr_75_3, hr_75_4⟩ := hr_75
                    have hh_80 := hh_79.wk (zc1 := (m_qa_74 - n_pa) / 16) (zs1 := 2 * (m_qa_74 - n_pa)) (by omega) (by omega)
                    clear hh_79
                    try clear hsz_74 htt_74 hrc_74 hrs_74
                    try clear hb_744 hb_745
                    refine lv_aload_n hx hb dX0_quoted_202 rfl (lv_at hl 0 rfl) ?_
                    refine lv_iload hx hb dX0_quoted_203 (lv_at hl 6 rfl) ?_
                    have hsz_81 := hh_80.2.2.2.2.2.1
                    have htt_81 := hh_80.2.2.2.2.2.2.1
                    refine W.room (fun hrc_81 hrs_81 => ?_)
                    refine va_callv (A0 := jA base) (H0 := s.heap) (va_runV (As := [.int z_27]) (rest := []) ⟨hx, hb, hml, hown, hts⟩ (uX0_character l dC dI ca base B hB hAp hB2 hB196 G_74 H_74 r0 z_27 qc_74 qa_74 m_qa_74 LC LS) (cwV 1 hts (jgV (jWr_25 _ (List.mem_of_getElem? (i := 17) rfl)) (jWr_25 _ (List.mem_of_getElem? (i := 18) rfl)) (jWr_25 _ (List.mem_of_getElem? (i := 19) rfl)) (jWr_1 _ (List.mem_of_getElem? (i := 14) rfl)) (jWr_25 _ (List.mem_of_getElem? (i := 20) rfl))) rfl rfl rfl (by decide +kernel) ⟨by rw [← hR]; exact Nat.le_of_ble_eq_true rfl, by rw [← hR]; exact Nat.le_of_ble_eq_true rfl⟩) ⟨fun a U g mk q => by obtain ⟨q0, q1, q2, qK, q10, q11, q12, q13⟩ := q; exact ⟨q0, q1, q2, jG.calling g mk a qK, q10, q11, q12, q13⟩, hh_80.recv (C := RX0) (T := TX0) (N := 2) hB2 rfl (by decide) hg_76 hK, fun U hU hW => ⟨rfl, hU, hh_80.2.1, hG.step hW hU hh_80.1, hg_76, hgq_74_0, (hh_80.2.2.1.sub (L1 := [(r0, 2, 1, .int qc_74), (r0, 2, 0, .ref qa_74)]) [0, 1] rfl), (by omega), (by omega), ⟨(by first | omega | rfl | assumption | fail), (by first | omega | rfl | assumption | fail), (by first | omega | rfl | assumption | fail), (by first | omega | rfl | assumption | fail), (by first | assumption | fail | omega)⟩⟩⟩ rfl rfl hl.1 rfl (lv_room (Nat.le_of_ble_eq_true rfl)) dX0_quoted_205 ⟨by rw [hRc]; omega, by rw [hRs]; omega⟩) hh_80.1 (fun q _ h => h) (fun q h => h) (fun u_81 t_81 H_81 locs_81 ht_81 hvm_81 hr_82 hb_81 hz_81 hk_81 hS_81 => ?_)
                    obtain ⟨qc_81, qa_81, m_qa_81, G_81⟩ := u_81
                    rw [ht_81] at hb_81
                    simp only at hb_81
                    obtain ⟨⟨hb_811, hb_812, hb_813, hb_814, hb_815, hb_816⟩, hgq_81_0, hN_81, hbO_81⟩ := hb_81
                    have hh_81 : jSt (dC, dI) B base G0 G_81 EX0_quotedu9 s.heap (((m_qa_74 - n_pa) / 16) + ((m_qa_81 - m_qa_74) / 16)) ((2 * (m_qa_74 - n_pa)) + (2 * (m_qa_81 - m_qa_74))) [(r0, 2, 1, .int qc_81), (r0, 2, 0, .ref qa_81)] [] [] H_81 locs_81 := (hh_80.callG hb_811 hb_812 hb_813 hb_814 hb_815 hS_81 rfl (L1 := []) [] rfl rfl (M1 := []) [] rfl rfl (I1 := []) [] rfl rfl).more hb_816
                    have hNn_81 : (jNk [0, 1, 2, 3, 4, 5, 6, 7, 8, 9, 10, 11, 12, 13, 14, 15, 16, 17, 175]) G0 G_81 := (hNn_74).tr hN_81
                    have hg_83 := hb_812 _ _ hg_76
                    have hg_84 := hb_812 _ _ hg_77
                    have hd_85 := jOw.tr (hh_80.iv 0 rfl) hh_80.2.2.2.2.1 hbO_81
                    have hh_86 := hh_81.addI (jOw.ie (dC := dC) (dI := dI) (G0 := G0) (k := 2) (r := r0) (H0 := s.heap) (F := [(2, 0), (2, 1)]) (C := RX0) (T := TX0) (N := 2) rfl (by decide) hh_81.2.2.2.2.1 (hd_85))
                    clear hh_81
                    try simp only at hr_82
                    obtain ⟨hr_82_0, hr_82_1, hr_82_2, hr_82_3, hr_82_4⟩ := hr_82
                    have hh_87 := hh_86.wk (zc1 := (m_qa_81 - n_pa) / 16) (zs1 := 2 * (m_qa_81 - n_pa)) (by omega) (by omega)
                    clear hh_86
                    try clear hsz_81 htt_81 hrc_81 hrs_81
                    try clear hb_814 hb_815
                    obtain ⟨z_88, ez_88⟩ : ∃ y : Int32, y = v5_15 + 1 := ⟨_, rfl⟩
                    refine lv_iinc (v := z_88) (lv' := [(5, .int z_88), (0, .ref r0), (1, .ref r1), (2, .int a2), (3, .int a3), (4, .int z_12), (6, .int z_27)]) hx hb dX0_quoted_208 hl (k := 5) rfl (by rw [ez_88]; rfl) (by decide) rfl (fun ls hl => ?_)
                    have hz_88 : z_88.toInt = v5_15.toInt + 1 := by rw [ez_88]; exact jb_iadd2 (rfl) (by decide) (by omega)
                    refine lv_goto (tgt := 23) hx hb dX0_quoted_211 (by decide) ?_
                    refine W.tight (c2 := ((m_qa_81 - n_pa) / 16)) (n2 := (2 * (m_qa_81 - n_pa))) hh_87.2.2.2.2.2.1 hh_87.2.2.2.2.2.2.1 ?_
                    exact L23 G_81 ((m_qa_81 - n_pa) / 16) (2 * (m_qa_81 - n_pa)) z_88 qc_81 qa_81 m_qa_81 _ _ hh_87 (hNn_81) (((hle_15).tr hb_742).tr hb_812) hgq_81_0 (⟨(by first | omega | rfl | assumption | fail), (by first | omega | rfl | assumption | fail), (by first | omega | rfl | assumption | fail), (by first | omega | rfl | assumption | fail), (by first | assumption | fail | omega), (by first | omega | rfl | assumption | fail), (by first | omega | rfl | assumption | fail), (by first | omega | rfl | assumption | fail), (by first | omega | rfl | assumption | fail)⟩) (by omega) _ (lv_sub hl [1, 2, 3, 4, 5, 0] rfl)
              · skip
                have c_48' : z_27.toInt < 32 := jb_ge_n (rfl) ((by decide)) c_48
                refine lv_aload_n hx hb dX0_quoted_126 rfl (lv_at hl 0 rfl) ?_
                refine va_ldcS hx hb hown rstr67 dX0_quoted_127 ?_
                have hsz_89 := hh_31.2.2.2.2.2.1
                have htt_89 := hh_31.2.2.2.2.2.2.1
                refine W.room (fun hrc_89 hrs_89 => ?_)
                refine va_callv (A0 := jA base) (H0 := s.heap) (va_runV (As := [.ref str67]) (rest := []) ⟨hx, hb, hml, hown, hts⟩ (uX0_text l dC dI ca base B hB hAp hB2 hB196 Gx_15 H_31 r0 str67 4 wc_15 wr_15 m_wr_15 LC LS) (cwV 1 hts (jgV (jWr_25 _ (List.mem_of_getElem? (i := 21) rfl)) (jWr_25 _ (List.mem_of_getElem? (i := 22) rfl)) (jWr_25 _ (List.mem_of_getElem? (i := 23) rfl)) (jWr_1 _ (List.mem_of_getElem? (i := 14) rfl)) (jWr_26 _ (List.mem_of_getElem? (i := 0) rfl))) rfl rfl rfl (by decide +kernel) ⟨by rw [← hR]; exact Nat.le_of_ble_eq_true rfl, by rw [← hR]; exact Nat.le_of_ble_eq_true rfl⟩) ⟨fun a U g mk q => by obtain ⟨q0, q1, q2, qK, q10, q11, q12, q13, q14⟩ := q; exact ⟨q0, q1, q2, jG.calling g mk a qK, (q10.moved (Vm.Alike.refl U.vm)), q11, q12, q13, q14⟩, hh_31.recv (C := RX0) (T := TX0) (N := 2) hB2 rfl (by decide) hg_16 hK, fun U hU hW => ⟨rfl, hU, hh_31.2.1, hG.step hW hU hh_31.1, (hstr67.moved hW.alike).kept hh_31.1.2.1, hg_16, hg_wr_15, (hh_31.2.2.1.sub (L1 := [(r0, 2, 1, .int wc_15), (r0, 2, 0, .ref wr_15)]) [0, 1] rfl), (by omega), (by omega), ⟨(by first | omega | rfl | assumption | fail), (by first | omega | rfl | assumption | fail), (by first | omega | rfl | assumption | fail), (by first | omega | rfl | assumption | fail), (by first | assumption | fail | omega), (by first | omega | rfl | assumption | fail)⟩⟩⟩ rfl rfl hl.1 rfl (lv_room (Nat.le_of_ble_eq_true rfl)) dX0_quoted_129 ⟨by rw [hRc]; omega, by rw [hRs]; omega⟩) hh_31.1 (fun q _ h => h) (fun q h => h) (fun u_89 t_89 H_89 locs_89 ht_89 hvm_89 hr_90 hb_89 hz_89 hk_89 hS_89 => ?_)
                obtain ⟨qc_89, qa_89, m_qa_89, G_89⟩ := u_89
                rw [ht_89] at hb_89
                simp only at hb_89
                obtain ⟨⟨hb_891, hb_892, hb_893, hb_894, hb_895, hb_896⟩, hgq_89_0, hN_89, hbO_89⟩ := hb_89
                have hh_89 : jSt (dC, dI) B base G0 G_89 EX0_quotedu9 s.heap (zcx_15 + ((m_qa_89 - m_wr_15) / 16)) (zsx_15 + (2 * (m_qa_89 - m_wr_15))) [(r0, 2, 1, .int qc_89), (r0, 2, 0, .ref qa_89)] [] [] H_89 locs_89 := (hh_31.callG hb_891 hb_892 hb_893 hb_894 hb_895 hS_89 rfl (L1 := []) [] rfl rfl (M1 := []) [] rfl rfl (I1 := []) [] rfl rfl).more hb_896
                have hNn_89 : (jNk [0, 1, 2, 3, 4, 5, 6, 7, 8, 9, 10, 11, 12, 13, 14, 15, 16, 17, 175]) G0 G_89 := (hN_15).tr hN_89
                have hg_91 := hb_892 _ _ hg_16
                have hg_92 := hb_892 _ _ hg_17
                have hd_93 := jOw.tr (hh_31.iv 0 rfl) hh_31.2.2.2.2.1 hbO_89
                have hh_94 := hh_89.addI (jOw.ie (dC := dC) (dI := dI) (G0 := G0) (k := 2) (r := r0) (H0 := s.heap) (F := [(2, 0), (2, 1)]) (C := RX0) (T := TX0) (N := 2) rfl (by decide) hh_89.2.2.2.2.1 (hd_93))
                clear hh_89
                try simp only at hr_90
                obtain ⟨hr_90_0, hr_90_1, hr_90_2, hr_90_3, hr_90_4⟩ := hr_90
                have hh_95 := hh_94.wk (zc1 := (m_qa_89 - n_pa) / 16) (zs1 := 2 * (m_qa_89 - n_pa)) (by omega) (by omega)
                clear hh_94
                try clear hsz_89 htt_89 hrc_89 hrs_89
                try clear hb_894 hb_895
                refine lv_aload_n hx hb dX0_quoted_132 rfl (lv_at hl 0 rfl) ?_
                refine lv_bipush (v := 48) hx hb dX0_quoted_133 (by decide) ?_
                refine lv_iload hx hb dX0_quoted_135 (lv_at hl 6 rfl) ?_
                refine lv_iconst (v := 4) hx hb dX0_quoted_137 (by decide) ?_
                refine lv_ishr hx hb dX0_quoted_138 ?_
                refine lv_topi (fun z_96 ez_96 => ?_)
                have hz_96 : z_96.toInt = z_27.toInt / 2 ^ 4 := by rw [ez_96]; exact jb_ishr 4 (rfl) (by decide)
                refine lv_iadd hx hb dX0_quoted_139 ?_
                refine lv_topi (fun z_97 ez_97 => ?_)
                have hsz_98 := hh_95.2.2.2.2.2.1
                have htt_98 := hh_95.2.2.2.2.2.2.1
                refine W.room (fun hrc_98 hrs_98 => ?_)
                refine va_callv (A0 := jA base) (H0 := s.heap) (va_runV (As := [.int z_97]) (rest := []) ⟨hx, hb, hml, hown, hts⟩ (uX0_put l dC dI ca base B hB hAp hB2 hB196 G_89 H_89 r0 z_97 qc_89 qa_89 m_qa_89 LC LS) (cwV 1 hts (jgV (jWr_24 _ (List.mem_of_getElem? (i := 22) rfl)) (jWr_16 _ (List.mem_of_getElem? (i := 0) rfl)) (jWr_16 _ (List.mem_of_getElem? (i := 1) rfl)) (jWr_1 _ (List.mem_of_getElem? (i := 14) rfl)) (jWr_16 _ (List.mem_of_getElem? (i := 2) rfl))) rfl rfl rfl (by decide +kernel) ⟨by rw [← hR]; exact Nat.le_of_ble_eq_true rfl, by rw [← hR]; exact Nat.le_of_ble_eq_true rfl⟩) ⟨fun a U g mk q => by obtain ⟨q0, q1, q2, qK, q10, q11, q12, q13⟩ := q; exact ⟨q0, q1, q2, jG.calling g mk a qK, q10, q11, q12, q13⟩, hh_95.recv (C := RX0) (T := TX0) (N := 2) hB2 rfl (by decide) hg_91 hK, fun U hU hW => ⟨rfl, hU, hh_95.2.1, hG.step hW hU hh_95.1, hg_91, hgq_89_0, (hh_95.2.2.1.sub (L1 := [(r0, 2, 1, .int qc_89), (r0, 2, 0, .ref qa_89)]) [0, 1] rfl), (by omega), (by omega), ⟨(by first | omega | rfl | assumption | fail), (by first | omega | rfl | assumption | fail), (by first | omega | rfl | assumption | fail), (by first | omega | rfl | assumption | fail), (by first | assumption | fail | omega)⟩⟩⟩ rfl rfl hl.1 rfl (lv_room (Nat.le_of_ble_eq_true rfl)) dX0_quoted_140 ⟨by rw [hRc]; omega, by rw [hRs]; omega⟩) hh_95.1 (fun q _ h => h) (fun q h => h) (fun u_98 t_98 H_98 locs_98 ht_98 hvm_98 hr_99 hb_98 hz_98 hk_98 hS_98 => ?_)
                obtain ⟨qc_98, qa_98, m_qa_98, G_98⟩ := u_98
                rw [ht_98] at hb_98
                simp only at hb_98
                obtain ⟨⟨hb_981, hb_982, hb_983, hb_984, hb_985, hb_986⟩, hgq_98_0, hN_98, hbO_98⟩ := hb_98
                have hh_98 : jSt (dC, dI) B base G0 G_98 EX0_quotedu9 s.heap (((m_qa_89 - n_pa) / 16) + ((m_qa_98 - m_qa_89) / 16)) ((2 * (m_qa_89 - n_pa)) + (2 * (m_qa_98 - m_qa_89))) [(r0, 2, 1, .int qc_98), (r0, 2, 0, .ref qa_98)] [] [] H_98 locs_98 := (hh_95.callG hb_981 hb_982 hb_983 hb_984 hb_985 hS_98 rfl (L1 := []) [] rfl rfl (M1 := []) [] rfl rfl (I1 := []) [] rfl rfl).more hb_986
                have hNn_98 : (jNk [0, 1, 2, 3, 4, 5, 6, 7, 8, 9, 10, 11, 12, 13, 14, 15, 16, 17, 175]) G0 G_98 := (hNn_89).tr hN_98
                have hg_100 := hb_982 _ _ hg_91
                have hg_101 := hb_982 _ _ hg_92
                have hd_102 := jOw.tr (hh_95.iv 0 rfl) hh_95.2.2.2.2.1 hbO_98
                have hh_103 := hh_98.addI (jOw.ie (dC := dC) (dI := dI) (G0 := G0) (k := 2) (r := r0) (H0 := s.heap) (F := [(2, 0), (2, 1)]) (C := RX0) (T := TX0) (N := 2) rfl (by decide) hh_98.2.2.2.2.1 (hd_102))
                clear hh_98
                try simp only at hr_99
                obtain ⟨hr_99_0, hr_99_1, hr_99_2, hr_99_3, hr_99_4⟩ := hr_99
                have hh_104 := hh_103.wk (zc1 := (m_qa_98 - n_pa) / 16) (zs1 := 2 * (m_qa_98 - n_pa)) (by omega) (by omega)
                clear hh_103
                try clear hsz_98 htt_98 hrc_98 hrs_98
                try clear hb_984 hb_985
                refine lv_aload_n hx hb dX0_quoted_143 rfl (lv_at hl 0 rfl) ?_
                refine lv_iload hx hb dX0_quoted_144 (lv_at hl 6 rfl) ?_
                refine lv_bipush (v := 15) hx hb dX0_quoted_146 (by decide) ?_
                refine lv_iand hx hb dX0_quoted_148 ?_
                refine lv_topi (fun z_105 ez_105 => ?_)
                have hz_105 : 0 ≤ z_105.toInt ∧ z_105.toInt ≤ 15 := by rw [ez_105]; exact jb_and z_27 (m := 15) (k := 4) (by decide) (by decide)
                refine lv_bipush (v := 10) hx hb dX0_quoted_149 (by decide) ?_
                refine lv_icmp_ge (tgt := 165) hx hb dX0_quoted_151 (by decide) (fun c_106 => ?_) (fun c_106 => ?_)
                · skip
                  have c_106' : z_105.toInt ≥ 10 := jb_ge (rfl) ((by decide)) c_106
                  refine lv_bipush (v := 97) hx hb dX0_quoted_165 (by decide) ?_
                  refine lv_iload hx hb dX0_quoted_167 (lv_at hl 6 rfl) ?_
                  refine lv_bipush (v := 15) hx hb dX0_quoted_169 (by decide) ?_
                  refine lv_iand hx hb dX0_quoted_171 ?_
                  refine lv_topi (fun z_107 ez_107 => ?_)
                  have hz_107 : 0 ≤ z_107.toInt ∧ z_107.toInt ≤ 15 := by rw [ez_107]; exact jb_and z_27 (m := 15) (k := 4) (by decide) (by decide)
                  refine lv_iadd hx hb dX0_quoted_172 ?_
                  refine lv_topi (fun z_108 ez_108 => ?_)
                  refine lv_bipush (v := 10) hx hb dX0_quoted_173 (by decide) ?_
                  refine lv_isub hx hb dX0_quoted_175 ?_
                  refine lv_topi (fun z_109 ez_109 => ?_)
                  have hsz_110 := hh_104.2.2.2.2.2.1
                  have htt_110 := hh_104.2.2.2.2.2.2.1
                  refine W.room (fun hrc_110 hrs_110 => ?_)
                  refine va_callv (A0 := jA base) (H0 := s.heap) (va_runV (As := [.int z_109]) (rest := []) ⟨hx, hb, hml, hown, hts⟩ (uX0_put l dC dI ca base B hB hAp hB2 hB196 G_98 H_98 r0 z_109 qc_98 qa_98 m_qa_98 LC LS) (cwV 1 hts (jgV (jWr_24 _ (List.mem_of_getElem? (i := 22) rfl)) (jWr_16 _ (List.mem_of_getElem? (i := 0) rfl)) (jWr_16 _ (List.mem_of_getElem? (i := 1) rfl)) (jWr_1 _ (List.mem_of_getElem? (i := 14) rfl)) (jWr_16 _ (List.mem_of_getElem? (i := 2) rfl))) rfl rfl rfl (by decide +kernel) ⟨by rw [← hR]; exact Nat.le_of_ble_eq_true rfl, by rw [← hR]; exact Nat.le_of_ble_eq_true rfl⟩) ⟨fun a U g mk q => by obtain ⟨q0, q1, q2, qK, q10, q11, q12, q13⟩ := q; exact ⟨q0, q1, q2, jG.calling g mk a qK, q10, q11, q12, q13⟩, hh_104.recv (C := RX0) (T := TX0) (N := 2) hB2 rfl (by decide) hg_100 hK, fun U hU hW => ⟨rfl, hU, hh_104.2.1, hG.step hW hU hh_104.1, hg_100, hgq_98_0, (hh_104.2.2.1.sub (L1 := [(r0, 2, 1, .int qc_98), (r0, 2, 0, .ref qa_98)]) [0, 1] rfl), (by omega), (by omega), ⟨(by first | omega | rfl | assumption | fail), (by first | omega | rfl | assumption | fail), (by first | omega | rfl | assumption | fail), (by first | omega | rfl | assumption | fail), (by first | assumption | fail | omega)⟩⟩⟩ rfl rfl hl.1 rfl (lv_room (Nat.le_of_ble_eq_true rfl)) dX0_quoted_176 ⟨by rw [hRc]; omega, by rw [hRs]; omega⟩) hh_104.1 (fun q _ h => h) (fun q h => h) (fun u_110 t_110 H_110 locs_110 ht_110 hvm_110 hr_111 hb_110 hz_110 hk_110 hS_110 => ?_)
                  obtain ⟨qc_110, qa_110, m_qa_110, G_110⟩ := u_110
                  rw [ht_110] at hb_110
                  simp only at hb_110
                  obtain ⟨⟨hb_1101, hb_1102, hb_1103, hb_1104, hb_1105, hb_1106⟩, hgq_110_0, hN_110, hbO_110⟩ := hb_110
                  have hh_110 : jSt (dC, dI) B base G0 G_110 EX0_quotedu9 s.heap (((m_qa_98 - n_pa) / 16) + ((m_qa_110 - m_qa_98) / 16)) ((2 * (m_qa_98 - n_pa)) + (2 * (m_qa_110 - m_qa_98))) [(r0, 2, 1, .int qc_110), (r0, 2, 0, .ref qa_110)] [] [] H_110 locs_110 := (hh_104.callG hb_1101 hb_1102 hb_1103 hb_1104 hb_1105 hS_110 rfl (L1 := []) [] rfl rfl (M1 := []) [] rfl rfl (I1 := []) [] rfl rfl).more hb_1106
                  have hNn_110 : (jNk [0, 1, 2, 3, 4, 5, 6, 7, 8, 9, 10, 11, 12, 13, 14, 15, 16, 17, 175]) G0 G_110 := (hNn_98).tr hN_110
                  have hg_112 := hb_1102 _ _ hg_100
                  have hg_113 := hb_1102 _ _ hg_101
                  have hd_114 := jOw.tr (hh_104.iv 0 rfl) hh_104.2.2.2.2.1 hbO_110
                  have hh_115 := hh_110.addI (jOw.ie (dC := dC) (dI := dI) (G0 := G0) (k := 2) (r := r0) (H0 := s.heap) (F := [(2, 0), (2, 1)]) (C := RX0) (T := TX0) (N := 2) rfl (by decide) hh_110.2.2.2.2.1 (hd_114))
                  clear hh_110
                  try simp only at hr_111
                  obtain ⟨hr_111_0, hr_111_1, hr_111_2, hr_111_3, hr_111_4⟩ := hr_111
                  have hh_116 := hh_115.wk (zc1 := (m_qa_110 - n_pa) / 16) (zs1 := 2 * (m_qa_110 - n_pa)) (by omega) (by omega)
                  clear hh_115
                  try clear hsz_110 htt_110 hrc_110 hrs_110
                  try clear hb_1104 hb_1105
                  refine lv_goto (tgt := 208) hx hb dX0_quoted_179 (by decide) ?_
                  obtain ⟨z_117, ez_117⟩ : ∃ y : Int32, y = v5_15 + 1 := ⟨_, rfl⟩
                  refine lv_iinc (v := z_117) (lv' := [(5, .int z_117), (0, .ref r0), (1, .ref r1), (2, .int a2), (3, .int a3), (4, .int z_12), (6, .int z_27)]) hx hb dX0_quoted_208 hl (k := 5) rfl (by rw [ez_117]; rfl) (by decide) rfl (fun ls hl => ?_)
                  have hz_117 : z_117.toInt = v5_15.toInt + 1 := by rw [ez_117]; exact jb_iadd2 (rfl) (by decide) (by omega)
                  refine lv_goto (tgt := 23) hx hb dX0_quoted_211 (by decide) ?_
                  refine W.tight (c2 := ((m_qa_110 - n_pa) / 16)) (n2 := (2 * (m_qa_110 - n_pa))) hh_116.2.2.2.2.2.1 hh_116.2.2.2.2.2.2.1 ?_
                  exact L23 G_110 ((m_qa_110 - n_pa) / 16) (2 * (m_qa_110 - n_pa)) z_117 qc_110 qa_110 m_qa_110 _ _ hh_116 (hNn_110) ((((hle_15).tr hb_892).tr hb_982).tr hb_1102) hgq_110_0 (⟨(by first | omega | rfl | assumption | fail), (by first | omega | rfl | assumption | fail), (by first | omega | rfl | assumption | fail), (by first | omega | rfl | assumption | fail), (by first | assumption | fail | omega), (by first | omega | rfl | assumption | fail), (by first | omega | rfl | assumption | fail), (by first | omega | rfl | assumption | fail), (by first | omega | rfl | assumption | fail)⟩) (by omega) _ (lv_sub hl [1, 2, 3, 4, 5, 0] rfl)
                · skip
                  have c_106' : z_105.toInt < 10 := jb_ge_n (rfl) ((by decide)) c_106
                  refine lv_bipush (v := 48) hx hb dX0_quoted_154 (by decide) ?_
                  refine lv_iload hx hb dX0_quoted_156 (lv_at hl 6 rfl) ?_
                  refine lv_bipush (v := 15) hx hb dX0_quoted_158 (by decide) ?_
                  refine lv_iand hx hb dX0_quoted_160 ?_
                  refine lv_topi (fun z_118 ez_118 => ?_)
                  have hz_118 : 0 ≤ z_118.toInt ∧ z_118.toInt ≤ 15 := by rw [ez_118]; exact jb_and z_27 (m := 15) (k := 4) (by decide) (by decide)
                  refine lv_iadd hx hb dX0_quoted_161 ?_
                  refine lv_topi (fun z_119 ez_119 => ?_)
                  refine lv_goto (tgt := 176) hx hb dX0_quoted_162 (by decide) ?_
                  have hsz_120 := hh_104.2.2.2.2.2.1
                  have htt_120 := hh_104.2.2.2.2.2.2.1
                  refine W.room (fun hrc_120 hrs_120 => ?_)
                  refine va_callv (A0 := jA base) (H0 := s.heap) (va_runV (As := [.int z_119]) (rest := []) ⟨hx, hb, hml, hown, hts⟩ (uX0_put l dC dI ca base B hB hAp hB2 hB196 G_98 H_98 r0 z_119 qc_98 qa_98 m_qa_98 LC LS) (cwV 1 hts (jgV (jWr_24 _ (List.mem_of_getElem? (i := 22) rfl)) (jWr_16 _ (List.mem_of_getElem? (i := 0) rfl)) (jWr_16 _ (List.mem_of_getElem? (i := 1) rfl)) (jWr_1 _ (List.mem_of_getElem? (i := 14) rfl)) (jWr_16 _ (List.mem_of_getElem? (i := 2) rfl))) rfl rfl rfl (by decide +kernel) ⟨by rw [← hR]; exact Nat.le_of_ble_eq_true rfl, by rw [← hR]; exact Nat.le_of_ble_eq_true rfl⟩) ⟨fun a U g mk q => by obtain ⟨q0, q1, q2, qK, q10, q11, q12, q13⟩ := q; exact ⟨q0, q1, q2, jG.calling g mk a qK, q10, q11, q12, q13⟩, hh_104.recv (C := RX0) (T := TX0) (N := 2) hB2 rfl (by decide) hg_100 hK, fun U hU hW => ⟨rfl, hU, hh_104.2.1, hG.step hW hU hh_104.1, hg_100, hgq_98_0, (hh_104.2.2.1.sub (L1 := [(r0, 2, 1, .int qc_98), (r0, 2, 0, .ref qa_98)]) [0, 1] rfl), (by omega), (by omega), ⟨(by first | omega | rfl | assumption | fail), (by first | omega | rfl | assumption | fail), (by first | omega | rfl | assumption | fail), (by first | omega | rfl | assumption | fail), (by first | assumption | fail | omega)⟩⟩⟩ rfl rfl hl.1 rfl (lv_room (Nat.le_of_ble_eq_true rfl)) dX0_quoted_176 ⟨by rw [hRc]; omega, by rw [hRs]; omega⟩) hh_104.1 (fun q _ h => h) (fun q h => h) (fun u_120 t_120 H_120 locs_120 ht_120 hvm_120 hr_121 hb_120 hz_120 hk_120 hS_120 => ?_)
                  obtain ⟨qc_120, qa_120, m_qa_120, G_120⟩ := u_120
                  rw [ht_120] at hb_120
                  simp only at hb_120
                  obtain ⟨⟨hb_1201, hb_1202, hb_1203, hb_1204, hb_1205, hb_1206⟩, hgq_120_0, hN_120, hbO_120⟩ := hb_120
                  have hh_120 : jSt (dC, dI) B base G0 G_120 EX0_quotedu9 s.heap (((m_qa_98 - n_pa) / 16) + ((m_qa_120 - m_qa_98) / 16)) ((2 * (m_qa_98 - n_pa)) + (2 * (m_qa_120 - m_qa_98))) [(r0, 2, 1, .int qc_120), (r0, 2, 0, .ref qa_120)] [] [] H_120 locs_120 := (hh_104.callG hb_1201 hb_1202 hb_1203 hb_1204 hb_1205 hS_120 rfl (L1 := []) [] rfl rfl (M1 := []) [] rfl rfl (I1 := []) [] rfl rfl).more hb_1206
                  have hNn_120 : (jNk [0, 1, 2, 3, 4, 5, 6, 7, 8, 9, 10, 11, 12, 13, 14, 15, 16, 17, 175]) G0 G_120 := (hNn_98).tr hN_120
                  have hg_122 := hb_1202 _ _ hg_100
                  have hg_123 := hb_1202 _ _ hg_101
                  have hd_124 := jOw.tr (hh_104.iv 0 rfl) hh_104.2.2.2.2.1 hbO_120
                  have hh_125 := hh_120.addI (jOw.ie (dC := dC) (dI := dI) (G0 := G0) (k := 2) (r := r0) (H0 := s.heap) (F := [(2, 0), (2, 1)]) (C := RX0) (T := TX0) (N := 2) rfl (by decide) hh_120.2.2.2.2.1 (hd_124))
                  clear hh_120
                  try simp only at hr_121
                  obtain ⟨hr_121_0, hr_121_1, hr_121_2, hr_121_3, hr_121_4⟩ := hr_121
                  have hh_126 := hh_125.wk (zc1 := (m_qa_120 - n_pa) / 16) (zs1 := 2 * (m_qa_120 - n_pa)) (by omega) (by omega)
                  clear hh_125
                  try clear hsz_120 htt_120 hrc_120 hrs_120
                  try clear hb_1204 hb_1205
                  refine lv_goto (tgt := 208) hx hb dX0_quoted_179 (by decide) ?_
                  obtain ⟨z_127, ez_127⟩ : ∃ y : Int32, y = v5_15 + 1 := ⟨_, rfl⟩
                  refine lv_iinc (v := z_127) (lv' := [(5, .int z_127), (0, .ref r0), (1, .ref r1), (2, .int a2), (3, .int a3), (4, .int z_12), (6, .int z_27)]) hx hb dX0_quoted_208 hl (k := 5) rfl (by rw [ez_127]; rfl) (by decide) rfl (fun ls hl => ?_)
                  have hz_127 : z_127.toInt = v5_15.toInt + 1 := by rw [ez_127]; exact jb_iadd2 (rfl) (by decide) (by omega)
                  refine lv_goto (tgt := 23) hx hb dX0_quoted_211 (by decide) ?_
                  refine W.tight (c2 := ((m_qa_120 - n_pa) / 16)) (n2 := (2 * (m_qa_120 - n_pa))) hh_126.2.2.2.2.2.1 hh_126.2.2.2.2.2.2.1 ?_
                  exact L23 G_120 ((m_qa_120 - n_pa) / 16) (2 * (m_qa_120 - n_pa)) z_127 qc_120 qa_120 m_qa_120 _ _ hh_126 (hNn_120) ((((hle_15).tr hb_892).tr hb_982).tr hb_1202) hgq_120_0 (⟨(by first | omega | rfl | assumption | fail), (by first | omega | rfl | assumption | fail), (by first | omega | rfl | assumption | fail), (by first | omega | rfl | assumption | fail), (by first | assumption | fail | omega), (by first | omega | rfl | assumption | fail), (by first | omega | rfl | assumption | fail), (by first | omega | rfl | assumption | fail), (by first | omega | rfl | assumption | fail)⟩) (by omega) _ (lv_sub hl [1, 2, 3, 4, 5, 0] rfl)
            · skip
              have c_47' : r_44.toInt ≠ 0 := jb_eq_n (rfl) ((by decide)) c_47
              refine lv_aload_n hx hb dX0_quoted_110 rfl (lv_at hl 0 rfl) ?_
              refine lv_ldc hx hb hown hcs_66 dX0_quoted_111 ?_
              have hsz_128 := hh_31.2.2.2.2.2.1
              have htt_128 := hh_31.2.2.2.2.2.2.1
              refine W.room (fun hrc_128 hrs_128 => ?_)
              refine va_callv (A0 := jA base) (H0 := s.heap) (va_runV (As := [.int 65533]) (rest := []) ⟨hx, hb, hml, hown, hts⟩ (uX0_character l dC dI ca base B hB hAp hB2 hB196 Gx_15 H_31 r0 65533 wc_15 wr_15 m_wr_15 LC LS) (cwV 1 hts (jgV (jWr_25 _ (List.mem_of_getElem? (i := 17) rfl)) (jWr_25 _ (List.mem_of_getElem? (i := 18) rfl)) (jWr_25 _ (List.mem_of_getElem? (i := 19) rfl)) (jWr_1 _ (List.mem_of_getElem? (i := 14) rfl)) (jWr_25 _ (List.mem_of_getElem? (i := 20) rfl))) rfl rfl rfl (by decide +kernel) ⟨by rw [← hR]; exact Nat.le_of_ble_eq_true rfl, by rw [← hR]; exact Nat.le_of_ble_eq_true rfl⟩) ⟨fun a U g mk q => by obtain ⟨q0, q1, q2, qK, q10, q11, q12, q13⟩ := q; exact ⟨q0, q1, q2, jG.calling g mk a qK, q10, q11, q12, q13⟩, hh_31.recv (C := RX0) (T := TX0) (N := 2) hB2 rfl (by decide) hg_16 hK, fun U hU hW => ⟨rfl, hU, hh_31.2.1, hG.step hW hU hh_31.1, hg_16, hg_wr_15, (hh_31.2.2.1.sub (L1 := [(r0, 2, 1, .int wc_15), (r0, 2, 0, .ref wr_15)]) [0, 1] rfl), (by omega), (by omega), ⟨(by first | omega | rfl | assumption | fail), (by first | omega | rfl | assumption | fail), (by first | omega | rfl | assumption | fail), (by first | omega | rfl | assumption | fail), (by first | assumption | fail | omega)⟩⟩⟩ rfl rfl hl.1 rfl (lv_room (Nat.le_of_ble_eq_true rfl)) dX0_quoted_113 ⟨by rw [hRc]; omega, by rw [hRs]; omega⟩) hh_31.1 (fun q _ h => h) (fun q h => h) (fun u_128 t_128 H_128 locs_128 ht_128 hvm_128 hr_129 hb_128 hz_128 hk_128 hS_128 => ?_)
              obtain ⟨qc_128, qa_128, m_qa_128, G_128⟩ := u_128
              rw [ht_128] at hb_128
              simp only at hb_128
              obtain ⟨⟨hb_1281, hb_1282, hb_1283, hb_1284, hb_1285, hb_1286⟩, hgq_128_0, hN_128, hbO_128⟩ := hb_128
              have hh_128 : jSt (dC, dI) B base G0 G_128 EX0_quotedu9 s.heap (zcx_15 + ((m_qa_128 - m_wr_15) / 16)) (zsx_15 + (2 * (m_qa_128 - m_wr_15))) [(r0, 2, 1, .int qc_128), (r0, 2, 0, .ref qa_128)] [] [] H_128 locs_128 := (hh_31.callG hb_1281 hb_1282 hb_1283 hb_1284 hb_1285 hS_128 rfl (L1 := []) [] rfl rfl (M1 := []) [] rfl rfl (I1 := []) [] rfl rfl).more hb_1286
              have hNn_128 : (jNk [0, 1, 2, 3, 4, 5, 6, 7, 8, 9, 10, 11, 12, 13, 14, 15, 16, 17, 175]) G0 G_128 := (hN_15).tr hN_128
              have hg_130 := hb_1282 _ _ hg_16
              have hg_131 := hb_1282 _ _ hg_17
              have hd_132 := jOw.tr (hh_31.iv 0 rfl) hh_31.2.2.2.2.1 hbO_128
              have hh_133 := hh_128.addI (jOw.ie (dC := dC) (dI := dI) (G0 := G0) (k := 2) (r := r0) (H0 := s.heap) (F := [(2, 0), (2, 1)]) (C := RX0) (T := TX0) (N := 2) rfl (by decide) hh_128.2.2.2.2.1 (hd_132))
              clear hh_128
              try simp only at hr_129
              obtain ⟨hr_129_0, hr_129_1, hr_129_2, hr_129_3, hr_129_4⟩ := hr_129
              have hh_134 := hh_133.wk (zc1 := (m_qa_128 - n_pa) / 16) (zs1 := 2 * (m_qa_128 - n_pa)) (by omega) (by omega)
              clear hh_133
              try clear hsz_128 htt_128 hrc_128 hrs_128
              try clear hb_1284 hb_1285
              refine lv_goto (tgt := 208) hx hb dX0_quoted_116 (by decide) ?_
              obtain ⟨z_135, ez_135⟩ : ∃ y : Int32, y = v5_15 + 1 := ⟨_, rfl⟩
              refine lv_iinc (v := z_135) (lv' := [(5, .int z_135), (0, .ref r0), (1, .ref r1), (2, .int a2), (3, .int a3), (4, .int z_12), (6, .int z_27)]) hx hb dX0_quoted_208 hl (k := 5) rfl (by rw [ez_135]; rfl) (by decide) rfl (fun ls hl => ?_)
              have hz_135 : z_135.toInt = v5_15.toInt + 1 := by rw [ez_135]; exact jb_iadd2 (rfl) (by decide) (by omega)
              refine lv_goto (tgt := 23) hx hb dX0_quoted_211 (by decide) ?_
              refine W.tight (c2 := ((m_qa_128 - n_pa) / 16)) (n2 := (2 * (m_qa_128 - n_pa))) hh_134.2.2.2.2.2.1 hh_134.2.2.2.2.2.2.1 ?_
              exact L23 G_128 ((m_qa_128 - n_pa) / 16) (2 * (m_qa_128 - n_pa)) z_135 qc_128 qa_128 m_qa_128 _ _ hh_134 (hNn_128) ((hle_15).tr hb_1282) hgq_128_0 (⟨(by first | omega | rfl | assumption | fail), (by first | omega | rfl | assumption | fail), (by first | omega | rfl | assumption | fail), (by first | omega | rfl | assumption | fail), (by first | assumption | fail | omega), (by first | omega | rfl | assumption | fail), (by first | omega | rfl | assumption | fail), (by first | omega | rfl | assumption | fail), (by first | omega | rfl | assumption | fail)⟩) (by omega) _ (lv_sub hl [1, 2, 3, 4, 5, 0] rfl)
        refine lv_if_eq (tgt := 94) hx hb dX0_quoted_41 (by decide) (fun c_136 => ?_) (fun c_136 => ?_)
        · skip
          have c_136' : r_28.toInt = 0 := jb_eq (rfl) ((by decide)) c_136
          refine W.tight (c2 := zcx_15) (n2 := zsx_15) hh_15.2.2.2.2.2.1 hh_15.2.2.2.2.2.2.1 ?_
          exact C94  _ _ hh_15 (trivial) _ (lv_sub hl [1, 2, 3, 4, 5, 6, 0] rfl)
        · skip
          have c_136' : r_28.toInt ≠ 0 := jb_eq_n (rfl) ((by decide)) c_136
          refine lv_iload hx hb dX0_quoted_44 (lv_at hl 6 rfl) ?_
          refine lv_iconst (v := 1) hx hb dX0_quoted_46 (by decide) ?_
          refine lv_iadd hx hb dX0_quoted_47 ?_
          refine lv_topi (fun z_137 ez_137 => ?_)
          have hz_137 : z_137.toInt = v5_15.toInt + 1 := by rw [ez_137]; exact jb_iadd2 (rfl) ((by decide)) (by omega)
          refine lv_iload hx hb dX0_quoted_48 (lv_at hl 5 rfl) ?_
          refine lv_icmp_ge (tgt := 94) hx hb dX0_quoted_50 (by decide) (fun c_138 => ?_) (fun c_138 => ?_)
          · skip
            have c_138' : z_137.toInt ≥ z_12.toInt := jb_ge (rfl) (rfl) c_138
            refine W.tight (c2 := zcx_15) (n2 := zsx_15) hh_15.2.2.2.2.2.1 hh_15.2.2.2.2.2.2.1 ?_
            exact C94  _ _ hh_15 (trivial) _ (lv_sub hl [1, 2, 3, 4, 5, 6, 0] rfl)
          · skip
            have c_138' : z_137.toInt < z_12.toInt := jb_ge_n (rfl) (rfl) c_138
            refine lv_aload_n hx hb dX0_quoted_53 rfl (lv_at hl 2 rfl) ?_
            refine lv_iload hx hb dX0_quoted_54 (lv_at hl 6 rfl) ?_
            refine lv_iconst (v := 1) hx hb dX0_quoted_56 (by decide) ?_
            refine lv_iadd hx hb dX0_quoted_57 ?_
            refine lv_topi (fun z_139 ez_139 => ?_)
            have hz_139 : z_139.toInt = v5_15.toInt + 1 := by rw [ez_139]; exact jb_iadd2 (rfl) ((by decide)) (by omega)
            refine j7_iald hx hb hK hh_15 hB174 1 rfl (by decide) hg_17 (x := z_139.toInt) (rfl) (by omega) dX0_quoted_58 (fun z_140 (hz_140 : True) => ?_)
            have hsz_143 := hh_15.2.2.2.2.2.1
            have htt_143 := hh_15.2.2.2.2.2.2.1
            refine W.room (fun hrc_143 hrs_143 => ?_)
            have hsz_142 := hh_15.2.2.2.2.2.1
            have htt_142 := hh_15.2.2.2.2.2.2.1
            refine W.room (fun hrc_142 hrs_142 => ?_)
            refine vp_callSi (W.runS (As := [.int z_140]) (rest := []) ⟨hx, hb, hml, hown, hts⟩ (wX0_isLow l dC dI ca base H_15 z_140) (va_cwS 1 hts (jgS (jWr_25 _ (List.mem_of_getElem? (i := 16) rfl)) (jWr_21 _ (List.mem_of_getElem? (i := 10) rfl)) (jWr_1 _ (List.mem_of_getElem? (i := 14) rfl)) (jWr_21 _ (List.mem_of_getElem? (i := 11) rfl))) rfl rfl rfl (by decide +kernel) ⟨by rw [← hR]; exact Nat.le_of_ble_eq_true rfl, by rw [← hR]; exact Nat.le_of_ble_eq_true rfl⟩) ⟨fun a U g mk q => by obtain ⟨q0, q1, qK, q9⟩ := q; exact ⟨q0, q1, jG.calling g mk a qK, q9⟩, fun U hU hW => ⟨rfl, hU, hG.step hW hU hh_15.1, by first | trivial | omega | (constructor <;> omega)⟩⟩ rfl rfl hl.1 rfl (lv_room (Nat.le_of_ble_eq_true rfl)) dX0_quoted_59 ⟨by rw [hRc]; omega, by rw [hRs]; omega⟩) (fun r_141 hr_141 => ?_)
            have hr_141' : r_141.toInt = 0 ∨ r_141.toInt = 1 := jb_01 hr_141
            refine lv_if_eq (tgt := 94) hx hb dX0_quoted_62 (by decide) (fun c_144 => ?_) (fun c_144 => ?_)
            · skip
              have c_144' : r_141.toInt = 0 := jb_eq (rfl) ((by decide)) c_144
              refine W.tight (c2 := zcx_15) (n2 := zsx_15) hh_15.2.2.2.2.2.1 hh_15.2.2.2.2.2.2.1 ?_
              exact C94  _ _ hh_15 (trivial) _ (lv_sub hl [1, 2, 3, 4, 5, 6, 0] rfl)
            · skip
              have c_144' : r_141.toInt ≠ 0 := jb_eq_n (rfl) ((by decide)) c_144
              obtain ⟨z_145, ez_145⟩ : ∃ y : Int32, y = v5_15 + 1 := ⟨_, rfl⟩
              refine lv_iinc (v := z_145) (lv' := [(5, .int z_145), (6, .int z_27), (0, .ref r0), (1, .ref r1), (2, .int a2), (3, .int a3), (4, .int z_12)]) hx hb dX0_quoted_65 hl (k := 6) rfl (by rw [ez_145]; rfl) (by decide) rfl (fun ls hl => ?_)
              have hz_145 : z_145.toInt = v5_15.toInt + 1 := by rw [ez_145]; exact jb_iadd2 (rfl) (by decide) (by omega)
              refine lv_aload_n hx hb dX0_quoted_68 rfl (lv_at hl 2 rfl) ?_
              refine lv_ldc hx hb hown hcs_60 dX0_quoted_69 ?_
              refine lv_iload hx hb dX0_quoted_71 (lv_at hl 1 rfl) ?_
              refine lv_ldc hx hb hown hcs_61 dX0_quoted_73 ?_
              refine lv_isub hx hb dX0_quoted_75 ?_
              refine lv_topi (fun z_146 ez_146 => ?_)
              refine lv_bipush (v := 10) hx hb dX0_quoted_76 (by decide) ?_
              refine lv_ishl hx hb dX0_quoted_78 ?_
              refine lv_topi (fun z_147 ez_147 => ?_)
              refine lv_iadd hx hb dX0_quoted_79 ?_
              refine lv_topi (fun z_148 ez_148 => ?_)
              refine lv_aload_n hx hb dX0_quoted_80 rfl (lv_at hl 3 rfl) ?_
              refine lv_iload hx hb dX0_quoted_81 (lv_at hl 0 rfl) ?_
              refine j7_iald hx hb hK hh_15 hB174 1 rfl (by decide) hg_17 (x := z_145.toInt) (rfl) (by omega) dX0_quoted_83 (fun z_149 (hz_149 : True) => ?_)
              refine lv_iadd hx hb dX0_quoted_84 ?_
              refine lv_topi (fun z_150 ez_150 => ?_)
              refine lv_ldc hx hb hown hcs_62 dX0_quoted_85 ?_
              refine lv_isub hx hb dX0_quoted_87 ?_
              refine lv_topi (fun z_151 ez_151 => ?_)
              have hsz_152 := hh_15.2.2.2.2.2.1
              have htt_152 := hh_15.2.2.2.2.2.2.1
              refine W.room (fun hrc_152 hrs_152 => ?_)
              refine va_callv (A0 := jA base) (H0 := s.heap) (va_runV (As := [.int z_151]) (rest := []) ⟨hx, hb, hml, hown, hts⟩ (uX0_character l dC dI ca base B hB hAp hB2 hB196 Gx_15 H_15 r0 z_151 wc_15 wr_15 m_wr_15 LC LS) (cwV 1 hts (jgV (jWr_25 _ (List.mem_of_getElem? (i := 17) rfl)) (jWr_25 _ (List.mem_of_getElem? (i := 18) rfl)) (jWr_25 _ (List.mem_of_getElem? (i := 19) rfl)) (jWr_1 _ (List.mem_of_getElem? (i := 14) rfl)) (jWr_25 _ (List.mem_of_getElem? (i := 20) rfl))) rfl rfl rfl (by decide +kernel) ⟨by rw [← hR]; exact Nat.le_of_ble_eq_true rfl, by rw [← hR]; exact Nat.le_of_ble_eq_true rfl⟩) ⟨fun a U g mk q => by obtain ⟨q0, q1, q2, qK, q10, q11, q12, q13⟩ := q; exact ⟨q0, q1, q2, jG.calling g mk a qK, q10, q11, q12, q13⟩, hh_15.recv (C := RX0) (T := TX0) (N := 2) hB2 rfl (by decide) hg_16 hK, fun U hU hW => ⟨rfl, hU, hh_15.2.1, hG.step hW hU hh_15.1, hg_16, hg_wr_15, (hh_15.2.2.1.sub (L1 := [(r0, 2, 1, .int wc_15), (r0, 2, 0, .ref wr_15)]) [0, 1] rfl), (by omega), (by omega), ⟨(by first | omega | rfl | assumption | fail), (by first | omega | rfl | assumption | fail), (by first | omega | rfl | assumption | fail), (by first | omega | rfl | assumption | fail), (by first | assumption | fail | omega)⟩⟩⟩ rfl rfl hl.1 rfl (lv_room (Nat.le_of_ble_eq_true rfl)) dX0_quoted_88 ⟨by rw [hRc]; omega, by rw [hRs]; omega⟩) hh_15.1 (fun q _ h => h) (fun q h => h) (fun u_152 t_152 H_152 locs_152 ht_152 hvm_152 hr_153 hb_152 hz_152 hk_152 hS_152 => ?_)
              obtain ⟨qc_152, qa_152, m_qa_152, G_152⟩ := u_152
              rw [ht_152] at hb_152
              simp only at hb_152
              obtain ⟨⟨hb_1521, hb_1522, hb_1523, hb_1524, hb_1525, hb_1526⟩, hgq_152_0, hN_152, hbO_152⟩ := hb_152
              have hh_152 : jSt (dC, dI) B base G0 G_152 EX0_quotedu9 s.heap (zcx_15 + ((m_qa_152 - m_wr_15) / 16)) (zsx_15 + (2 * (m_qa_152 - m_wr_15))) [(r0, 2, 1, .int qc_152), (r0, 2, 0, .ref qa_152)] [] [] H_152 locs_152 := (hh_15.callG hb_1521 hb_1522 hb_1523 hb_1524 hb_1525 hS_152 rfl (L1 := []) [] rfl rfl (M1 := []) [] rfl rfl (I1 := []) [] rfl rfl).more hb_1526
              have hNn_152 : (jNk [0, 1, 2, 3, 4, 5, 6, 7, 8, 9, 10, 11, 12, 13, 14, 15, 16, 17, 175]) G0 G_152 := (hN_15).tr hN_152
              have hg_154 := hb_1522 _ _ hg_16
              have hg_155 := hb_1522 _ _ hg_17
              have hd_156 := jOw.tr (hh_15.iv 0 rfl) hh_15.2.2.2.2.1 hbO_152
              have hh_157 := hh_152.addI (jOw.ie (dC := dC) (dI := dI) (G0 := G0) (k := 2) (r := r0) (H0 := s.heap) (F := [(2, 0), (2, 1)]) (C := RX0) (T := TX0) (N := 2) rfl (by decide) hh_152.2.2.2.2.1 (hd_156))
              clear hh_152
              try simp only at hr_153
              obtain ⟨hr_153_0, hr_153_1, hr_153_2, hr_153_3, hr_153_4⟩ := hr_153
              have hh_158 := hh_157.wk (zc1 := (m_qa_152 - n_pa) / 16) (zs1 := 2 * (m_qa_152 - n_pa)) (by omega) (by omega)
              clear hh_157
              try clear hsz_152 htt_152 hrc_152 hrs_152
              try clear hb_1524 hb_1525
              refine lv_goto (tgt := 208) hx hb dX0_quoted_91 (by decide) ?_
              obtain ⟨z_159, ez_159⟩ : ∃ y : Int32, y = z_145 + 1 := ⟨_, rfl⟩
              refine lv_iinc (v := z_159) (lv' := [(5, .int z_159), (6, .int z_27), (0, .ref r0), (1, .ref r1), (2, .int a2), (3, .int a3), (4, .int z_12)]) hx hb dX0_quoted_208 hl (k := 0) rfl (by rw [ez_159]; rfl) (by decide) rfl (fun ls hl => ?_)
              have hz_159 : z_159.toInt = z_145.toInt + 1 := by rw [ez_159]; exact jb_iadd2 (rfl) (by decide) (by omega)
              refine lv_goto (tgt := 23) hx hb dX0_quoted_211 (by decide) ?_
              refine W.tight (c2 := ((m_qa_152 - n_pa) / 16)) (n2 := (2 * (m_qa_152 - n_pa))) hh_158.2.2.2.2.2.1 hh_158.2.2.2.2.2.2.1 ?_
              exact L23 G_152 ((m_qa_152 - n_pa) / 16) (2 * (m_qa_152 - n_pa)) z_159 qc_152 qa_152 m_qa_152 _ _ hh_158 (hNn_152) ((hle_15).tr hb_1522) hgq_152_0 (⟨(by first | omega | rfl | assumption | fail), (by first | omega | rfl | assumption | fail), (by first | omega | rfl | assumption | fail), (by first | omega | rfl | assumption | fail), (by first | assumption | fail | omega), (by first | omega | rfl | assumption | fail), (by first | omega | rfl | assumption | fail), (by first | omega | rfl | assumption | fail), (by first | omega | rfl | assumption | fail)⟩) (by omega) _ (lv_sub hl [2, 3, 4, 5, 6, 0] rfl)
  refine W.tight (c2 := ((m_qa_2 - n_pa) / 16)) (n2 := (2 * (m_qa_2 - n_pa))) hh_8.2.2.2.2.2.1 hh_8.2.2.2.2.2.2.1 ?_
  exact L23 (((z_12.toInt - (z_14 : Int32).toInt).toNat : Int) : Int).toNat.succ G_2 ((m_qa_2 - n_pa) / 16) (2 * (m_qa_2 - n_pa)) z_14 qc_2 qa_2 m_qa_2 _ _ hh_8 (hNn_2) (jLe.rf) hgq_2_0 (⟨(by first | omega | rfl | assumption | fail), (by first | omega | rfl | assumption | fail), (by first | omega | rfl | assumption | fail), (by first | omega | rfl | assumption | fail), (by first | assumption | fail | omega), (by first | omega | rfl | assumption | fail), (by first | omega | rfl | assumption | fail), (by first | omega | rfl | assumption | fail), (by first | omega | rfl | assumption | fail)⟩) (by omega) _ (lv_sub hl [2, 3, 4, 5, 1, 0] rfl)
end
