theorem dX6_write_0 : decode cX6_write 0 = .ok (.iload_n 1, 1) := by decide +kernel
theorem dX6_write_1 : decode cX6_write 1 = .ok (.ifCond .lt 11, 3) := by decide +kernel
theorem dX6_write_4 : decode cX6_write 4 = .ok (.iload_n 1, 1) := by decide +kernel
theorem dX6_write_5 : decode cX6_write 5 = .ok (.aload_n 0, 1) := by decide +kernel
theorem dX6_write_6 : decode cX6_write 6 = .ok (.getfield 52, 3) := by decide +kernel
theorem dX6_write_9 : decode cX6_write 9 = .ok (.if_icmp .lt 4, 3) := by decide +kernel
theorem dX6_write_12 : decode cX6_write 12 = .ok (.return_, 1) := by decide +kernel
theorem dX6_write_13 : decode cX6_write 13 = .ok (.aload_n 0, 1) := by decide +kernel
theorem dX6_write_14 : decode cX6_write 14 = .ok (.getfield 11, 3) := by decide +kernel
theorem dX6_write_17 : decode cX6_write 17 = .ok (.iload_n 1, 1) := by decide +kernel
theorem dX6_write_18 : decode cX6_write 18 = .ok (.laload, 1) := by decide +kernel
theorem dX6_write_19 : decode cX6_write 19 = .ok (.lstore 4, 2) := by decide +kernel
theorem dX6_write_21 : decode cX6_write 21 = .ok (.lload 4, 2) := by decide +kernel
theorem dX6_write_23 : decode cX6_write 23 = .ok (.lconst 1, 1) := by decide +kernel
theorem dX6_write_24 : decode cX6_write 24 = .ok (.lcmp, 1) := by decide +kernel
theorem dX6_write_25 : decode cX6_write 25 = .ok (.ifCond .le 29, 3) := by decide +kernel
theorem dX6_write_28 : decode cX6_write 28 = .ok (.aload_n 3, 1) := by decide +kernel
theorem dX6_write_29 : decode cX6_write 29 = .ok (.ldc 56, 2) := by decide +kernel
theorem dX6_write_31 : decode cX6_write 31 = .ok (.lload 4, 2) := by decide +kernel
theorem dX6_write_33 : decode cX6_write 33 = .ok (.ldc2_w 58, 3) := by decide +kernel
theorem dX6_write_36 : decode cX6_write 36 = .ok (.land, 1) := by decide +kernel
theorem dX6_write_37 : decode cX6_write 37 = .ok (.l2i, 1) := by decide +kernel
theorem dX6_write_38 : decode cX6_write 38 = .ok (.invokevirtual 30, 3) := by decide +kernel
theorem dX6_write_41 : decode cX6_write 41 = .ok (.invokevirtual 60, 3) := by decide +kernel
theorem dX6_write_44 : decode cX6_write 44 = .ok (.lload 4, 2) := by decide +kernel
theorem dX6_write_46 : decode cX6_write 46 = .ok (.bipush 6, 2) := by decide +kernel
theorem dX6_write_48 : decode cX6_write 48 = .ok (.lushr, 1) := by decide +kernel
theorem dX6_write_49 : decode cX6_write 49 = .ok (.lstore 4, 2) := by decide +kernel
theorem dX6_write_51 : decode cX6_write 51 = .ok (.goto (-30), 3) := by decide +kernel
theorem dX6_write_54 : decode cX6_write 54 = .ok (.iconst 0, 1) := by decide +kernel
theorem dX6_write_55 : decode cX6_write 55 = .ok (.istore 4, 2) := by decide +kernel
theorem dX6_write_57 : decode cX6_write 57 = .ok (.iload 4, 2) := by decide +kernel
theorem dX6_write_59 : decode cX6_write 59 = .ok (.aload_n 0, 1) := by decide +kernel
theorem dX6_write_60 : decode cX6_write 60 = .ok (.getfield 15, 3) := by decide +kernel
theorem dX6_write_63 : decode cX6_write 63 = .ok (.iload_n 1, 1) := by decide +kernel
theorem dX6_write_64 : decode cX6_write 64 = .ok (.iaload, 1) := by decide +kernel
theorem dX6_write_65 : decode cX6_write 65 = .ok (.iload_n 2, 1) := by decide +kernel
theorem dX6_write_66 : decode cX6_write 66 = .ok (.iadd, 1) := by decide +kernel
theorem dX6_write_67 : decode cX6_write 67 = .ok (.if_icmp .ge 15, 3) := by decide +kernel
theorem dX6_write_70 : decode cX6_write 70 = .ok (.aload_n 3, 1) := by decide +kernel
theorem dX6_write_71 : decode cX6_write 71 = .ok (.bipush 39, 2) := by decide +kernel
theorem dX6_write_73 : decode cX6_write 73 = .ok (.invokevirtual 60, 3) := by decide +kernel
theorem dX6_write_76 : decode cX6_write 76 = .ok (.iinc 4 1, 3) := by decide +kernel
theorem dX6_write_79 : decode cX6_write 79 = .ok (.goto (-22), 3) := by decide +kernel
theorem dX6_write_82 : decode cX6_write 82 = .ok (.return_, 1) := by decide +kernel
def EX6_write : List (Nat × Nat) := [(2, 0), (2, 1), (196, 0)]
def EX0_quoted : List (Nat × Nat) := [(2, 0), (2, 1), (196, 0)]
set_option maxHeartbeats 4000000 in
set_option maxRecDepth 20000 in
theorem uX6_write (l : Launch) (dC : Nat → ClassId) (dI : Nat → Nat → Nat) (ca : Nat → ClassId) (base : Nat) (B : jF) (hB : jBok B) (hAp : jAp (dC, dI)) (hB2 : ∀ n G a H, B 2 n G a H ↔ jOb (dC, dI) 2 2 (F2 n G) a H) (hB8 : ∀ n G a H, B 8 n G a H ↔ jOb (dC, dI) 8 4 (F8 n G) a H) (hB102 : ∀ n G a H, B 102 n G a H ↔ jAl (dC, dI) (ca 2) n a H) (hB132 : ∀ n G a H, B 132 n G a H ↔ jAr (dC, dI) (ca 1) (fun j z => 0 ≤ z.toInt ∧ z.toInt ≤ 10) n a H) (hB196 : ∀ n G a H, B 196 n G a H ↔ jAr (dC, dI) (ca 0) (fun j z => jBf j z) n a H) (G0 : jT) (H0 : Heap) (r0 : Nat) (a1 : Int32) (a2 : Int32) (r3 : Nat) (pc : Int32) (pa : Nat) (n_pa : Nat) (LC LS : Nat) : Met l yX6_write (jw yX6_write cX6_write 6 none) ({ frames := 4, cells := LC - H0.size, slots := LS - jTot H0, locals := 141 }) (va_Pc [.ref r0, .int a1, .int a2, .ref r3] (fun U => U.heap = H0 ∧ jX B base G0 [] H0 ∧ jG dC dI ca base U ∧ G0 r3 = some (2, 0) ∧ G0 r0 = some (8, 0) ∧ G0 pa = some (196, n_pa) ∧ jP (dC, dI) G0 H0 [(r3, 2, 1, .int pc), (r3, 2, 0, .ref pa)] ∧ H0.size + (1048576 - n_pa) / 16 + 1 ≤ LC ∧ jTot H0 + 2 * (1048576 - n_pa) ≤ LS ∧ 0 ≤ pc.toInt ∧ pc.toInt ≤ n_pa ∧ 16 ≤ n_pa ∧ n_pa ≤ 1048576 ∧ jPw n_pa)) (va_Qv (S := Int32 × Nat × Nat × jT) (fun u => 0 ≤ u.1.toInt ∧ u.1.toInt ≤ u.2.2.1 ∧ n_pa ≤ u.2.2.1 ∧ u.2.2.1 ≤ 1048576 ∧ jPw u.2.2.1) (fun u t => jRa (dC, dI) B base G0 u.2.2.2 EX6_write H0 ((u.2.2.1 - n_pa) / 16) (2 * (u.2.2.1 - n_pa)) [(r3, 2, 1, .int u.1), (r3, 2, 0, .ref u.2.1)] t.heap ∧ u.2.2.2 u.2.1 = some (196, u.2.2.1) ∧ (jNk [0, 1, 2, 3, 4, 5, 6, 7, 8, 9, 10, 11, 12, 13, 14, 15, 16]) G0 u.2.2.2 ∧ jOw (dC, dI) G0 2 r3 H0 t.heap) (jA base)) (LC - H0.size) (LS - jTot H0) (jA base) := by
  refine Met.ofW (cc := cX6_write) (maxL := 6) (ret := none) (by decide) rfl ?_
  intro p e s m args below meth c s₁ Bd hml hv
  obtain ⟨rfl, hH0, hX, hG, hg_r3, hg_r0, hg_pa, hP0, hLC0, hLS0, hp0, hp1, hp2, hp3, hp4⟩ := hv
  have hK := hG.1
  have hx := Bd.exec
  have hb := Bd.bytes
  have hr := Bd.returns
  have hts := atoms_spec (ws := (jw yX6_write cX6_write 6 none)) Bd.pre
  have htw : ∀ w ∈ jWl, w.before _ s = true := fun w h => hts w (List.mem_cons_of_mem _ h)
  have hown : s.vm.findClass RX6 = some m.cls := findClass_of_methodNamed Bd.named
  have hlocks := Bd.notSynchronized
  obtain ⟨Q, hQ⟩ : ∃ Q, Q = MQ below (va_Qv (S := Int32 × Nat × Nat × jT) (fun u => 0 ≤ u.1.toInt ∧ u.1.toInt ≤ u.2.2.1 ∧ n_pa ≤ u.2.2.1 ∧ u.2.2.1 ≤ 1048576 ∧ jPw u.2.2.1) (fun u t => jRa (dC, dI) B base G0 u.2.2.2 EX6_write H0 ((u.2.2.1 - n_pa) / 16) (2 * (u.2.2.1 - n_pa)) [(r3, 2, 1, .int u.1), (r3, 2, 0, .ref u.2.1)] t.heap ∧ u.2.2.2 u.2.1 = some (196, u.2.2.1) ∧ (jNk [0, 1, 2, 3, 4, 5, 6, 7, 8, 9, 10, 11, 12, 13, 14, 15, 16]) G0 u.2.2.2 ∧ jOw (dC, dI) G0 2 r3 H0 t.heap) (jA base)) ([.ref r0, .int a1, .int a2, .ref r3] : List Value).toArray s (LC - H0.size) (LS - jTot H0) (jA base) := ⟨_, rfl⟩
  rw [← hQ]
  have hl := lv_entry ([.ref r0, .int a1, .int a2, .ref r3]) (n := 6) (Nat.le_of_ble_eq_true rfl)
  rw [lg_entry_eq]
  generalize (lg_sl ([.ref r0, .int a1, .int a2, .ref r3]) ++ List.replicate (6 - (lg_sl ([.ref r0, .int a1, .int a2, .ref r3])).length) Slot.unset).toArray = ls at hl ⊢
  have hl : lv_has ls 6 [(0, .ref r0), (1, .int a1), (2, .int a2), (3, .ref r3)] := hl
  generalize hR : (headSpec (jw yX6_write cX6_write 6 none) ({ frames := 4, cells := LC - H0.size, slots := LS - jTot H0, locals := 141 })).room = R
  subst hH0
  have hh : jSt (dC, dI) B base G0 G0 EX6_write s.heap 0 0 [(r3, 2, 1, .int pc), (r3, 2, 0, .ref pa)] [] [] s.heap [] := jSt.start hX hP0 jMc.nil jIs.nil
  clear hX hP0
  have hk0 : (0 : Int32).toInt = 0 := by decide
  have hk1 : (1 : Int32).toInt = 1 := by decide
  have hk6 : (6 : Int32).toInt = 6 := by decide
  have hk39 : (39 : Int32).toInt = 39 := by decide
  have hly_8_0 := htw (u_lay RX6 TX6 0) (jWc_wsX60 _ (u_in_lay (by decide)))
  have hly_8_1 := htw (u_lay RX6 TX6 1) (jWc_wsX60 _ (u_in_lay (by decide)))
  have hly_8_3 := htw (u_lay RX6 TX6 3) (jWc_wsX60 _ (u_in_lay (by decide)))
  have hlk_52 := (htw (.fieldLink RX6 52 "ProofServer$Names" "count" "I") (jWr_8 _ (List.mem_of_getElem? (i := 3) rfl)))
  have hlk_11 := (htw (.fieldLink RX6 11 "ProofServer$Names" "stems" "[J") (jWr_5 _ (List.mem_of_getElem? (i := 9) rfl)))
  obtain ⟨str56, rstr56, hstr560⟩ := hG.str (o := RX6) (k := 56) (tx := "abcdefghijklmnopqrstuvwxyzABCDEFGHIJKLMNOPQRSTUVWXYZ0123456789_'") (List.mem_of_getElem? (i := 987) (by decide +kernel))
  have hstr56 : jStr base str56 64 s s.heap := hstr560
  have hlk_15 := (htw (.fieldLink RX6 15 "ProofServer$Names" "primes" "[I") (jWr_5 _ (List.mem_of_getElem? (i := 10) rfl)))
  have hrg_a1 := jb_rng a1
  have hrg_a2 := jb_rng a2
  have hbs : base ≤ s.heap.size := Nat.le_of_lt (Nat.lt_of_le_of_lt (hh.ab hg_r0).1 (hh.ab hg_r0).2)
  have hRc : R.cells = LC - s.heap.size := by rw [← hR]; rfl
  have hRs : R.slots = LS - jTot s.heap := by rw [← hR]; rfl
  have hh_1 := hh.addI (jOw.ie (dC := dC) (dI := dI) (G0 := G0) (k := 2) (r := r3) (H0 := s.heap) (F := [(2, 0), (2, 1)]) (C := RX0) (T := TX0) (N := 2) rfl (by decide) hh.2.2.2.2.1 (jOw.rf))
  clear hh
  refine lv_iload_n hx hb dX6_write_0 rfl (lv_at hl 1 rfl) ?_
  refine lv_if_lt (tgt := 12) hx hb dX6_write_1 (by decide) (fun c_2 => ?_) (fun c_2 => ?_)
  · skip
    have c_2' : a1.toInt < 0 := jb_lt (rfl) ((by decide)) c_2
    have hsz_3 := hh_1.2.2.2.2.2.1
    have htt_3 := hh_1.2.2.2.2.2.2.1
    refine W.room (fun hrc_3 hrs_3 => ?_)
    refine W.widen (k := LC - s.heap.size) (n := LS - jTot s.heap) (by omega) (by omega) ?_
    rw [hQ]
    exact W.vret hx hb hr (fun t ht hW => ⟨⟨(pc, pa, n_pa, G0), rfl, by (try dsimp only); exact ⟨(by first | omega | rfl | assumption | fail), (by first | omega | rfl | assumption | fail), (by first | omega | rfl | assumption | fail), (by first | omega | rfl | assumption | fail), (by first | assumption | fail | omega)⟩, ⟨hh_1.ra (by first | omega | (simp only; omega)) (by first | omega | (simp only; omega)) (M1 := [(r3, 2, 1, .int pc), (r3, 2, 0, .ref pa)]) [0, 1] rfl ht, hg_pa, jNk.rf, by rw [ht]; exact hh_1.iv 0 rfl⟩⟩, by rw [ht]; try exact hh_1.1.1, fun q h9 hq => by rw [ht]; try exact hh_1.1.2.1 q h9 hq⟩) hh_1.1.2.2 dX6_write_12
  · skip
    have c_2' : a1.toInt ≥ 0 := jb_lt_n (rfl) ((by decide)) c_2
    refine lv_iload_n hx hb dX6_write_4 rfl (lv_at hl 1 rfl) ?_
    refine lv_aload_n hx hb dX6_write_5 rfl (lv_at hl 0 rfl) ?_
    obtain ⟨v_4, hv_4, hh_5⟩ := hh_1.pin (C := RX6) (T := TX6) (N := 4) hB8 rfl (by decide) hg_r0 (i := 3) (by decide) rfl
    clear hh_1
    obtain ⟨count_6, rfl, hlocount_6, hhicount_6⟩ := hv_4
    refine j7_read hx hb hown hK (C := RX6) (T := TX6) (N := 4) rfl hly_8_3 hlk_52 (hh_5.at 0 rfl) dX6_write_6 ?_
    refine lv_icmp_lt (tgt := 13) hx hb dX6_write_9 (by decide) (fun c_7 => ?_) (fun c_7 => ?_)
    · skip
      have c_7' : a1.toInt < count_6.toInt := jb_lt (rfl) (rfl) c_7
      refine lv_aload_n hx hb dX6_write_13 rfl (lv_at hl 0 rfl) ?_
      obtain ⟨v_8, hv_8, hh_9⟩ := hh_5.pin (C := RX6) (T := TX6) (N := 4) hB8 rfl (by decide) hg_r0 (i := 0) (by decide) rfl
      clear hh_5
      obtain ⟨stems_10, rfl, hg_stems_10⟩ := hv_8
      refine j7_read hx hb hown hK (C := RX6) (T := TX6) (N := 4) rfl hly_8_0 hlk_11 (hh_9.at 0 rfl) dX6_write_14 ?_
      refine lv_iload_n hx hb dX6_write_17 rfl (lv_at hl 1 rfl) ?_
      refine j7_lald hx hb hK hh_9 hB102 2 rfl (by decide) hg_stems_10 (x := a1.toInt) (rfl) (by omega) dX6_write_18 (fun z_11 => ?_)
      refine lv_lstore (lv' := [(4, .long z_11), (0, .ref r0), (1, .int a1), (2, .int a2), (3, .ref r3)]) hx hb dX6_write_19 hl (by decide) rfl (fun ls hl => ?_)
      have L21 : ∀ (N : Nat) (Gx_12 : jT) (zcx_12 : Nat) (zsx_12 : Nat) (v4_12 : Int64) (wc_12 : Int32) (wr_12 : Nat) (m_wr_12 : Nat) (H_12 : Heap) (locs_12 : List Loc), jSt (dC, dI) B base G0 Gx_12 EX6_write s.heap zcx_12 zsx_12 [(r3, 2, 1, .int wc_12), (r3, 2, 0, .ref wr_12), (r0, 8, 0, .ref stems_10), (r0, 8, 3, .int count_6)] [] [([(2, 0), (2, 1)], jOw (dC, dI) G0 2 r3 s.heap)] H_12 locs_12 → (jNk [0, 1, 2, 3, 4, 5, 6, 7, 8, 9, 10, 11, 12, 13, 14, 15, 16]) G0 Gx_12 → jLe G0 Gx_12 → Gx_12 wr_12 = some (196, m_wr_12) → (0 ≤ wc_12.toInt ∧ wc_12.toInt ≤ m_wr_12 ∧ n_pa ≤ m_wr_12 ∧ m_wr_12 ≤ 1048576 ∧ jPw m_wr_12 ∧ zcx_12 ≤ (m_wr_12 - n_pa) / 16 ∧ zsx_12 ≤ 2 * (m_wr_12 - n_pa)) → (((v4_12.toInt).toNat : Int) : Int) < N → ∀ ls : Array Slot, lv_has ls 6 [(0, .ref r0), (1, .int a1), (2, .int a2), (3, .ref r3), (4, .long v4_12)] → W p l e R s m ([.ref r0, .int a1, .int a2, .ref r3] : List Value).toArray below meth c H_12 locs_12 zcx_12 zsx_12 Q (F0 m 21 ls []) := by
        intro N
        induction N with
        | zero => intro Gx_12 zcx_12 zsx_12 v4_12 wc_12 wr_12 m_wr_12 H_12 locs_12 hh_12 hN_12 hle_12 hg_wr_12 hi_12 hm; exact absurd hm (by omega)
        | succ N L21 =>
          intro Gx_12 zcx_12 zsx_12 v4_12 wc_12 wr_12 m_wr_12 H_12 locs_12 hh_12 hN_12 hle_12 hg_wr_12 hi_12 hm_12 ls hl
          have hg_13 := hle_12 _ _ hg_r0
          have hg_14 := hle_12 _ _ hg_r3
          have hg_15 := hle_12 _ _ hg_stems_10
          obtain ⟨hi_12_0, hi_12_1, hi_12_2, hi_12_3, hi_12_4, hi_12_5, hi_12_6⟩ := hi_12
          refine lv_lload hx hb dX6_write_21 (lv_at hl 4 rfl) ?_
          refine lv_lconst (v := 1) hx hb dX6_write_23 (by decide) ?_
          refine W.lcmp hx hb dX6_write_24 ?_
          refine lv_topi (fun z_16 ez_16 => ?_)
          have hz_16 := jb_lcmp ez_16
          have hqz_16_1 : (1 : Int64).toInt = 1 := by decide
          refine lv_if_le (tgt := 54) hx hb dX6_write_25 (by decide) (fun c_17 => ?_) (fun c_17 => ?_)
          · skip
            have c_17' : z_16.toInt ≤ 0 := jb_le (rfl) ((by decide)) c_17
            refine lv_iconst (v := 0) hx hb dX6_write_54 (by decide) ?_
            refine lv_istore (lv' := [(4, .int 0), (0, .ref r0), (1, .int a1), (2, .int a2), (3, .ref r3)]) hx hb dX6_write_55 hl (by decide) rfl (fun ls hl => ?_)
            have L57 : ∀ (N : Nat) (Gx_18 : jT) (zcx_18 : Nat) (zsx_18 : Nat) (v4_18 : Int32) (wc_18 : Int32) (wr_18 : Nat) (m_wr_18 : Nat) (H_18 : Heap) (locs_18 : List Loc), jSt (dC, dI) B base G0 Gx_18 EX6_write s.heap zcx_18 zsx_18 [(r3, 2, 1, .int wc_18), (r3, 2, 0, .ref wr_18), (r0, 8, 0, .ref stems_10), (r0, 8, 3, .int count_6)] [] [([(2, 0), (2, 1)], jOw (dC, dI) G0 2 r3 s.heap)] H_18 locs_18 → (jNk [0, 1, 2, 3, 4, 5, 6, 7, 8, 9, 10, 11, 12, 13, 14, 15, 16]) G0 Gx_18 → jLe Gx_12 Gx_18 → Gx_18 wr_18 = some (196, m_wr_18) → (0 ≤ wc_18.toInt ∧ wc_18.toInt ≤ m_wr_18 ∧ n_pa ≤ m_wr_18 ∧ m_wr_18 ≤ 1048576 ∧ jPw m_wr_18 ∧ zcx_18 ≤ (m_wr_18 - n_pa) / 16 ∧ zsx_18 ≤ 2 * (m_wr_18 - n_pa) ∧ 0 ≤ v4_18.toInt) → (2147483648 - v4_18.toInt : Int) < N → ∀ ls : Array Slot, lv_has ls 6 [(0, .ref r0), (1, .int a1), (2, .int a2), (3, .ref r3), (4, .int v4_18)] → W p l e R s m ([.ref r0, .int a1, .int a2, .ref r3] : List Value).toArray below meth c H_18 locs_18 zcx_18 zsx_18 Q (F0 m 57 ls []) := by
              intro N
              induction N with
              | zero => intro Gx_18 zcx_18 zsx_18 v4_18 wc_18 wr_18 m_wr_18 H_18 locs_18 hh_18 hN_18 hle_18 hg_wr_18 hi_18 hm; exact absurd hm (by omega)
              | succ N L57 =>
                intro Gx_18 zcx_18 zsx_18 v4_18 wc_18 wr_18 m_wr_18 H_18 locs_18 hh_18 hN_18 hle_18 hg_wr_18 hi_18 hm_18 ls hl
                have hg_19 := hle_18 _ _ hg_13
                have hg_20 := hle_18 _ _ hg_14
                have hg_21 := hle_18 _ _ hg_15
                obtain ⟨hi_18_0, hi_18_1, hi_18_2, hi_18_3, hi_18_4, hi_18_5, hi_18_6, hi_18_7⟩ := hi_18
                refine lv_iload hx hb dX6_write_57 (lv_at hl 4 rfl) ?_
                refine lv_aload_n hx hb dX6_write_59 rfl (lv_at hl 0 rfl) ?_
                obtain ⟨v_22, hv_22, hh_23⟩ := hh_18.pin (C := RX6) (T := TX6) (N := 4) hB8 rfl (by decide) hg_19 (i := 1) (by decide) rfl
                clear hh_18
                obtain ⟨primes_24, rfl, hg_primes_24⟩ := hv_22
                refine j7_read hx hb hown hK (C := RX6) (T := TX6) (N := 4) rfl hly_8_1 hlk_15 (hh_23.at 0 rfl) dX6_write_60 ?_
                refine lv_iload_n hx hb dX6_write_63 rfl (lv_at hl 1 rfl) ?_
                refine j7_iald hx hb hK hh_23 hB132 1 rfl (by decide) hg_primes_24 (x := a1.toInt) (rfl) (by omega) dX6_write_64 (fun z_25 (hz_25 : 0 ≤ z_25.toInt ∧ z_25.toInt ≤ 10) => ?_)
                refine lv_iload_n hx hb dX6_write_65 rfl (lv_at hl 2 rfl) ?_
                refine lv_iadd hx hb dX6_write_66 ?_
                refine lv_topi (fun z_26 ez_26 => ?_)
                refine lv_icmp_ge (tgt := 82) hx hb dX6_write_67 (by decide) (fun c_27 => ?_) (fun c_27 => ?_)
                · skip
                  have c_27' : v4_18.toInt ≥ z_26.toInt := jb_ge (rfl) (rfl) c_27
                  have hsz_28 := hh_23.2.2.2.2.2.1
                  have htt_28 := hh_23.2.2.2.2.2.2.1
                  refine W.room (fun hrc_28 hrs_28 => ?_)
                  refine W.widen (k := LC - s.heap.size) (n := LS - jTot s.heap) (by omega) (by omega) ?_
                  rw [hQ]
                  exact W.vret hx hb hr (fun t ht hW => ⟨⟨(wc_18, wr_18, m_wr_18, Gx_18), rfl, by (try dsimp only); exact ⟨(by first | omega | rfl | assumption | fail), (by first | omega | rfl | assumption | fail), (by first | omega | rfl | assumption | fail), (by first | omega | rfl | assumption | fail), (by first | assumption | fail | omega)⟩, ⟨hh_23.ra (by first | omega | (simp only; omega)) (by first | omega | (simp only; omega)) (M1 := [(r3, 2, 1, .int wc_18), (r3, 2, 0, .ref wr_18)]) [1, 2] rfl ht, hg_wr_18, hN_18, by rw [ht]; exact hh_23.iv 0 rfl⟩⟩, by rw [ht]; try exact hh_23.1.1, fun q h9 hq => by rw [ht]; try exact hh_23.1.2.1 q h9 hq⟩) hh_23.1.2.2 dX6_write_82
                · skip
                  have c_27' : v4_18.toInt < z_26.toInt := jb_ge_n (rfl) (rfl) c_27
                  refine lv_aload_n hx hb dX6_write_70 rfl (lv_at hl 3 rfl) ?_
                  refine lv_bipush (v := 39) hx hb dX6_write_71 (by decide) ?_
                  have hsz_29 := hh_23.2.2.2.2.2.1
                  have htt_29 := hh_23.2.2.2.2.2.2.1
                  refine W.room (fun hrc_29 hrs_29 => ?_)
                  refine va_callv (A0 := jA base) (H0 := s.heap) (va_runV (As := [.int 39]) (rest := []) ⟨hx, hb, hml, hown, hts⟩ (uX0_put l dC dI ca base B hB hAp hB2 hB196 Gx_18 H_18 r3 39 wc_18 wr_18 m_wr_18 LC LS) (cwV 1 hts (jgV (jWr_31 _ (List.mem_of_getElem? (i := 22) rfl)) (jWr_16 _ (List.mem_of_getElem? (i := 0) rfl)) (jWr_16 _ (List.mem_of_getElem? (i := 1) rfl)) (jWr_1 _ (List.mem_of_getElem? (i := 14) rfl)) (jWr_16 _ (List.mem_of_getElem? (i := 2) rfl))) rfl rfl rfl (by decide +kernel) ⟨by rw [← hR]; exact Nat.le_of_ble_eq_true rfl, by rw [← hR]; exact Nat.le_of_ble_eq_true rfl⟩) ⟨fun a U g mk q => by obtain ⟨q0, q1, q2, qK, q10, q11, q12, q13⟩ := q; exact ⟨q0, q1, q2, jG.calling g mk a qK, q10, q11, q12, q13⟩, hh_23.recv (C := RX0) (T := TX0) (N := 2) hB2 rfl (by decide) hg_20 hK, fun U hU hW => ⟨rfl, hU, hh_23.2.1, hG.step hW hU hh_23.1, hg_20, hg_wr_18, (hh_23.2.2.1.sub (L1 := [(r3, 2, 1, .int wc_18), (r3, 2, 0, .ref wr_18)]) [1, 2] rfl), by first | omega | (refine ⟨?_, ?_, ?_, ?_, ?_⟩ <;> (first | omega | rfl | assumption | decide | exact Or.inl rfl | exact Or.inr rfl | (simp only; omega)))⟩⟩ rfl rfl hl.1 rfl (lv_room (Nat.le_of_ble_eq_true rfl)) dX6_write_73 ⟨by rw [hRc]; omega, by rw [hRs]; omega⟩) hh_23.1 (fun q _ h => h) (fun q h => h) (fun u_29 t_29 H_29 locs_29 ht_29 hvm_29 hr_30 hb_29 hz_29 hk_29 hS_29 => ?_)
                  obtain ⟨qc_29, qa_29, m_qa_29, G_29⟩ := u_29
                  rw [ht_29] at hb_29
                  simp only at hb_29
                  obtain ⟨⟨hb_291, hb_292, hb_293, hb_294, hb_295, hb_296⟩, hgq_29_0, hN_29, hbO_29⟩ := hb_29
                  have hh_29 : jSt (dC, dI) B base G0 G_29 EX6_write s.heap (zcx_18 + ((m_qa_29 - m_wr_18) / 16)) (zsx_18 + (2 * (m_qa_29 - m_wr_18))) [(r3, 2, 1, .int qc_29), (r3, 2, 0, .ref qa_29), (r0, 8, 1, .ref primes_24), (r0, 8, 0, .ref stems_10), (r0, 8, 3, .int count_6)] [] [] H_29 locs_29 := (hh_23.callG hb_291 hb_292 hb_293 hb_294 hb_295 hS_29 rfl (L1 := [(r0, 8, 1, .ref primes_24), (r0, 8, 0, .ref stems_10), (r0, 8, 3, .int count_6)]) [0, 3, 4] rfl rfl (M1 := []) [] rfl rfl (I1 := []) [] rfl rfl).more hb_296
                  have hNn_29 : (jNk [0, 1, 2, 3, 4, 5, 6, 7, 8, 9, 10, 11, 12, 13, 14, 15, 16]) G0 G_29 := (hN_18).tr hN_29
                  have hg_31 := hb_292 _ _ hg_19
                  have hg_32 := hb_292 _ _ hg_20
                  have hg_33 := hb_292 _ _ hg_primes_24
                  have hg_34 := hb_292 _ _ hg_21
                  have hd_35 := jOw.tr (hh_23.iv 0 rfl) hh_23.2.2.2.2.1 hbO_29
                  have hh_36 := hh_29.addI (jOw.ie (dC := dC) (dI := dI) (G0 := G0) (k := 2) (r := r3) (H0 := s.heap) (F := [(2, 0), (2, 1)]) (C := RX0) (T := TX0) (N := 2) rfl (by decide) hh_29.2.2.2.2.1 (hd_35))
                  clear hh_29
                  try simp only at hr_30
                  obtain ⟨hr_30_0, hr_30_1, hr_30_2, hr_30_3, hr_30_4⟩ := hr_30
                  obtain ⟨z_37, ez_37⟩ : ∃ y : Int32, y = v4_18 + 1 := ⟨_, rfl⟩
                  refine lv_iinc (v := z_37) (lv' := [(4, .int z_37), (0, .ref r0), (1, .int a1), (2, .int a2), (3, .ref r3)]) hx hb dX6_write_76 hl (k := 4) rfl (by rw [ez_37]; rfl) (by decide) rfl (fun ls hl => ?_)
                  have hz_37 : z_37.toInt = v4_18.toInt + 1 := by rw [ez_37]; exact jb_iadd2 (rfl) (by decide) (by omega)
                  refine lv_goto (tgt := 57) hx hb dX6_write_79 (by decide) ?_
                  refine W.tight (c2 := (zcx_18 + ((m_qa_29 - m_wr_18) / 16))) (n2 := (zsx_18 + (2 * (m_qa_29 - m_wr_18)))) hh_36.2.2.2.2.2.1 hh_36.2.2.2.2.2.2.1 ?_
                  exact L57 G_29 (zcx_18 + ((m_qa_29 - m_wr_18) / 16)) (zsx_18 + (2 * (m_qa_29 - m_wr_18))) z_37 qc_29 qa_29 m_qa_29 _ _ (hh_36.sub (L1 := [(r3, 2, 1, .int qc_29), (r3, 2, 0, .ref qa_29), (r0, 8, 0, .ref stems_10), (r0, 8, 3, .int count_6)]) [0, 1, 3, 4] rfl (M1 := []) [] rfl (I1 := [([(2, 0), (2, 1)], jOw (dC, dI) G0 2 r3 s.heap)]) [0] rfl) (hNn_29) ((hle_18).tr hb_292) hgq_29_0 (by first | omega | (refine ⟨?_, ?_, ?_, ?_, ?_, ?_, ?_, ?_⟩ <;> (first | omega | rfl | assumption | decide | exact Or.inl rfl | exact Or.inr rfl | (simp only; omega)))) (by omega) _ (lv_sub hl [1, 2, 3, 4, 0] rfl)
            refine W.tight (c2 := zcx_12) (n2 := zsx_12) hh_12.2.2.2.2.2.1 hh_12.2.2.2.2.2.2.1 ?_
            exact L57 (2147483648 - (0 : Int32).toInt : Int).toNat.succ Gx_12 zcx_12 zsx_12 0 wc_12 wr_12 m_wr_12 _ _ hh_12 (hN_12) (jLe.rf) hg_wr_12 (by first | omega | (refine ⟨?_, ?_, ?_, ?_, ?_, ?_, ?_, ?_⟩ <;> (first | omega | rfl | assumption | decide | exact Or.inl rfl | exact Or.inr rfl | (simp only; omega)))) (by omega) _ (lv_sub hl [1, 2, 3, 4, 0] rfl)
          · skip
            have c_17' : z_16.toInt > 0 := jb_le_n (rfl) ((by decide)) c_17
            refine lv_aload_n hx hb dX6_write_28 rfl (lv_at hl 3 rfl) ?_
            refine va_ldcS hx hb hown rstr56 dX6_write_29 ?_
            refine lv_lload hx hb dX6_write_31 (lv_at hl 4 rfl) ?_
            refine lv_ldc2 hx hb hown (htw (.constantLong RX6 58 63) (jWr_31 _ (List.mem_of_getElem? (i := 21) rfl))) dX6_write_33 ?_
            refine lv_land hx hb dX6_write_36 ?_
            refine lv_topl (fun z_38 ez_38 => ?_)
            refine lv_l2i hx hb dX6_write_37 rfl ?_
            refine lv_topi (fun z_39 ez_39 => ?_)
            have hld := jb_land63 (by assumption) (by assumption)
            refine vp_callSi (W.runV (As := [.int z_39]) (rest := [.ref r3]) ⟨hx, hb, hml, hown, hts⟩ (wJ0_charAt_5068e l dC dI ca base H_12 str56 64 z_39) (cwV 1 hts (jgV (jWr_6 _ (List.mem_of_getElem? (i := 0) rfl)) (jWr_6 _ (List.mem_of_getElem? (i := 1) rfl)) (jWr_6 _ (List.mem_of_getElem? (i := 2) rfl)) (jWr_5 _ (List.mem_of_getElem? (i := 15) rfl)) (jWr_6 _ (List.mem_of_getElem? (i := 3) rfl))) rfl rfl rfl (by decide +kernel) ⟨by rw [← hR]; exact Nat.le_of_ble_eq_true rfl, by rw [← hR]; exact Nat.le_of_ble_eq_true rfl⟩) ⟨fun a U g mk q => by obtain ⟨q0, q1, q2, qK, q9⟩ := q; exact ⟨q0, q1, (q2.moved (Vm.Alike.refl U.vm)), jG.calling g mk a qK, q9⟩, jStr_recv hstr56 hh_12.1, fun U hU hW => ⟨rfl, hU, (hstr56.moved hW.alike).kept hh_12.1.2.1, hG.step hW hU hh_12.1, ⟨by omega, by omega, by omega⟩⟩⟩ rfl rfl hl.1 rfl (lv_room (Nat.le_of_ble_eq_true rfl)) dX6_write_38 ⟨Nat.zero_le _, Nat.zero_le _⟩) (fun r_40 hr_40 => ?_)
            have hsz_41 := hh_12.2.2.2.2.2.1
            have htt_41 := hh_12.2.2.2.2.2.2.1
            refine W.room (fun hrc_41 hrs_41 => ?_)
            refine va_callv (A0 := jA base) (H0 := s.heap) (va_runV (As := [.int r_40]) (rest := []) ⟨hx, hb, hml, hown, hts⟩ (uX0_put l dC dI ca base B hB hAp hB2 hB196 Gx_12 H_12 r3 r_40 wc_12 wr_12 m_wr_12 LC LS) (cwV 1 hts (jgV (jWr_31 _ (List.mem_of_getElem? (i := 22) rfl)) (jWr_16 _ (List.mem_of_getElem? (i := 0) rfl)) (jWr_16 _ (List.mem_of_getElem? (i := 1) rfl)) (jWr_1 _ (List.mem_of_getElem? (i := 14) rfl)) (jWr_16 _ (List.mem_of_getElem? (i := 2) rfl))) rfl rfl rfl (by decide +kernel) ⟨by rw [← hR]; exact Nat.le_of_ble_eq_true rfl, by rw [← hR]; exact Nat.le_of_ble_eq_true rfl⟩) ⟨fun a U g mk q => by obtain ⟨q0, q1, q2, qK, q10, q11, q12, q13⟩ := q; exact ⟨q0, q1, q2, jG.calling g mk a qK, q10, q11, q12, q13⟩, hh_12.recv (C := RX0) (T := TX0) (N := 2) hB2 rfl (by decide) hg_14 hK, fun U hU hW => ⟨rfl, hU, hh_12.2.1, hG.step hW hU hh_12.1, hg_14, hg_wr_12, (hh_12.2.2.1.sub (L1 := [(r3, 2, 1, .int wc_12), (r3, 2, 0, .ref wr_12)]) [0, 1] rfl), by first | omega | (refine ⟨?_, ?_, ?_, ?_, ?_⟩ <;> (first | omega | rfl | assumption | decide | exact Or.inl rfl | exact Or.inr rfl | (simp only; omega)))⟩⟩ rfl rfl hl.1 rfl (lv_room (Nat.le_of_ble_eq_true rfl)) dX6_write_41 ⟨by rw [hRc]; omega, by rw [hRs]; omega⟩) hh_12.1 (fun q _ h => h) (fun q h => h) (fun u_41 t_41 H_41 locs_41 ht_41 hvm_41 hr_42 hb_41 hz_41 hk_41 hS_41 => ?_)
            obtain ⟨qc_41, qa_41, m_qa_41, G_41⟩ := u_41
            rw [ht_41] at hb_41
            simp only at hb_41
            obtain ⟨⟨hb_411, hb_412, hb_413, hb_414, hb_415, hb_416⟩, hgq_41_0, hN_41, hbO_41⟩ := hb_41
            have hh_41 : jSt (dC, dI) B base G0 G_41 EX6_write s.heap (zcx_12 + ((m_qa_41 - m_wr_12) / 16)) (zsx_12 + (2 * (m_qa_41 - m_wr_12))) [(r3, 2, 1, .int qc_41), (r3, 2, 0, .ref qa_41), (r0, 8, 0, .ref stems_10), (r0, 8, 3, .int count_6)] [] [] H_41 locs_41 := (hh_12.callG hb_411 hb_412 hb_413 hb_414 hb_415 hS_41 rfl (L1 := [(r0, 8, 0, .ref stems_10), (r0, 8, 3, .int count_6)]) [2, 3] rfl rfl (M1 := []) [] rfl rfl (I1 := []) [] rfl rfl).more hb_416
            have hNn_41 : (jNk [0, 1, 2, 3, 4, 5, 6, 7, 8, 9, 10, 11, 12, 13, 14, 15, 16]) G0 G_41 := (hN_12).tr hN_41
            have hg_43 := hb_412 _ _ hg_13
            have hg_44 := hb_412 _ _ hg_14
            have hg_45 := hb_412 _ _ hg_15
            have hd_46 := jOw.tr (hh_12.iv 0 rfl) hh_12.2.2.2.2.1 hbO_41
            have hh_47 := hh_41.addI (jOw.ie (dC := dC) (dI := dI) (G0 := G0) (k := 2) (r := r3) (H0 := s.heap) (F := [(2, 0), (2, 1)]) (C := RX0) (T := TX0) (N := 2) rfl (by decide) hh_41.2.2.2.2.1 (hd_46))
            clear hh_41
            try simp only at hr_42
            obtain ⟨hr_42_0, hr_42_1, hr_42_2, hr_42_3, hr_42_4⟩ := hr_42
            refine lv_lload hx hb dX6_write_44 (lv_at hl 4 rfl) ?_
            refine lv_bipush (v := 6) hx hb dX6_write_46 (by decide) ?_
            refine lv_lushr hx hb dX6_write_48 rfl ?_
            refine lv_topl (fun z_48 ez_48 => ?_)
            have hls := jb_lush6 (by assumption) (by omega)
            refine lv_lstore (lv' := [(4, .long z_48), (0, .ref r0), (1, .int a1), (2, .int a2), (3, .ref r3)]) hx hb dX6_write_49 hl (by decide) rfl (fun ls hl => ?_)
            refine lv_goto (tgt := 21) hx hb dX6_write_51 (by decide) ?_
            refine W.tight (c2 := (zcx_12 + ((m_qa_41 - m_wr_12) / 16))) (n2 := (zsx_12 + (2 * (m_qa_41 - m_wr_12)))) hh_47.2.2.2.2.2.1 hh_47.2.2.2.2.2.2.1 ?_
            exact L21 G_41 (zcx_12 + ((m_qa_41 - m_wr_12) / 16)) (zsx_12 + (2 * (m_qa_41 - m_wr_12))) z_48 qc_41 qa_41 m_qa_41 _ _ hh_47 (hNn_41) ((hle_12).tr hb_412) hgq_41_0 (by first | omega | (refine ⟨?_, ?_, ?_, ?_, ?_, ?_, ?_⟩ <;> (first | omega | rfl | assumption | decide | exact Or.inl rfl | exact Or.inr rfl | (simp only; omega)))) (by omega) _ (lv_sub hl [1, 2, 3, 4, 0] rfl)
      refine W.tight (c2 := 0) (n2 := 0) hh_9.2.2.2.2.2.1 hh_9.2.2.2.2.2.2.1 ?_
      exact L21 ((((z_11 : Int64).toInt).toNat : Int) : Int).toNat.succ G0 0 0 z_11 pc pa n_pa _ _ (hh_9.sub (L1 := [(r3, 2, 1, .int pc), (r3, 2, 0, .ref pa), (r0, 8, 0, .ref stems_10), (r0, 8, 3, .int count_6)]) [2, 3, 0, 1] rfl (M1 := []) [] rfl (I1 := [([(2, 0), (2, 1)], jOw (dC, dI) G0 2 r3 s.heap)]) [0] rfl) (jNk.rf) (jLe.rf) hg_pa (by first | omega | (refine ⟨?_, ?_, ?_, ?_, ?_, ?_, ?_⟩ <;> (first | omega | rfl | assumption | decide | exact Or.inl rfl | exact Or.inr rfl | (simp only; omega)))) (by omega) _ (lv_sub hl [1, 2, 3, 4, 0] rfl)
    · skip
      have c_7' : a1.toInt ≥ count_6.toInt := jb_lt_n (rfl) (rfl) c_7
      have hsz_49 := hh_5.2.2.2.2.2.1
      have htt_49 := hh_5.2.2.2.2.2.2.1
      refine W.room (fun hrc_49 hrs_49 => ?_)
      refine W.widen (k := LC - s.heap.size) (n := LS - jTot s.heap) (by omega) (by omega) ?_
      rw [hQ]
      exact W.vret hx hb hr (fun t ht hW => ⟨⟨(pc, pa, n_pa, G0), rfl, by (try dsimp only); exact ⟨(by first | omega | rfl | assumption | fail), (by first | omega | rfl | assumption | fail), (by first | omega | rfl | assumption | fail), (by first | omega | rfl | assumption | fail), (by first | assumption | fail | omega)⟩, ⟨hh_5.ra (by first | omega | (simp only; omega)) (by first | omega | (simp only; omega)) (M1 := [(r3, 2, 1, .int pc), (r3, 2, 0, .ref pa)]) [1, 2] rfl ht, hg_pa, jNk.rf, by rw [ht]; exact hh_5.iv 0 rfl⟩⟩, by rw [ht]; try exact hh_5.1.1, fun q h9 hq => by rw [ht]; try exact hh_5.1.2.1 q h9 hq⟩) hh_5.1.2.2 dX6_write_12
set_option maxHeartbeats 4000000 in
set_option maxRecDepth 20000 in
theorem uX0_quoted (l : Launch) (dC : Nat → ClassId) (dI : Nat → Nat → Nat) (ca : Nat → ClassId) (base : Nat) (B : jF) (hB : jBok B) (hAp : jAp (dC, dI)) (hB2 : ∀ n G a H, B 2 n G a H ↔ jOb (dC, dI) 2 2 (F2 n G) a H) (hB101 : ∀ n G a H, B 101 n G a H ↔ jAr (dC, dI) (ca 1) (fun j z => True) n a H) (hB196 : ∀ n G a H, B 196 n G a H ↔ jAr (dC, dI) (ca 0) (fun j z => jBf j z) n a H) (G0 : jT) (H0 : Heap) (r0 : Nat) (r1 : Nat) (a2 : Int32) (a3 : Int32) (n1 : Nat) (pc : Int32) (pa : Nat) (n_pa : Nat) (LC LS : Nat) : Met l yX0_quoted (jw yX0_quoted cX0_quoted 7 none) ({ frames := 5, cells := LC - H0.size, slots := LS - jTot H0, locals := 163 }) (va_Pc [.ref r0, .ref r1, .int a2, .int a3] (fun U => U.heap = H0 ∧ jX B base G0 [] H0 ∧ jG dC dI ca base U ∧ G0 r0 = some (2, 0) ∧ G0 r1 = some (101, n1) ∧ G0 pa = some (196, n_pa) ∧ jP (dC, dI) G0 H0 [(r0, 2, 1, .int pc), (r0, 2, 0, .ref pa)] ∧ H0.size + (1048576 - n_pa) / 16 + 1 ≤ LC ∧ jTot H0 + 2 * (1048576 - n_pa) ≤ LS ∧ 0 ≤ pc.toInt ∧ pc.toInt ≤ n_pa ∧ 16 ≤ n_pa ∧ n_pa ≤ 1048576 ∧ jPw n_pa ∧ n1 ≤ 3000 ∧ 0 ≤ a2.toInt ∧ a2.toInt ≤ 3000 ∧ 0 ≤ a3.toInt ∧ a3.toInt ≤ 3000)) (va_Qv (S := Int32 × Nat × Nat × jT) (fun u => 0 ≤ u.1.toInt ∧ u.1.toInt ≤ u.2.2.1 ∧ n_pa ≤ u.2.2.1 ∧ u.2.2.1 ≤ 1048576 ∧ jPw u.2.2.1) (fun u t => jRa (dC, dI) B base G0 u.2.2.2 EX0_quoted H0 ((u.2.2.1 - n_pa) / 16) (2 * (u.2.2.1 - n_pa)) [(r0, 2, 1, .int u.1), (r0, 2, 0, .ref u.2.1)] t.heap ∧ u.2.2.2 u.2.1 = some (196, u.2.2.1) ∧ (jNk [0, 1, 2, 3, 4, 5, 6, 7, 8, 9, 10, 11, 12, 13, 14, 15, 16]) G0 u.2.2.2 ∧ jOw (dC, dI) G0 2 r0 H0 t.heap) (jA base)) (LC - H0.size) (LS - jTot H0) (jA base) := by
  refine Met.ofW (cc := cX0_quoted) (maxL := 7) (ret := none) (by decide) rfl ?_
  intro p e s m args below meth c s₁ Bd hml hv
  obtain ⟨rfl, hH0, hX, hG, hg_r0, hg_r1, hg_pa, hP0, hLC0, hLS0, hp0, hp1, hp2, hp3, hp4, hp5, hp6, hp7, hp8, hp9⟩ := hv
  have hK := hG.1
  have hx := Bd.exec
  have hb := Bd.bytes
  have hr := Bd.returns
  have hts := atoms_spec (ws := (jw yX0_quoted cX0_quoted 7 none)) Bd.pre
  have htw : ∀ w ∈ jWl, w.before _ s = true := fun w h => hts w (List.mem_cons_of_mem _ h)
  have hown : s.vm.findClass RX0 = some m.cls := findClass_of_methodNamed Bd.named
  have hlocks := Bd.notSynchronized
  obtain ⟨Q, hQ⟩ : ∃ Q, Q = MQ below (va_Qv (S := Int32 × Nat × Nat × jT) (fun u => 0 ≤ u.1.toInt ∧ u.1.toInt ≤ u.2.2.1 ∧ n_pa ≤ u.2.2.1 ∧ u.2.2.1 ≤ 1048576 ∧ jPw u.2.2.1) (fun u t => jRa (dC, dI) B base G0 u.2.2.2 EX0_quoted H0 ((u.2.2.1 - n_pa) / 16) (2 * (u.2.2.1 - n_pa)) [(r0, 2, 1, .int u.1), (r0, 2, 0, .ref u.2.1)] t.heap ∧ u.2.2.2 u.2.1 = some (196, u.2.2.1) ∧ (jNk [0, 1, 2, 3, 4, 5, 6, 7, 8, 9, 10, 11, 12, 13, 14, 15, 16]) G0 u.2.2.2 ∧ jOw (dC, dI) G0 2 r0 H0 t.heap) (jA base)) ([.ref r0, .ref r1, .int a2, .int a3] : List Value).toArray s (LC - H0.size) (LS - jTot H0) (jA base) := ⟨_, rfl⟩
  rw [← hQ]
  have hl := lv_entry ([.ref r0, .ref r1, .int a2, .int a3]) (n := 7) (Nat.le_of_ble_eq_true rfl)
  rw [lg_entry_eq]
  generalize (lg_sl ([.ref r0, .ref r1, .int a2, .int a3]) ++ List.replicate (7 - (lg_sl ([.ref r0, .ref r1, .int a2, .int a3])).length) Slot.unset).toArray = ls at hl ⊢
  have hl : lv_has ls 7 [(0, .ref r0), (1, .ref r1), (2, .int a2), (3, .int a3)] := hl
  generalize hR : (headSpec (jw yX0_quoted cX0_quoted 7 none) ({ frames := 5, cells := LC - H0.size, slots := LS - jTot H0, locals := 163 })).room = R
  subst hH0
  have hh : jSt (dC, dI) B base G0 G0 EX0_quoted s.heap 0 0 [(r0, 2, 1, .int pc), (r0, 2, 0, .ref pa)] [] [] s.heap [] := jSt.start hX hP0 jMc.nil jIs.nil
  clear hX hP0
  have hk0 : (0 : Int32).toInt = 0 := by decide
  have hk1 : (1 : Int32).toInt = 1 := by decide
  have hk4 : (4 : Int32).toInt = 4 := by decide
  have hk10 : (10 : Int32).toInt = 10 := by decide
  have hk15 : (15 : Int32).toInt = 15 := by decide
  have hk32 : (32 : Int32).toInt = 32 := by decide
  have hk34 : (34 : Int32).toInt = 34 := by decide
  have hk48 : (48 : Int32).toInt = 48 := by decide
  have hk92 : (92 : Int32).toInt = 92 := by decide
  have hk97 : (97 : Int32).toInt = 97 := by decide
  have hk55296 : (55296 : Int32).toInt = 55296 := by decide
  have hk56320 : (56320 : Int32).toInt = 56320 := by decide
  have hk65533 : (65533 : Int32).toInt = 65533 := by decide
  have hk65536 : (65536 : Int32).toInt = 65536 := by decide
  have hcs_60 := htw (.constant RX0 60 65536) (jWr_20 _ (List.mem_of_getElem? (i := 15) rfl))
  have hcs_61 := htw (.constant RX0 61 55296) (jWr_20 _ (List.mem_of_getElem? (i := 17) rfl))
  have hcs_62 := htw (.constant RX0 62 56320) (jWr_21 _ (List.mem_of_getElem? (i := 12) rfl))
  have hcs_66 := htw (.constant RX0 66 65533) (jWr_25 _ (List.mem_of_getElem? (i := 14) rfl))
  obtain ⟨str67, rstr67, hstr670⟩ := hG.str (o := RX0) (k := 67) (tx := "\\u00") (List.mem_of_getElem? (i := 790) (by decide +kernel))
  have hstr67 : jStr base str67 4 s s.heap := hstr670
  have hrg_a2 := jb_rng a2
  have hrg_a3 := jb_rng a3
  have hbs : base ≤ s.heap.size := Nat.le_of_lt (Nat.lt_of_le_of_lt (hh.ab hg_r0).1 (hh.ab hg_r0).2)
  have hRc : R.cells = LC - s.heap.size := by rw [← hR]; rfl
  have hRs : R.slots = LS - jTot s.heap := by rw [← hR]; rfl
  have hh_1 := hh.addI (jOw.ie (dC := dC) (dI := dI) (G0 := G0) (k := 2) (r := r0) (H0 := s.heap) (F := [(2, 0), (2, 1)]) (C := RX0) (T := TX0) (N := 2) rfl (by decide) hh.2.2.2.2.1 (jOw.rf))
  clear hh
  refine lv_aload_n hx hb dX0_quoted_0 rfl (lv_at hl 0 rfl) ?_
  refine lv_bipush (v := 34) hx hb dX0_quoted_1 (by decide) ?_
  have hsz_2 := hh_1.2.2.2.2.2.1
  have htt_2 := hh_1.2.2.2.2.2.2.1
  refine W.room (fun hrc_2 hrs_2 => ?_)
  refine va_callv (A0 := jA base) (H0 := s.heap) (va_runV (As := [.int 34]) (rest := []) ⟨hx, hb, hml, hown, hts⟩ (uX0_put l dC dI ca base B hB hAp hB2 hB196 G0 s.heap r0 34 pc pa n_pa LC LS) (cwV 1 hts (jgV (jWr_24 _ (List.mem_of_getElem? (i := 22) rfl)) (jWr_16 _ (List.mem_of_getElem? (i := 0) rfl)) (jWr_16 _ (List.mem_of_getElem? (i := 1) rfl)) (jWr_1 _ (List.mem_of_getElem? (i := 14) rfl)) (jWr_16 _ (List.mem_of_getElem? (i := 2) rfl))) rfl rfl rfl (by decide +kernel) ⟨by rw [← hR]; exact Nat.le_of_ble_eq_true rfl, by rw [← hR]; exact Nat.le_of_ble_eq_true rfl⟩) ⟨fun a U g mk q => by obtain ⟨q0, q1, q2, qK, q10, q11, q12, q13⟩ := q; exact ⟨q0, q1, q2, jG.calling g mk a qK, q10, q11, q12, q13⟩, hh_1.recv (C := RX0) (T := TX0) (N := 2) hB2 rfl (by decide) hg_r0 hK, fun U hU hW => ⟨rfl, hU, hh_1.2.1, hG.step hW hU hh_1.1, hg_r0, hg_pa, (hh_1.2.2.1.sub (L1 := [(r0, 2, 1, .int pc), (r0, 2, 0, .ref pa)]) [0, 1] rfl), by first | omega | (refine ⟨?_, ?_, ?_, ?_, ?_⟩ <;> (first | omega | rfl | assumption | decide | exact Or.inl rfl | exact Or.inr rfl | (simp only; omega)))⟩⟩ rfl rfl hl.1 rfl (lv_room (Nat.le_of_ble_eq_true rfl)) dX0_quoted_3 ⟨by rw [hRc]; omega, by rw [hRs]; omega⟩) hh_1.1 (fun q _ h => h) (fun q h => h) (fun u_2 t_2 H_2 locs_2 ht_2 hvm_2 hr_3 hb_2 hz_2 hk_2 hS_2 => ?_)
  obtain ⟨qc_2, qa_2, m_qa_2, G_2⟩ := u_2
  rw [ht_2] at hb_2
  simp only at hb_2
  obtain ⟨⟨hb_21, hb_22, hb_23, hb_24, hb_25, hb_26⟩, hgq_2_0, hN_2, hbO_2⟩ := hb_2
  have hh_2 : jSt (dC, dI) B base G0 G_2 EX0_quoted s.heap (0 + ((m_qa_2 - n_pa) / 16)) (0 + (2 * (m_qa_2 - n_pa))) [(r0, 2, 1, .int qc_2), (r0, 2, 0, .ref qa_2)] [] [] H_2 locs_2 := (hh_1.callG hb_21 hb_22 hb_23 hb_24 hb_25 hS_2 rfl (L1 := []) [] rfl rfl (M1 := []) [] rfl rfl (I1 := []) [] rfl rfl).more hb_26
  have hNn_2 : (jNk [0, 1, 2, 3, 4, 5, 6, 7, 8, 9, 10, 11, 12, 13, 14, 15, 16]) G0 G_2 := (jNk.rf).tr hN_2
  have hg_4 := hb_22 _ _ hg_r0
  have hg_5 := hb_22 _ _ hg_r1
  have hd_6 := jOw.tr (hh_1.iv 0 rfl) hh_1.2.2.2.2.1 hbO_2
  have hh_7 := hh_2.addI (jOw.ie (dC := dC) (dI := dI) (G0 := G0) (k := 2) (r := r0) (H0 := s.heap) (F := [(2, 0), (2, 1)]) (C := RX0) (T := TX0) (N := 2) rfl (by decide) hh_2.2.2.2.2.1 (hd_6))
  clear hh_2
  try simp only at hr_3
  obtain ⟨hr_3_0, hr_3_1, hr_3_2, hr_3_3, hr_3_4⟩ := hr_3
  refine lv_iload_n hx hb dX0_quoted_6 rfl (lv_at hl 2 rfl) ?_
  refine lv_iload_n hx hb dX0_quoted_7 rfl (lv_at hl 3 rfl) ?_
  refine lv_iadd hx hb dX0_quoted_8 ?_
  refine lv_topi (fun z_8 ez_8 => ?_)
  have hz_8 : z_8.toInt = a2.toInt + a3.toInt := by rw [ez_8]; exact jb_iadd2 (rfl) (rfl) (by omega)
  refine lv_aload_n hx hb dX0_quoted_9 rfl (lv_at hl 1 rfl) ?_
  refine j7_len hx hb hK hh_7 hB101 1 rfl (by decide) hg_5 (by omega) dX0_quoted_10 (fun z_9 hz_9 => ?_)
  refine va_mmin hx hb (by rw [hml]; exact hl.1.symm) hown (htw (.methodLink RX0 50 Lib.Math.min.name) (jWr_25 _ (List.mem_of_getElem? (i := 13) rfl))) (htw (.static Lib.Math.min.name) (jWr_16 _ (List.mem_of_getElem? (i := 16) rfl))) (htw (.initialized "java/lang/Math") (jWr_3 _ (List.mem_of_getElem? (i := 7) rfl))) (htw (.code Lib.Math.min.name Lib.Math.min.code 2 (some .int)) (jWr_16 _ (List.mem_of_getElem? (i := 17) rfl))) (by rw [← hR]; exact Nat.le_of_ble_eq_true rfl) (by rw [← hR]; exact Nat.le_of_ble_eq_true rfl) (Nat.zero_le _) (Nat.zero_le _) dX0_quoted_11 ?_
  refine lv_topi (fun z_10 ez_10 => ?_)
  have hz_10 := jb_min ez_10
  refine lv_istore (lv' := [(4, .int z_10), (0, .ref r0), (1, .ref r1), (2, .int a2), (3, .int a3)]) hx hb dX0_quoted_14 hl (by decide) rfl (fun ls hl => ?_)
  refine lv_iload_n hx hb dX0_quoted_16 rfl (lv_at hl 3 rfl) ?_
  refine lv_iconst (v := 0) hx hb dX0_quoted_17 (by decide) ?_
  refine va_mmax hx hb (by rw [hml]; exact hl.1.symm) hown (htw (.methodLink RX0 7 Lib.Math.max.name) (jWr_3 _ (List.mem_of_getElem? (i := 5) rfl))) (htw (.static Lib.Math.max.name) (jWr_3 _ (List.mem_of_getElem? (i := 6) rfl))) (htw (.initialized "java/lang/Math") (jWr_3 _ (List.mem_of_getElem? (i := 7) rfl))) (htw (.code Lib.Math.max.name Lib.Math.max.code 2 (some .int)) (jWr_3 _ (List.mem_of_getElem? (i := 8) rfl))) (by rw [← hR]; exact Nat.le_of_ble_eq_true rfl) (by rw [← hR]; exact Nat.le_of_ble_eq_true rfl) (Nat.zero_le _) (Nat.zero_le _) dX0_quoted_18 ?_
  refine lv_topi (fun z_11 ez_11 => ?_)
  have hz_11 := jb_max ez_11
  refine lv_istore (lv' := [(5, .int z_11), (4, .int z_10), (0, .ref r0), (1, .ref r1), (2, .int a2), (3, .int a3)]) hx hb dX0_quoted_21 hl (by decide) rfl (fun ls hl => ?_)
  have L23 : ∀ (N : Nat) (Gx_12 : jT) (zcx_12 : Nat) (zsx_12 : Nat) (v5_12 : Int32) (wc_12 : Int32) (wr_12 : Nat) (m_wr_12 : Nat) (H_12 : Heap) (locs_12 : List Loc), jSt (dC, dI) B base G0 Gx_12 EX0_quoted s.heap zcx_12 zsx_12 [(r0, 2, 1, .int wc_12), (r0, 2, 0, .ref wr_12)] [] [([(2, 0), (2, 1)], jOw (dC, dI) G0 2 r0 s.heap)] H_12 locs_12 → (jNk [0, 1, 2, 3, 4, 5, 6, 7, 8, 9, 10, 11, 12, 13, 14, 15, 16]) G0 Gx_12 → jLe G_2 Gx_12 → Gx_12 wr_12 = some (196, m_wr_12) → (0 ≤ wc_12.toInt ∧ wc_12.toInt ≤ m_wr_12 ∧ n_pa ≤ m_wr_12 ∧ m_wr_12 ≤ 1048576 ∧ jPw m_wr_12 ∧ zcx_12 ≤ (m_wr_12 - n_pa) / 16 ∧ zsx_12 ≤ 2 * (m_wr_12 - n_pa) ∧ 0 ≤ v5_12.toInt ∧ v5_12.toInt ≤ 3001) → (((z_10.toInt - v5_12.toInt).toNat : Int) : Int) < N → ∀ ls : Array Slot, lv_has ls 7 [(0, .ref r0), (1, .ref r1), (2, .int a2), (3, .int a3), (4, .int z_10), (5, .int v5_12)] → W p l e R s m ([.ref r0, .ref r1, .int a2, .int a3] : List Value).toArray below meth c H_12 locs_12 zcx_12 zsx_12 Q (F0 m 23 ls []) := by
    intro N
    induction N with
    | zero => intro Gx_12 zcx_12 zsx_12 v5_12 wc_12 wr_12 m_wr_12 H_12 locs_12 hh_12 hN_12 hle_12 hg_wr_12 hi_12 hm; exact absurd hm (by omega)
    | succ N L23 =>
      intro Gx_12 zcx_12 zsx_12 v5_12 wc_12 wr_12 m_wr_12 H_12 locs_12 hh_12 hN_12 hle_12 hg_wr_12 hi_12 hm_12 ls hl
      have hg_13 := hle_12 _ _ hg_4
      have hg_14 := hle_12 _ _ hg_5
      obtain ⟨hi_12_0, hi_12_1, hi_12_2, hi_12_3, hi_12_4, hi_12_5, hi_12_6, hi_12_7, hi_12_8⟩ := hi_12
      refine lv_iload hx hb dX0_quoted_23 (lv_at hl 5 rfl) ?_
      refine lv_iload hx hb dX0_quoted_25 (lv_at hl 4 rfl) ?_
      refine lv_icmp_ge (tgt := 214) hx hb dX0_quoted_27 (by decide) (fun c_15 => ?_) (fun c_15 => ?_)
      · skip
        have c_15' : v5_12.toInt ≥ z_10.toInt := jb_ge (rfl) (rfl) c_15
        refine lv_aload_n hx hb dX0_quoted_214 rfl (lv_at hl 0 rfl) ?_
        refine lv_bipush (v := 34) hx hb dX0_quoted_215 (by decide) ?_
        have hsz_16 := hh_12.2.2.2.2.2.1
        have htt_16 := hh_12.2.2.2.2.2.2.1
        refine W.room (fun hrc_16 hrs_16 => ?_)
        refine va_callv (A0 := jA base) (H0 := s.heap) (va_runV (As := [.int 34]) (rest := []) ⟨hx, hb, hml, hown, hts⟩ (uX0_put l dC dI ca base B hB hAp hB2 hB196 Gx_12 H_12 r0 34 wc_12 wr_12 m_wr_12 LC LS) (cwV 1 hts (jgV (jWr_24 _ (List.mem_of_getElem? (i := 22) rfl)) (jWr_16 _ (List.mem_of_getElem? (i := 0) rfl)) (jWr_16 _ (List.mem_of_getElem? (i := 1) rfl)) (jWr_1 _ (List.mem_of_getElem? (i := 14) rfl)) (jWr_16 _ (List.mem_of_getElem? (i := 2) rfl))) rfl rfl rfl (by decide +kernel) ⟨by rw [← hR]; exact Nat.le_of_ble_eq_true rfl, by rw [← hR]; exact Nat.le_of_ble_eq_true rfl⟩) ⟨fun a U g mk q => by obtain ⟨q0, q1, q2, qK, q10, q11, q12, q13⟩ := q; exact ⟨q0, q1, q2, jG.calling g mk a qK, q10, q11, q12, q13⟩, hh_12.recv (C := RX0) (T := TX0) (N := 2) hB2 rfl (by decide) hg_13 hK, fun U hU hW => ⟨rfl, hU, hh_12.2.1, hG.step hW hU hh_12.1, hg_13, hg_wr_12, (hh_12.2.2.1.sub (L1 := [(r0, 2, 1, .int wc_12), (r0, 2, 0, .ref wr_12)]) [0, 1] rfl), by first | omega | (refine ⟨?_, ?_, ?_, ?_, ?_⟩ <;> (first | omega | rfl | assumption | decide | exact Or.inl rfl | exact Or.inr rfl | (simp only; omega)))⟩⟩ rfl rfl hl.1 rfl (lv_room (Nat.le_of_ble_eq_true rfl)) dX0_quoted_217 ⟨by rw [hRc]; omega, by rw [hRs]; omega⟩) hh_12.1 (fun q _ h => h) (fun q h => h) (fun u_16 t_16 H_16 locs_16 ht_16 hvm_16 hr_17 hb_16 hz_16 hk_16 hS_16 => ?_)
        obtain ⟨qc_16, qa_16, m_qa_16, G_16⟩ := u_16
        rw [ht_16] at hb_16
        simp only at hb_16
        obtain ⟨⟨hb_161, hb_162, hb_163, hb_164, hb_165, hb_166⟩, hgq_16_0, hN_16, hbO_16⟩ := hb_16
        have hh_16 : jSt (dC, dI) B base G0 G_16 EX0_quoted s.heap (zcx_12 + ((m_qa_16 - m_wr_12) / 16)) (zsx_12 + (2 * (m_qa_16 - m_wr_12))) [(r0, 2, 1, .int qc_16), (r0, 2, 0, .ref qa_16)] [] [] H_16 locs_16 := (hh_12.callG hb_161 hb_162 hb_163 hb_164 hb_165 hS_16 rfl (L1 := []) [] rfl rfl (M1 := []) [] rfl rfl (I1 := []) [] rfl rfl).more hb_166
        have hNn_16 : (jNk [0, 1, 2, 3, 4, 5, 6, 7, 8, 9, 10, 11, 12, 13, 14, 15, 16]) G0 G_16 := (hN_12).tr hN_16
        have hg_18 := hb_162 _ _ hg_13
        have hg_19 := hb_162 _ _ hg_14
        have hd_20 := jOw.tr (hh_12.iv 0 rfl) hh_12.2.2.2.2.1 hbO_16
        have hh_21 := hh_16.addI (jOw.ie (dC := dC) (dI := dI) (G0 := G0) (k := 2) (r := r0) (H0 := s.heap) (F := [(2, 0), (2, 1)]) (C := RX0) (T := TX0) (N := 2) rfl (by decide) hh_16.2.2.2.2.1 (hd_20))
        clear hh_16
        try simp only at hr_17
        obtain ⟨hr_17_0, hr_17_1, hr_17_2, hr_17_3, hr_17_4⟩ := hr_17
        have hsz_22 := hh_21.2.2.2.2.2.1
        have htt_22 := hh_21.2.2.2.2.2.2.1
        refine W.room (fun hrc_22 hrs_22 => ?_)
        refine W.widen (k := LC - s.heap.size) (n := LS - jTot s.heap) (by omega) (by omega) ?_
        rw [hQ]
        exact W.vret hx hb hr (fun t ht hW => ⟨⟨(qc_16, qa_16, m_qa_16, G_16), rfl, by (try dsimp only); exact ⟨(by first | omega | rfl | assumption | fail), (by first | omega | rfl | assumption | fail), (by first | omega | rfl | assumption | fail), (by first | omega | rfl | assumption | fail), (by first | assumption | fail | omega)⟩, ⟨hh_21.ra (by first | omega | (simp only; omega)) (by first | omega | (simp only; omega)) (M1 := [(r0, 2, 1, .int qc_16), (r0, 2, 0, .ref qa_16)]) [0, 1] rfl ht, hgq_16_0, hNn_16, by rw [ht]; exact hh_21.iv 0 rfl⟩⟩, by rw [ht]; try exact hh_21.1.1, fun q h9 hq => by rw [ht]; try exact hh_21.1.2.1 q h9 hq⟩) hh_21.1.2.2 dX0_quoted_220
      · skip
        have c_15' : v5_12.toInt < z_10.toInt := jb_ge_n (rfl) (rfl) c_15
        refine lv_aload_n hx hb dX0_quoted_30 rfl (lv_at hl 1 rfl) ?_
        refine lv_iload hx hb dX0_quoted_31 (lv_at hl 5 rfl) ?_
        refine j7_iald hx hb hK hh_12 hB101 1 rfl (by decide) hg_14 (x := v5_12.toInt) (rfl) (by omega) dX0_quoted_33 (fun z_23 (hz_23 : True) => ?_)
        refine lv_istore (lv' := [(6, .int z_23), (0, .ref r0), (1, .ref r1), (2, .int a2), (3, .int a3), (4, .int z_10), (5, .int v5_12)]) hx hb dX0_quoted_34 hl (by decide) rfl (fun ls hl => ?_)
        refine lv_iload hx hb dX0_quoted_36 (lv_at hl 0 rfl) ?_
        refine vp_callSi (W.runS (As := [.int z_23]) (rest := []) ⟨hx, hb, hml, hown, hts⟩ (wX0_isHigh l dC dI ca base H_12 z_23) (va_cwS 1 hts (jgS (jWr_25 _ (List.mem_of_getElem? (i := 15) rfl)) (jWr_21 _ (List.mem_of_getElem? (i := 18) rfl)) (jWr_1 _ (List.mem_of_getElem? (i := 14) rfl)) (jWr_21 _ (List.mem_of_getElem? (i := 19) rfl))) rfl rfl rfl (by decide +kernel) ⟨by rw [← hR]; exact Nat.le_of_ble_eq_true rfl, by rw [← hR]; exact Nat.le_of_ble_eq_true rfl⟩) ⟨fun a U g mk q => by obtain ⟨q0, q1, qK, q9⟩ := q; exact ⟨q0, q1, jG.calling g mk a qK, q9⟩, fun U hU hW => ⟨rfl, hU, hG.step hW hU hh_12.1, by first | trivial | omega | (constructor <;> omega)⟩⟩ rfl rfl hl.1 rfl (lv_room (Nat.le_of_ble_eq_true rfl)) dX0_quoted_38 ⟨Nat.zero_le _, Nat.zero_le _⟩) (fun r_24 hr_24 => ?_)
        have hr_24' : r_24.toInt = 0 ∨ r_24.toInt = 1 := jb_01 hr_24
        have C94 : ∀ (H_25 : Heap) (locs_25 : List Loc), jSt (dC, dI) B base G0 Gx_12 EX0_quoted s.heap zcx_12 zsx_12 [] [] [([(2, 0), (2, 1)], jOw (dC, dI) G0 2 r0 s.heap)] H_25 locs_25 → (True) → ∀ ls : Array Slot, lv_has ls 7 [(0, .ref r0), (1, .ref r1), (2, .int a2), (3, .int a3), (4, .int z_10), (5, .int v5_12), (6, .int z_23)] → W p l e R s m ([.ref r0, .ref r1, .int a2, .int a3] : List Value).toArray below meth c H_25 locs_25 zcx_12 zsx_12 Q (F0 m 94 ls []) := by
          intro  H_25 locs_25 hh_25  hi_25 ls hl
          refine lv_iload hx hb dX0_quoted_94 (lv_at hl 6 rfl) ?_
          refine vp_callSi (W.runS (As := [.int z_23]) (rest := []) ⟨hx, hb, hml, hown, hts⟩ (wX0_isHigh l dC dI ca base H_25 z_23) (va_cwS 1 hts (jgS (jWr_25 _ (List.mem_of_getElem? (i := 15) rfl)) (jWr_21 _ (List.mem_of_getElem? (i := 18) rfl)) (jWr_1 _ (List.mem_of_getElem? (i := 14) rfl)) (jWr_21 _ (List.mem_of_getElem? (i := 19) rfl))) rfl rfl rfl (by decide +kernel) ⟨by rw [← hR]; exact Nat.le_of_ble_eq_true rfl, by rw [← hR]; exact Nat.le_of_ble_eq_true rfl⟩) ⟨fun a U g mk q => by obtain ⟨q0, q1, qK, q9⟩ := q; exact ⟨q0, q1, jG.calling g mk a qK, q9⟩, fun U hU hW => ⟨rfl, hU, hG.step hW hU hh_25.1, by first | trivial | omega | (constructor <;> omega)⟩⟩ rfl rfl hl.1 rfl (lv_room (Nat.le_of_ble_eq_true rfl)) dX0_quoted_96 ⟨Nat.zero_le _, Nat.zero_le _⟩) (fun r_26 hr_26 => ?_)
          have hr_26' : r_26.toInt = 0 ∨ r_26.toInt = 1 := jb_01 hr_26
          refine lv_if_ne (tgt := 110) hx hb dX0_quoted_99 (by decide) (fun c_27 => ?_) (fun c_27 => ?_)
          · skip
            have c_27' : r_26.toInt ≠ 0 := jb_ne (rfl) ((by decide)) c_27
            refine lv_aload_n hx hb dX0_quoted_110 rfl (lv_at hl 0 rfl) ?_
            refine lv_ldc hx hb hown hcs_66 dX0_quoted_111 ?_
            obtain ⟨v_30, hv_30, hh_31⟩ := hh_25.pin (C := RX0) (T := TX0) (N := 2) hB2 rfl (by decide) hg_13 (i := 1) (by decide) rfl
            obtain ⟨count_32, rfl, hlocount_32, hhicount_32, hfxcount_32⟩ := hv_30
            obtain ⟨v_33, hv_33, hh_34⟩ := hh_31.pin (C := RX0) (T := TX0) (N := 2) hB2 rfl (by decide) hg_13 (i := 0) (by decide) rfl
            obtain ⟨row_35, nrow_35, rfl, hg_row_35, hlorow_35, hhirow_35, hpwrow_35, hfxrow_35⟩ := hv_33
            have hsz_28 := hh_34.2.2.2.2.2.1
            have htt_28 := hh_34.2.2.2.2.2.2.1
            refine W.room (fun hrc_28 hrs_28 => ?_)
            refine va_callv (A0 := jA base) (H0 := s.heap) (va_runV (As := [.int 65533]) (rest := []) ⟨hx, hb, hml, hown, hts⟩ (uX0_character l dC dI ca base B hB hAp hB2 hB196 Gx_12 H_25 r0 65533 count_32 row_35 nrow_35 LC LS) (cwV 1 hts (jgV (jWr_25 _ (List.mem_of_getElem? (i := 17) rfl)) (jWr_25 _ (List.mem_of_getElem? (i := 18) rfl)) (jWr_25 _ (List.mem_of_getElem? (i := 19) rfl)) (jWr_1 _ (List.mem_of_getElem? (i := 14) rfl)) (jWr_25 _ (List.mem_of_getElem? (i := 20) rfl))) rfl rfl rfl (by decide +kernel) ⟨by rw [← hR]; exact Nat.le_of_ble_eq_true rfl, by rw [← hR]; exact Nat.le_of_ble_eq_true rfl⟩) ⟨fun a U g mk q => by obtain ⟨q0, q1, q2, qK, q10, q11, q12, q13⟩ := q; exact ⟨q0, q1, q2, jG.calling g mk a qK, q10, q11, q12, q13⟩, hh_34.recv (C := RX0) (T := TX0) (N := 2) hB2 rfl (by decide) hg_13 hK, fun U hU hW => ⟨rfl, hU, hh_34.2.1, hG.step hW hU hh_34.1, hg_13, hg_row_35, (hh_34.2.2.1.sub (L1 := [(r0, 2, 1, .int count_32), (r0, 2, 0, .ref row_35)]) [1, 0] rfl), by first | omega | (refine ⟨?_, ?_, ?_, ?_, ?_⟩ <;> (first | omega | rfl | assumption | decide | exact Or.inl rfl | exact Or.inr rfl | (simp only; omega)))⟩⟩ rfl rfl hl.1 rfl (lv_room (Nat.le_of_ble_eq_true rfl)) dX0_quoted_113 ⟨by rw [hRc]; omega, by rw [hRs]; omega⟩) hh_34.1 (fun q _ h => h) (fun q h => h) (fun u_28 t_28 H_28 locs_28 ht_28 hvm_28 hr_29 hb_28 hz_28 hk_28 hS_28 => ?_)
            obtain ⟨qc_28, qa_28, m_qa_28, G_28⟩ := u_28
            rw [ht_28] at hb_28
            simp only at hb_28
            obtain ⟨⟨hb_281, hb_282, hb_283, hb_284, hb_285, hb_286⟩, hgq_28_0, hN_28, hbO_28⟩ := hb_28
            have hh_28 : jSt (dC, dI) B base G0 G_28 EX0_quoted s.heap (zcx_12 + ((m_qa_28 - nrow_35) / 16)) (zsx_12 + (2 * (m_qa_28 - nrow_35))) [(r0, 2, 1, .int qc_28), (r0, 2, 0, .ref qa_28)] [] [] H_28 locs_28 := (hh_34.callG hb_281 hb_282 hb_283 hb_284 hb_285 hS_28 rfl (L1 := []) [] rfl rfl (M1 := []) [] rfl rfl (I1 := []) [] rfl rfl).more hb_286
            have hNn_28 : (jNk [0, 1, 2, 3, 4, 5, 6, 7, 8, 9, 10, 11, 12, 13, 14, 15, 16]) G0 G_28 := (hN_12).tr hN_28
            have hg_36 := hb_282 _ _ hg_13
            have hg_37 := hb_282 _ _ hg_14
            have hd_38 := jOw.tr (hh_34.iv 0 rfl) hh_34.2.2.2.2.1 hbO_28
            have hh_39 := hh_28.addI (jOw.ie (dC := dC) (dI := dI) (G0 := G0) (k := 2) (r := r0) (H0 := s.heap) (F := [(2, 0), (2, 1)]) (C := RX0) (T := TX0) (N := 2) rfl (by decide) hh_28.2.2.2.2.1 (hd_38))
            clear hh_28
            try simp only at hr_29
            obtain ⟨hr_29_0, hr_29_1, hr_29_2, hr_29_3, hr_29_4⟩ := hr_29
            refine lv_goto (tgt := 208) hx hb dX0_quoted_116 (by decide) ?_
            obtain ⟨z_40, ez_40⟩ : ∃ y : Int32, y = v5_12 + 1 := ⟨_, rfl⟩
            refine lv_iinc (v := z_40) (lv' := [(5, .int z_40), (0, .ref r0), (1, .ref r1), (2, .int a2), (3, .int a3), (4, .int z_10), (6, .int z_23)]) hx hb dX0_quoted_208 hl (k := 5) rfl (by rw [ez_40]; rfl) (by decide) rfl (fun ls hl => ?_)
            have hz_40 : z_40.toInt = v5_12.toInt + 1 := by rw [ez_40]; exact jb_iadd2 (rfl) (by decide) (by omega)
            refine lv_goto (tgt := 23) hx hb dX0_quoted_211 (by decide) ?_
            refine W.tight (c2 := (zcx_12 + ((m_qa_28 - nrow_35) / 16))) (n2 := (zsx_12 + (2 * (m_qa_28 - nrow_35)))) hh_39.2.2.2.2.2.1 hh_39.2.2.2.2.2.2.1 ?_
            exact L23 G_28 (zcx_12 + ((m_qa_28 - nrow_35) / 16)) (zsx_12 + (2 * (m_qa_28 - nrow_35))) z_40 qc_28 qa_28 m_qa_28 _ _ hh_39 (hNn_28) ((hle_12).tr hb_282) hgq_28_0 (by first | omega | (refine ⟨?_, ?_, ?_, ?_, ?_, ?_, ?_, ?_, ?_⟩ <;> (first | omega | rfl | assumption | decide | exact Or.inl rfl | exact Or.inr rfl | (simp only; omega)))) (by omega) _ (lv_sub hl [1, 2, 3, 4, 5, 0] rfl)
          · skip
            have c_27' : r_26.toInt = 0 := jb_ne_n (rfl) ((by decide)) c_27
            refine lv_iload hx hb dX0_quoted_102 (lv_at hl 6 rfl) ?_
            refine vp_callSi (W.runS (As := [.int z_23]) (rest := []) ⟨hx, hb, hml, hown, hts⟩ (wX0_isLow l dC dI ca base H_25 z_23) (va_cwS 1 hts (jgS (jWr_25 _ (List.mem_of_getElem? (i := 16) rfl)) (jWr_21 _ (List.mem_of_getElem? (i := 10) rfl)) (jWr_1 _ (List.mem_of_getElem? (i := 14) rfl)) (jWr_21 _ (List.mem_of_getElem? (i := 11) rfl))) rfl rfl rfl (by decide +kernel) ⟨by rw [← hR]; exact Nat.le_of_ble_eq_true rfl, by rw [← hR]; exact Nat.le_of_ble_eq_true rfl⟩) ⟨fun a U g mk q => by obtain ⟨q0, q1, qK, q9⟩ := q; exact ⟨q0, q1, jG.calling g mk a qK, q9⟩, fun U hU hW => ⟨rfl, hU, hG.step hW hU hh_25.1, by first | trivial | omega | (constructor <;> omega)⟩⟩ rfl rfl hl.1 rfl (lv_room (Nat.le_of_ble_eq_true rfl)) dX0_quoted_104 ⟨Nat.zero_le _, Nat.zero_le _⟩) (fun r_41 hr_41 => ?_)
            have hr_41' : r_41.toInt = 0 ∨ r_41.toInt = 1 := jb_01 hr_41
            refine lv_if_eq (tgt := 119) hx hb dX0_quoted_107 (by decide) (fun c_42 => ?_) (fun c_42 => ?_)
            · skip
              have c_42' : r_41.toInt = 0 := jb_eq (rfl) ((by decide)) c_42
              refine lv_iload hx hb dX0_quoted_119 (lv_at hl 6 rfl) ?_
              refine lv_bipush (v := 32) hx hb dX0_quoted_121 (by decide) ?_
              refine lv_icmp_ge (tgt := 182) hx hb dX0_quoted_123 (by decide) (fun c_43 => ?_) (fun c_43 => ?_)
              · skip
                have c_43' : z_23.toInt ≥ 32 := jb_ge (rfl) ((by decide)) c_43
                refine lv_iload hx hb dX0_quoted_182 (lv_at hl 6 rfl) ?_
                refine lv_bipush (v := 34) hx hb dX0_quoted_184 (by decide) ?_
                refine lv_icmp_eq (tgt := 196) hx hb dX0_quoted_186 (by decide) (fun c_44 => ?_) (fun c_44 => ?_)
                · skip
                  have c_44' : z_23.toInt = 34 := jb_eq (rfl) ((by decide)) c_44
                  refine lv_aload_n hx hb dX0_quoted_196 rfl (lv_at hl 0 rfl) ?_
                  refine lv_bipush (v := 92) hx hb dX0_quoted_197 (by decide) ?_
                  obtain ⟨v_47, hv_47, hh_48⟩ := hh_25.pin (C := RX0) (T := TX0) (N := 2) hB2 rfl (by decide) hg_13 (i := 1) (by decide) rfl
                  obtain ⟨count_49, rfl, hlocount_49, hhicount_49, hfxcount_49⟩ := hv_47
                  obtain ⟨v_50, hv_50, hh_51⟩ := hh_48.pin (C := RX0) (T := TX0) (N := 2) hB2 rfl (by decide) hg_13 (i := 0) (by decide) rfl
                  obtain ⟨row_52, nrow_52, rfl, hg_row_52, hlorow_52, hhirow_52, hpwrow_52, hfxrow_52⟩ := hv_50
                  have hsz_45 := hh_51.2.2.2.2.2.1
                  have htt_45 := hh_51.2.2.2.2.2.2.1
                  refine W.room (fun hrc_45 hrs_45 => ?_)
                  refine va_callv (A0 := jA base) (H0 := s.heap) (va_runV (As := [.int 92]) (rest := []) ⟨hx, hb, hml, hown, hts⟩ (uX0_put l dC dI ca base B hB hAp hB2 hB196 Gx_12 H_25 r0 92 count_49 row_52 nrow_52 LC LS) (cwV 1 hts (jgV (jWr_24 _ (List.mem_of_getElem? (i := 22) rfl)) (jWr_16 _ (List.mem_of_getElem? (i := 0) rfl)) (jWr_16 _ (List.mem_of_getElem? (i := 1) rfl)) (jWr_1 _ (List.mem_of_getElem? (i := 14) rfl)) (jWr_16 _ (List.mem_of_getElem? (i := 2) rfl))) rfl rfl rfl (by decide +kernel) ⟨by rw [← hR]; exact Nat.le_of_ble_eq_true rfl, by rw [← hR]; exact Nat.le_of_ble_eq_true rfl⟩) ⟨fun a U g mk q => by obtain ⟨q0, q1, q2, qK, q10, q11, q12, q13⟩ := q; exact ⟨q0, q1, q2, jG.calling g mk a qK, q10, q11, q12, q13⟩, hh_51.recv (C := RX0) (T := TX0) (N := 2) hB2 rfl (by decide) hg_13 hK, fun U hU hW => ⟨rfl, hU, hh_51.2.1, hG.step hW hU hh_51.1, hg_13, hg_row_52, (hh_51.2.2.1.sub (L1 := [(r0, 2, 1, .int count_49), (r0, 2, 0, .ref row_52)]) [1, 0] rfl), by first | omega | (refine ⟨?_, ?_, ?_, ?_, ?_⟩ <;> (first | omega | rfl | assumption | decide | exact Or.inl rfl | exact Or.inr rfl | (simp only; omega)))⟩⟩ rfl rfl hl.1 rfl (lv_room (Nat.le_of_ble_eq_true rfl)) dX0_quoted_199 ⟨by rw [hRc]; omega, by rw [hRs]; omega⟩) hh_51.1 (fun q _ h => h) (fun q h => h) (fun u_45 t_45 H_45 locs_45 ht_45 hvm_45 hr_46 hb_45 hz_45 hk_45 hS_45 => ?_)
                  obtain ⟨qc_45, qa_45, m_qa_45, G_45⟩ := u_45
                  rw [ht_45] at hb_45
                  simp only at hb_45
                  obtain ⟨⟨hb_451, hb_452, hb_453, hb_454, hb_455, hb_456⟩, hgq_45_0, hN_45, hbO_45⟩ := hb_45
                  have hh_45 : jSt (dC, dI) B base G0 G_45 EX0_quoted s.heap (zcx_12 + ((m_qa_45 - nrow_52) / 16)) (zsx_12 + (2 * (m_qa_45 - nrow_52))) [(r0, 2, 1, .int qc_45), (r0, 2, 0, .ref qa_45)] [] [] H_45 locs_45 := (hh_51.callG hb_451 hb_452 hb_453 hb_454 hb_455 hS_45 rfl (L1 := []) [] rfl rfl (M1 := []) [] rfl rfl (I1 := []) [] rfl rfl).more hb_456
                  have hNn_45 : (jNk [0, 1, 2, 3, 4, 5, 6, 7, 8, 9, 10, 11, 12, 13, 14, 15, 16]) G0 G_45 := (hN_12).tr hN_45
                  have hg_53 := hb_452 _ _ hg_13
                  have hg_54 := hb_452 _ _ hg_14
                  have hd_55 := jOw.tr (hh_51.iv 0 rfl) hh_51.2.2.2.2.1 hbO_45
                  have hh_56 := hh_45.addI (jOw.ie (dC := dC) (dI := dI) (G0 := G0) (k := 2) (r := r0) (H0 := s.heap) (F := [(2, 0), (2, 1)]) (C := RX0) (T := TX0) (N := 2) rfl (by decide) hh_45.2.2.2.2.1 (hd_55))
                  clear hh_45
                  try simp only at hr_46
                  obtain ⟨hr_46_0, hr_46_1, hr_46_2, hr_46_3, hr_46_4⟩ := hr_46
                  refine lv_aload_n hx hb dX0_quoted_202 rfl (lv_at hl 0 rfl) ?_
                  refine lv_iload hx hb dX0_quoted_203 (lv_at hl 6 rfl) ?_
                  have hsz_57 := hh_56.2.2.2.2.2.1
                  have htt_57 := hh_56.2.2.2.2.2.2.1
                  refine W.room (fun hrc_57 hrs_57 => ?_)
                  refine va_callv (A0 := jA base) (H0 := s.heap) (va_runV (As := [.int z_23]) (rest := []) ⟨hx, hb, hml, hown, hts⟩ (uX0_character l dC dI ca base B hB hAp hB2 hB196 G_45 H_45 r0 z_23 qc_45 qa_45 m_qa_45 LC LS) (cwV 1 hts (jgV (jWr_25 _ (List.mem_of_getElem? (i := 17) rfl)) (jWr_25 _ (List.mem_of_getElem? (i := 18) rfl)) (jWr_25 _ (List.mem_of_getElem? (i := 19) rfl)) (jWr_1 _ (List.mem_of_getElem? (i := 14) rfl)) (jWr_25 _ (List.mem_of_getElem? (i := 20) rfl))) rfl rfl rfl (by decide +kernel) ⟨by rw [← hR]; exact Nat.le_of_ble_eq_true rfl, by rw [← hR]; exact Nat.le_of_ble_eq_true rfl⟩) ⟨fun a U g mk q => by obtain ⟨q0, q1, q2, qK, q10, q11, q12, q13⟩ := q; exact ⟨q0, q1, q2, jG.calling g mk a qK, q10, q11, q12, q13⟩, hh_56.recv (C := RX0) (T := TX0) (N := 2) hB2 rfl (by decide) hg_53 hK, fun U hU hW => ⟨rfl, hU, hh_56.2.1, hG.step hW hU hh_56.1, hg_53, hgq_45_0, (hh_56.2.2.1.sub (L1 := [(r0, 2, 1, .int qc_45), (r0, 2, 0, .ref qa_45)]) [0, 1] rfl), by first | omega | (refine ⟨?_, ?_, ?_, ?_, ?_⟩ <;> (first | omega | rfl | assumption | decide | exact Or.inl rfl | exact Or.inr rfl | (simp only; omega)))⟩⟩ rfl rfl hl.1 rfl (lv_room (Nat.le_of_ble_eq_true rfl)) dX0_quoted_205 ⟨by rw [hRc]; omega, by rw [hRs]; omega⟩) hh_56.1 (fun q _ h => h) (fun q h => h) (fun u_57 t_57 H_57 locs_57 ht_57 hvm_57 hr_58 hb_57 hz_57 hk_57 hS_57 => ?_)
                  obtain ⟨qc_57, qa_57, m_qa_57, G_57⟩ := u_57
                  rw [ht_57] at hb_57
                  simp only at hb_57
                  obtain ⟨⟨hb_571, hb_572, hb_573, hb_574, hb_575, hb_576⟩, hgq_57_0, hN_57, hbO_57⟩ := hb_57
                  have hh_57 : jSt (dC, dI) B base G0 G_57 EX0_quoted s.heap ((zcx_12 + ((m_qa_45 - nrow_52) / 16)) + ((m_qa_57 - m_qa_45) / 16)) ((zsx_12 + (2 * (m_qa_45 - nrow_52))) + (2 * (m_qa_57 - m_qa_45))) [(r0, 2, 1, .int qc_57), (r0, 2, 0, .ref qa_57)] [] [] H_57 locs_57 := (hh_56.callG hb_571 hb_572 hb_573 hb_574 hb_575 hS_57 rfl (L1 := []) [] rfl rfl (M1 := []) [] rfl rfl (I1 := []) [] rfl rfl).more hb_576
                  have hNn_57 : (jNk [0, 1, 2, 3, 4, 5, 6, 7, 8, 9, 10, 11, 12, 13, 14, 15, 16]) G0 G_57 := (hNn_45).tr hN_57
                  have hg_59 := hb_572 _ _ hg_53
                  have hg_60 := hb_572 _ _ hg_54
                  have hd_61 := jOw.tr (hh_56.iv 0 rfl) hh_56.2.2.2.2.1 hbO_57
                  have hh_62 := hh_57.addI (jOw.ie (dC := dC) (dI := dI) (G0 := G0) (k := 2) (r := r0) (H0 := s.heap) (F := [(2, 0), (2, 1)]) (C := RX0) (T := TX0) (N := 2) rfl (by decide) hh_57.2.2.2.2.1 (hd_61))
                  clear hh_57
                  try simp only at hr_58
                  obtain ⟨hr_58_0, hr_58_1, hr_58_2, hr_58_3, hr_58_4⟩ := hr_58
                  obtain ⟨z_63, ez_63⟩ : ∃ y : Int32, y = v5_12 + 1 := ⟨_, rfl⟩
                  refine lv_iinc (v := z_63) (lv' := [(5, .int z_63), (0, .ref r0), (1, .ref r1), (2, .int a2), (3, .int a3), (4, .int z_10), (6, .int z_23)]) hx hb dX0_quoted_208 hl (k := 5) rfl (by rw [ez_63]; rfl) (by decide) rfl (fun ls hl => ?_)
                  have hz_63 : z_63.toInt = v5_12.toInt + 1 := by rw [ez_63]; exact jb_iadd2 (rfl) (by decide) (by omega)
                  refine lv_goto (tgt := 23) hx hb dX0_quoted_211 (by decide) ?_
                  refine W.tight (c2 := ((zcx_12 + ((m_qa_45 - nrow_52) / 16)) + ((m_qa_57 - m_qa_45) / 16))) (n2 := ((zsx_12 + (2 * (m_qa_45 - nrow_52))) + (2 * (m_qa_57 - m_qa_45)))) hh_62.2.2.2.2.2.1 hh_62.2.2.2.2.2.2.1 ?_
                  exact L23 G_57 ((zcx_12 + ((m_qa_45 - nrow_52) / 16)) + ((m_qa_57 - m_qa_45) / 16)) ((zsx_12 + (2 * (m_qa_45 - nrow_52))) + (2 * (m_qa_57 - m_qa_45))) z_63 qc_57 qa_57 m_qa_57 _ _ hh_62 (hNn_57) (((hle_12).tr hb_452).tr hb_572) hgq_57_0 (by first | omega | (refine ⟨?_, ?_, ?_, ?_, ?_, ?_, ?_, ?_, ?_⟩ <;> (first | omega | rfl | assumption | decide | exact Or.inl rfl | exact Or.inr rfl | (simp only; omega)))) (by omega) _ (lv_sub hl [1, 2, 3, 4, 5, 0] rfl)
                · skip
                  have c_44' : z_23.toInt ≠ 34 := jb_eq_n (rfl) ((by decide)) c_44
                  refine lv_iload hx hb dX0_quoted_189 (lv_at hl 6 rfl) ?_
                  refine lv_bipush (v := 92) hx hb dX0_quoted_191 (by decide) ?_
                  refine lv_icmp_ne (tgt := 202) hx hb dX0_quoted_193 (by decide) (fun c_64 => ?_) (fun c_64 => ?_)
                  · skip
                    have c_64' : z_23.toInt ≠ 92 := jb_ne (rfl) ((by decide)) c_64
                    refine lv_aload_n hx hb dX0_quoted_202 rfl (lv_at hl 0 rfl) ?_
                    refine lv_iload hx hb dX0_quoted_203 (lv_at hl 6 rfl) ?_
                    obtain ⟨v_67, hv_67, hh_68⟩ := hh_25.pin (C := RX0) (T := TX0) (N := 2) hB2 rfl (by decide) hg_13 (i := 1) (by decide) rfl
                    obtain ⟨count_69, rfl, hlocount_69, hhicount_69, hfxcount_69⟩ := hv_67
                    obtain ⟨v_70, hv_70, hh_71⟩ := hh_68.pin (C := RX0) (T := TX0) (N := 2) hB2 rfl (by decide) hg_13 (i := 0) (by decide) rfl
                    obtain ⟨row_72, nrow_72, rfl, hg_row_72, hlorow_72, hhirow_72, hpwrow_72, hfxrow_72⟩ := hv_70
                    have hsz_65 := hh_71.2.2.2.2.2.1
                    have htt_65 := hh_71.2.2.2.2.2.2.1
                    refine W.room (fun hrc_65 hrs_65 => ?_)
                    refine va_callv (A0 := jA base) (H0 := s.heap) (va_runV (As := [.int z_23]) (rest := []) ⟨hx, hb, hml, hown, hts⟩ (uX0_character l dC dI ca base B hB hAp hB2 hB196 Gx_12 H_25 r0 z_23 count_69 row_72 nrow_72 LC LS) (cwV 1 hts (jgV (jWr_25 _ (List.mem_of_getElem? (i := 17) rfl)) (jWr_25 _ (List.mem_of_getElem? (i := 18) rfl)) (jWr_25 _ (List.mem_of_getElem? (i := 19) rfl)) (jWr_1 _ (List.mem_of_getElem? (i := 14) rfl)) (jWr_25 _ (List.mem_of_getElem? (i := 20) rfl))) rfl rfl rfl (by decide +kernel) ⟨by rw [← hR]; exact Nat.le_of_ble_eq_true rfl, by rw [← hR]; exact Nat.le_of_ble_eq_true rfl⟩) ⟨fun a U g mk q => by obtain ⟨q0, q1, q2, qK, q10, q11, q12, q13⟩ := q; exact ⟨q0, q1, q2, jG.calling g mk a qK, q10, q11, q12, q13⟩, hh_71.recv (C := RX0) (T := TX0) (N := 2) hB2 rfl (by decide) hg_13 hK, fun U hU hW => ⟨rfl, hU, hh_71.2.1, hG.step hW hU hh_71.1, hg_13, hg_row_72, (hh_71.2.2.1.sub (L1 := [(r0, 2, 1, .int count_69), (r0, 2, 0, .ref row_72)]) [1, 0] rfl), by first | omega | (refine ⟨?_, ?_, ?_, ?_, ?_⟩ <;> (first | omega | rfl | assumption | decide | exact Or.inl rfl | exact Or.inr rfl | (simp only; omega)))⟩⟩ rfl rfl hl.1 rfl (lv_room (Nat.le_of_ble_eq_true rfl)) dX0_quoted_205 ⟨by rw [hRc]; omega, by rw [hRs]; omega⟩) hh_71.1 (fun q _ h => h) (fun q h => h) (fun u_65 t_65 H_65 locs_65 ht_65 hvm_65 hr_66 hb_65 hz_65 hk_65 hS_65 => ?_)
                    obtain ⟨qc_65, qa_65, m_qa_65, G_65⟩ := u_65
                    rw [ht_65] at hb_65
                    simp only at hb_65
                    obtain ⟨⟨hb_651, hb_652, hb_653, hb_654, hb_655, hb_656⟩, hgq_65_0, hN_65, hbO_65⟩ := hb_65
                    have hh_65 : jSt (dC, dI) B base G0 G_65 EX0_quoted s.heap (zcx_12 + ((m_qa_65 - nrow_72) / 16)) (zsx_12 + (2 * (m_qa_65 - nrow_72))) [(r0, 2, 1, .int qc_65), (r0, 2, 0, .ref qa_65)] [] [] H_65 locs_65 := (hh_71.callG hb_651 hb_652 hb_653 hb_654 hb_655 hS_65 rfl (L1 := []) [] rfl rfl (M1 := []) [] rfl rfl (I1 := []) [] rfl rfl).more hb_656
                    have hNn_65 : (jNk [0, 1, 2, 3, 4, 5, 6, 7, 8, 9, 10, 11, 12, 13, 14, 15, 16]) G0 G_65 := (hN_12).tr hN_65
                    have hg_73 := hb_652 _ _ hg_13
                    have hg_74 := hb_652 _ _ hg_14
                    have hd_75 := jOw.tr (hh_71.iv 0 rfl) hh_71.2.2.2.2.1 hbO_65
                    have hh_76 := hh_65.addI (jOw.ie (dC := dC) (dI := dI) (G0 := G0) (k := 2) (r := r0) (H0 := s.heap) (F := [(2, 0), (2, 1)]) (C := RX0) (T := TX0) (N := 2) rfl (by decide) hh_65.2.2.2.2.1 (hd_75))
                    clear hh_65
                    try simp only at hr_66
                    obtain ⟨hr_66_0, hr_66_1, hr_66_2, hr_66_3, hr_66_4⟩ := hr_66
                    obtain ⟨z_77, ez_77⟩ : ∃ y : Int32, y = v5_12 + 1 := ⟨_, rfl⟩
                    refine lv_iinc (v := z_77) (lv' := [(5, .int z_77), (0, .ref r0), (1, .ref r1), (2, .int a2), (3, .int a3), (4, .int z_10), (6, .int z_23)]) hx hb dX0_quoted_208 hl (k := 5) rfl (by rw [ez_77]; rfl) (by decide) rfl (fun ls hl => ?_)
                    have hz_77 : z_77.toInt = v5_12.toInt + 1 := by rw [ez_77]; exact jb_iadd2 (rfl) (by decide) (by omega)
                    refine lv_goto (tgt := 23) hx hb dX0_quoted_211 (by decide) ?_
                    refine W.tight (c2 := (zcx_12 + ((m_qa_65 - nrow_72) / 16))) (n2 := (zsx_12 + (2 * (m_qa_65 - nrow_72)))) hh_76.2.2.2.2.2.1 hh_76.2.2.2.2.2.2.1 ?_
                    exact L23 G_65 (zcx_12 + ((m_qa_65 - nrow_72) / 16)) (zsx_12 + (2 * (m_qa_65 - nrow_72))) z_77 qc_65 qa_65 m_qa_65 _ _ hh_76 (hNn_65) ((hle_12).tr hb_652) hgq_65_0 (by first | omega | (refine ⟨?_, ?_, ?_, ?_, ?_, ?_, ?_, ?_, ?_⟩ <;> (first | omega | rfl | assumption | decide | exact Or.inl rfl | exact Or.inr rfl | (simp only; omega)))) (by omega) _ (lv_sub hl [1, 2, 3, 4, 5, 0] rfl)
                  · skip
                    have c_64' : z_23.toInt = 92 := jb_ne_n (rfl) ((by decide)) c_64
                    refine lv_aload_n hx hb dX0_quoted_196 rfl (lv_at hl 0 rfl) ?_
                    refine lv_bipush (v := 92) hx hb dX0_quoted_197 (by decide) ?_
                    obtain ⟨v_80, hv_80, hh_81⟩ := hh_25.pin (C := RX0) (T := TX0) (N := 2) hB2 rfl (by decide) hg_13 (i := 1) (by decide) rfl
                    obtain ⟨count_82, rfl, hlocount_82, hhicount_82, hfxcount_82⟩ := hv_80
                    obtain ⟨v_83, hv_83, hh_84⟩ := hh_81.pin (C := RX0) (T := TX0) (N := 2) hB2 rfl (by decide) hg_13 (i := 0) (by decide) rfl
                    obtain ⟨row_85, nrow_85, rfl, hg_row_85, hlorow_85, hhirow_85, hpwrow_85, hfxrow_85⟩ := hv_83
                    have hsz_78 := hh_84.2.2.2.2.2.1
                    have htt_78 := hh_84.2.2.2.2.2.2.1
                    refine W.room (fun hrc_78 hrs_78 => ?_)
                    refine va_callv (A0 := jA base) (H0 := s.heap) (va_runV (As := [.int 92]) (rest := []) ⟨hx, hb, hml, hown, hts⟩ (uX0_put l dC dI ca base B hB hAp hB2 hB196 Gx_12 H_25 r0 92 count_82 row_85 nrow_85 LC LS) (cwV 1 hts (jgV (jWr_24 _ (List.mem_of_getElem? (i := 22) rfl)) (jWr_16 _ (List.mem_of_getElem? (i := 0) rfl)) (jWr_16 _ (List.mem_of_getElem? (i := 1) rfl)) (jWr_1 _ (List.mem_of_getElem? (i := 14) rfl)) (jWr_16 _ (List.mem_of_getElem? (i := 2) rfl))) rfl rfl rfl (by decide +kernel) ⟨by rw [← hR]; exact Nat.le_of_ble_eq_true rfl, by rw [← hR]; exact Nat.le_of_ble_eq_true rfl⟩) ⟨fun a U g mk q => by obtain ⟨q0, q1, q2, qK, q10, q11, q12, q13⟩ := q; exact ⟨q0, q1, q2, jG.calling g mk a qK, q10, q11, q12, q13⟩, hh_84.recv (C := RX0) (T := TX0) (N := 2) hB2 rfl (by decide) hg_13 hK, fun U hU hW => ⟨rfl, hU, hh_84.2.1, hG.step hW hU hh_84.1, hg_13, hg_row_85, (hh_84.2.2.1.sub (L1 := [(r0, 2, 1, .int count_82), (r0, 2, 0, .ref row_85)]) [1, 0] rfl), by first | omega | (refine ⟨?_, ?_, ?_, ?_, ?_⟩ <;> (first | omega | rfl | assumption | decide | exact Or.inl rfl | exact Or.inr rfl | (simp only; omega)))⟩⟩ rfl rfl hl.1 rfl (lv_room (Nat.le_of_ble_eq_true rfl)) dX0_quoted_199 ⟨by rw [hRc]; omega, by rw [hRs]; omega⟩) hh_84.1 (fun q _ h => h) (fun q h => h) (fun u_78 t_78 H_78 locs_78 ht_78 hvm_78 hr_79 hb_78 hz_78 hk_78 hS_78 => ?_)
                    obtain ⟨qc_78, qa_78, m_qa_78, G_78⟩ := u_78
                    rw [ht_78] at hb_78
                    simp only at hb_78
                    obtain ⟨⟨hb_781, hb_782, hb_783, hb_784, hb_785, hb_786⟩, hgq_78_0, hN_78, hbO_78⟩ := hb_78
                    have hh_78 : jSt (dC, dI) B base G0 G_78 EX0_quoted s.heap (zcx_12 + ((m_qa_78 - nrow_85) / 16)) (zsx_12 + (2 * (m_qa_78 - nrow_85))) [(r0, 2, 1, .int qc_78), (r0, 2, 0, .ref qa_78)] [] [] H_78 locs_78 := (hh_84.callG hb_781 hb_782 hb_783 hb_784 hb_785 hS_78 rfl (L1 := []) [] rfl rfl (M1 := []) [] rfl rfl (I1 := []) [] rfl rfl).more hb_786
                    have hNn_78 : (jNk [0, 1, 2, 3, 4, 5, 6, 7, 8, 9, 10, 11, 12, 13, 14, 15, 16]) G0 G_78 := (hN_12).tr hN_78
                    have hg_86 := hb_782 _ _ hg_13
                    have hg_87 := hb_782 _ _ hg_14
                    have hd_88 := jOw.tr (hh_84.iv 0 rfl) hh_84.2.2.2.2.1 hbO_78
                    have hh_89 := hh_78.addI (jOw.ie (dC := dC) (dI := dI) (G0 := G0) (k := 2) (r := r0) (H0 := s.heap) (F := [(2, 0), (2, 1)]) (C := RX0) (T := TX0) (N := 2) rfl (by decide) hh_78.2.2.2.2.1 (hd_88))
                    clear hh_78
                    try simp only at hr_79
                    obtain ⟨hr_79_0, hr_79_1, hr_79_2, hr_79_3, hr_79_4⟩ := hr_79
                    refine lv_aload_n hx hb dX0_quoted_202 rfl (lv_at hl 0 rfl) ?_
                    refine lv_iload hx hb dX0_quoted_203 (lv_at hl 6 rfl) ?_
                    have hsz_90 := hh_89.2.2.2.2.2.1
                    have htt_90 := hh_89.2.2.2.2.2.2.1
                    refine W.room (fun hrc_90 hrs_90 => ?_)
                    refine va_callv (A0 := jA base) (H0 := s.heap) (va_runV (As := [.int z_23]) (rest := []) ⟨hx, hb, hml, hown, hts⟩ (uX0_character l dC dI ca base B hB hAp hB2 hB196 G_78 H_78 r0 z_23 qc_78 qa_78 m_qa_78 LC LS) (cwV 1 hts (jgV (jWr_25 _ (List.mem_of_getElem? (i := 17) rfl)) (jWr_25 _ (List.mem_of_getElem? (i := 18) rfl)) (jWr_25 _ (List.mem_of_getElem? (i := 19) rfl)) (jWr_1 _ (List.mem_of_getElem? (i := 14) rfl)) (jWr_25 _ (List.mem_of_getElem? (i := 20) rfl))) rfl rfl rfl (by decide +kernel) ⟨by rw [← hR]; exact Nat.le_of_ble_eq_true rfl, by rw [← hR]; exact Nat.le_of_ble_eq_true rfl⟩) ⟨fun a U g mk q => by obtain ⟨q0, q1, q2, qK, q10, q11, q12, q13⟩ := q; exact ⟨q0, q1, q2, jG.calling g mk a qK, q10, q11, q12, q13⟩, hh_89.recv (C := RX0) (T := TX0) (N := 2) hB2 rfl (by decide) hg_86 hK, fun U hU hW => ⟨rfl, hU, hh_89.2.1, hG.step hW hU hh_89.1, hg_86, hgq_78_0, (hh_89.2.2.1.sub (L1 := [(r0, 2, 1, .int qc_78), (r0, 2, 0, .ref qa_78)]) [0, 1] rfl), by first | omega | (refine ⟨?_, ?_, ?_, ?_, ?_⟩ <;> (first | omega | rfl | assumption | decide | exact Or.inl rfl | exact Or.inr rfl | (simp only; omega)))⟩⟩ rfl rfl hl.1 rfl (lv_room (Nat.le_of_ble_eq_true rfl)) dX0_quoted_205 ⟨by rw [hRc]; omega, by rw [hRs]; omega⟩) hh_89.1 (fun q _ h => h) (fun q h => h) (fun u_90 t_90 H_90 locs_90 ht_90 hvm_90 hr_91 hb_90 hz_90 hk_90 hS_90 => ?_)
                    obtain ⟨qc_90, qa_90, m_qa_90, G_90⟩ := u_90
                    rw [ht_90] at hb_90
                    simp only at hb_90
                    obtain ⟨⟨hb_901, hb_902, hb_903, hb_904, hb_905, hb_906⟩, hgq_90_0, hN_90, hbO_90⟩ := hb_90
                    have hh_90 : jSt (dC, dI) B base G0 G_90 EX0_quoted s.heap ((zcx_12 + ((m_qa_78 - nrow_85) / 16)) + ((m_qa_90 - m_qa_78) / 16)) ((zsx_12 + (2 * (m_qa_78 - nrow_85))) + (2 * (m_qa_90 - m_qa_78))) [(r0, 2, 1, .int qc_90), (r0, 2, 0, .ref qa_90)] [] [] H_90 locs_90 := (hh_89.callG hb_901 hb_902 hb_903 hb_904 hb_905 hS_90 rfl (L1 := []) [] rfl rfl (M1 := []) [] rfl rfl (I1 := []) [] rfl rfl).more hb_906
                    have hNn_90 : (jNk [0, 1, 2, 3, 4, 5, 6, 7, 8, 9, 10, 11, 12, 13, 14, 15, 16]) G0 G_90 := (hNn_78).tr hN_90
                    have hg_92 := hb_902 _ _ hg_86
                    have hg_93 := hb_902 _ _ hg_87
                    have hd_94 := jOw.tr (hh_89.iv 0 rfl) hh_89.2.2.2.2.1 hbO_90
                    have hh_95 := hh_90.addI (jOw.ie (dC := dC) (dI := dI) (G0 := G0) (k := 2) (r := r0) (H0 := s.heap) (F := [(2, 0), (2, 1)]) (C := RX0) (T := TX0) (N := 2) rfl (by decide) hh_90.2.2.2.2.1 (hd_94))
                    clear hh_90
                    try simp only at hr_91
                    obtain ⟨hr_91_0, hr_91_1, hr_91_2, hr_91_3, hr_91_4⟩ := hr_91
                    obtain ⟨z_96, ez_96⟩ : ∃ y : Int32, y = v5_12 + 1 := ⟨_, rfl⟩
                    refine lv_iinc (v := z_96) (lv' := [(5, .int z_96), (0, .ref r0), (1, .ref r1), (2, .int a2), (3, .int a3), (4, .int z_10), (6, .int z_23)]) hx hb dX0_quoted_208 hl (k := 5) rfl (by rw [ez_96]; rfl) (by decide) rfl (fun ls hl => ?_)
                    have hz_96 : z_96.toInt = v5_12.toInt + 1 := by rw [ez_96]; exact jb_iadd2 (rfl) (by decide) (by omega)
                    refine lv_goto (tgt := 23) hx hb dX0_quoted_211 (by decide) ?_
                    refine W.tight (c2 := ((zcx_12 + ((m_qa_78 - nrow_85) / 16)) + ((m_qa_90 - m_qa_78) / 16))) (n2 := ((zsx_12 + (2 * (m_qa_78 - nrow_85))) + (2 * (m_qa_90 - m_qa_78)))) hh_95.2.2.2.2.2.1 hh_95.2.2.2.2.2.2.1 ?_
                    exact L23 G_90 ((zcx_12 + ((m_qa_78 - nrow_85) / 16)) + ((m_qa_90 - m_qa_78) / 16)) ((zsx_12 + (2 * (m_qa_78 - nrow_85))) + (2 * (m_qa_90 - m_qa_78))) z_96 qc_90 qa_90 m_qa_90 _ _ hh_95 (hNn_90) (((hle_12).tr hb_782).tr hb_902) hgq_90_0 (by first | omega | (refine ⟨?_, ?_, ?_, ?_, ?_, ?_, ?_, ?_, ?_⟩ <;> (first | omega | rfl | assumption | decide | exact Or.inl rfl | exact Or.inr rfl | (simp only; omega)))) (by omega) _ (lv_sub hl [1, 2, 3, 4, 5, 0] rfl)
              · skip
                have c_43' : z_23.toInt < 32 := jb_ge_n (rfl) ((by decide)) c_43
                refine lv_aload_n hx hb dX0_quoted_126 rfl (lv_at hl 0 rfl) ?_
                refine va_ldcS hx hb hown rstr67 dX0_quoted_127 ?_
                obtain ⟨v_99, hv_99, hh_100⟩ := hh_25.pin (C := RX0) (T := TX0) (N := 2) hB2 rfl (by decide) hg_13 (i := 1) (by decide) rfl
                obtain ⟨count_101, rfl, hlocount_101, hhicount_101, hfxcount_101⟩ := hv_99
                obtain ⟨v_102, hv_102, hh_103⟩ := hh_100.pin (C := RX0) (T := TX0) (N := 2) hB2 rfl (by decide) hg_13 (i := 0) (by decide) rfl
                obtain ⟨row_104, nrow_104, rfl, hg_row_104, hlorow_104, hhirow_104, hpwrow_104, hfxrow_104⟩ := hv_102
                have hsz_97 := hh_103.2.2.2.2.2.1
                have htt_97 := hh_103.2.2.2.2.2.2.1
                refine W.room (fun hrc_97 hrs_97 => ?_)
                refine va_callv (A0 := jA base) (H0 := s.heap) (va_runV (As := [.ref str67]) (rest := []) ⟨hx, hb, hml, hown, hts⟩ (uX0_text l dC dI ca base B hB hAp hB2 hB196 Gx_12 H_25 r0 str67 4 count_101 row_104 nrow_104 LC LS) (cwV 1 hts (jgV (jWr_25 _ (List.mem_of_getElem? (i := 21) rfl)) (jWr_25 _ (List.mem_of_getElem? (i := 22) rfl)) (jWr_25 _ (List.mem_of_getElem? (i := 23) rfl)) (jWr_1 _ (List.mem_of_getElem? (i := 14) rfl)) (jWr_26 _ (List.mem_of_getElem? (i := 0) rfl))) rfl rfl rfl (by decide +kernel) ⟨by rw [← hR]; exact Nat.le_of_ble_eq_true rfl, by rw [← hR]; exact Nat.le_of_ble_eq_true rfl⟩) ⟨fun a U g mk q => by obtain ⟨q0, q1, q2, qK, q10, q11, q12, q13, q14⟩ := q; exact ⟨q0, q1, q2, jG.calling g mk a qK, (q10.moved (Vm.Alike.refl U.vm)), q11, q12, q13, q14⟩, hh_103.recv (C := RX0) (T := TX0) (N := 2) hB2 rfl (by decide) hg_13 hK, fun U hU hW => ⟨rfl, hU, hh_103.2.1, hG.step hW hU hh_103.1, (hstr67.moved hW.alike).kept hh_103.1.2.1, hg_13, hg_row_104, (hh_103.2.2.1.sub (L1 := [(r0, 2, 1, .int count_101), (r0, 2, 0, .ref row_104)]) [1, 0] rfl), by first | omega | (refine ⟨?_, ?_, ?_, ?_, ?_, ?_⟩ <;> (first | omega | rfl | assumption | decide | exact Or.inl rfl | exact Or.inr rfl | (simp only; omega)))⟩⟩ rfl rfl hl.1 rfl (lv_room (Nat.le_of_ble_eq_true rfl)) dX0_quoted_129 ⟨by rw [hRc]; omega, by rw [hRs]; omega⟩) hh_103.1 (fun q _ h => h) (fun q h => h) (fun u_97 t_97 H_97 locs_97 ht_97 hvm_97 hr_98 hb_97 hz_97 hk_97 hS_97 => ?_)
                obtain ⟨qc_97, qa_97, m_qa_97, G_97⟩ := u_97
                rw [ht_97] at hb_97
                simp only at hb_97
                obtain ⟨⟨hb_971, hb_972, hb_973, hb_974, hb_975, hb_976⟩, hgq_97_0, hN_97, hbO_97⟩ := hb_97
                have hh_97 : jSt (dC, dI) B base G0 G_97 EX0_quoted s.heap (zcx_12 + ((m_qa_97 - nrow_104) / 16)) (zsx_12 + (2 * (m_qa_97 - nrow_104))) [(r0, 2, 1, .int qc_97), (r0, 2, 0, .ref qa_97)] [] [] H_97 locs_97 := (hh_103.callG hb_971 hb_972 hb_973 hb_974 hb_975 hS_97 rfl (L1 := []) [] rfl rfl (M1 := []) [] rfl rfl (I1 := []) [] rfl rfl).more hb_976
                have hNn_97 : (jNk [0, 1, 2, 3, 4, 5, 6, 7, 8, 9, 10, 11, 12, 13, 14, 15, 16]) G0 G_97 := (hN_12).tr hN_97
                have hg_105 := hb_972 _ _ hg_13
                have hg_106 := hb_972 _ _ hg_14
                have hd_107 := jOw.tr (hh_103.iv 0 rfl) hh_103.2.2.2.2.1 hbO_97
                have hh_108 := hh_97.addI (jOw.ie (dC := dC) (dI := dI) (G0 := G0) (k := 2) (r := r0) (H0 := s.heap) (F := [(2, 0), (2, 1)]) (C := RX0) (T := TX0) (N := 2) rfl (by decide) hh_97.2.2.2.2.1 (hd_107))
                clear hh_97
                try simp only at hr_98
                obtain ⟨hr_98_0, hr_98_1, hr_98_2, hr_98_3, hr_98_4⟩ := hr_98
                refine lv_aload_n hx hb dX0_quoted_132 rfl (lv_at hl 0 rfl) ?_
                refine lv_bipush (v := 48) hx hb dX0_quoted_133 (by decide) ?_
                refine lv_iload hx hb dX0_quoted_135 (lv_at hl 6 rfl) ?_
                refine lv_iconst (v := 4) hx hb dX0_quoted_137 (by decide) ?_
                refine lv_ishr hx hb dX0_quoted_138 ?_
                refine lv_topi (fun z_109 ez_109 => ?_)
                have hz_109 : z_109.toInt = z_23.toInt / 2 ^ 4 := by rw [ez_109]; exact jb_ishr 4 (rfl) (by decide)
                refine lv_iadd hx hb dX0_quoted_139 ?_
                refine lv_topi (fun z_110 ez_110 => ?_)
                have hsz_111 := hh_108.2.2.2.2.2.1
                have htt_111 := hh_108.2.2.2.2.2.2.1
                refine W.room (fun hrc_111 hrs_111 => ?_)
                refine va_callv (A0 := jA base) (H0 := s.heap) (va_runV (As := [.int z_110]) (rest := []) ⟨hx, hb, hml, hown, hts⟩ (uX0_put l dC dI ca base B hB hAp hB2 hB196 G_97 H_97 r0 z_110 qc_97 qa_97 m_qa_97 LC LS) (cwV 1 hts (jgV (jWr_24 _ (List.mem_of_getElem? (i := 22) rfl)) (jWr_16 _ (List.mem_of_getElem? (i := 0) rfl)) (jWr_16 _ (List.mem_of_getElem? (i := 1) rfl)) (jWr_1 _ (List.mem_of_getElem? (i := 14) rfl)) (jWr_16 _ (List.mem_of_getElem? (i := 2) rfl))) rfl rfl rfl (by decide +kernel) ⟨by rw [← hR]; exact Nat.le_of_ble_eq_true rfl, by rw [← hR]; exact Nat.le_of_ble_eq_true rfl⟩) ⟨fun a U g mk q => by obtain ⟨q0, q1, q2, qK, q10, q11, q12, q13⟩ := q; exact ⟨q0, q1, q2, jG.calling g mk a qK, q10, q11, q12, q13⟩, hh_108.recv (C := RX0) (T := TX0) (N := 2) hB2 rfl (by decide) hg_105 hK, fun U hU hW => ⟨rfl, hU, hh_108.2.1, hG.step hW hU hh_108.1, hg_105, hgq_97_0, (hh_108.2.2.1.sub (L1 := [(r0, 2, 1, .int qc_97), (r0, 2, 0, .ref qa_97)]) [0, 1] rfl), by first | omega | (refine ⟨?_, ?_, ?_, ?_, ?_⟩ <;> (first | omega | rfl | assumption | decide | exact Or.inl rfl | exact Or.inr rfl | (simp only; omega)))⟩⟩ rfl rfl hl.1 rfl (lv_room (Nat.le_of_ble_eq_true rfl)) dX0_quoted_140 ⟨by rw [hRc]; omega, by rw [hRs]; omega⟩) hh_108.1 (fun q _ h => h) (fun q h => h) (fun u_111 t_111 H_111 locs_111 ht_111 hvm_111 hr_112 hb_111 hz_111 hk_111 hS_111 => ?_)
                obtain ⟨qc_111, qa_111, m_qa_111, G_111⟩ := u_111
                rw [ht_111] at hb_111
                simp only at hb_111
                obtain ⟨⟨hb_1111, hb_1112, hb_1113, hb_1114, hb_1115, hb_1116⟩, hgq_111_0, hN_111, hbO_111⟩ := hb_111
                have hh_111 : jSt (dC, dI) B base G0 G_111 EX0_quoted s.heap ((zcx_12 + ((m_qa_97 - nrow_104) / 16)) + ((m_qa_111 - m_qa_97) / 16)) ((zsx_12 + (2 * (m_qa_97 - nrow_104))) + (2 * (m_qa_111 - m_qa_97))) [(r0, 2, 1, .int qc_111), (r0, 2, 0, .ref qa_111)] [] [] H_111 locs_111 := (hh_108.callG hb_1111 hb_1112 hb_1113 hb_1114 hb_1115 hS_111 rfl (L1 := []) [] rfl rfl (M1 := []) [] rfl rfl (I1 := []) [] rfl rfl).more hb_1116
                have hNn_111 : (jNk [0, 1, 2, 3, 4, 5, 6, 7, 8, 9, 10, 11, 12, 13, 14, 15, 16]) G0 G_111 := (hNn_97).tr hN_111
                have hg_113 := hb_1112 _ _ hg_105
                have hg_114 := hb_1112 _ _ hg_106
                have hd_115 := jOw.tr (hh_108.iv 0 rfl) hh_108.2.2.2.2.1 hbO_111
                have hh_116 := hh_111.addI (jOw.ie (dC := dC) (dI := dI) (G0 := G0) (k := 2) (r := r0) (H0 := s.heap) (F := [(2, 0), (2, 1)]) (C := RX0) (T := TX0) (N := 2) rfl (by decide) hh_111.2.2.2.2.1 (hd_115))
                clear hh_111
                try simp only at hr_112
                obtain ⟨hr_112_0, hr_112_1, hr_112_2, hr_112_3, hr_112_4⟩ := hr_112
                refine lv_aload_n hx hb dX0_quoted_143 rfl (lv_at hl 0 rfl) ?_
                refine lv_iload hx hb dX0_quoted_144 (lv_at hl 6 rfl) ?_
                refine lv_bipush (v := 15) hx hb dX0_quoted_146 (by decide) ?_
                refine lv_iand hx hb dX0_quoted_148 ?_
                refine lv_topi (fun z_117 ez_117 => ?_)
                have hz_117 : 0 ≤ z_117.toInt ∧ z_117.toInt ≤ 15 := by rw [ez_117]; exact jb_and z_23 (m := 15) (k := 4) (by decide) (by decide)
                refine lv_bipush (v := 10) hx hb dX0_quoted_149 (by decide) ?_
                refine lv_icmp_ge (tgt := 165) hx hb dX0_quoted_151 (by decide) (fun c_118 => ?_) (fun c_118 => ?_)
                · skip
                  have c_118' : z_117.toInt ≥ 10 := jb_ge (rfl) ((by decide)) c_118
                  refine lv_bipush (v := 97) hx hb dX0_quoted_165 (by decide) ?_
                  refine lv_iload hx hb dX0_quoted_167 (lv_at hl 6 rfl) ?_
                  refine lv_bipush (v := 15) hx hb dX0_quoted_169 (by decide) ?_
                  refine lv_iand hx hb dX0_quoted_171 ?_
                  refine lv_topi (fun z_119 ez_119 => ?_)
                  have hz_119 : 0 ≤ z_119.toInt ∧ z_119.toInt ≤ 15 := by rw [ez_119]; exact jb_and z_23 (m := 15) (k := 4) (by decide) (by decide)
                  refine lv_iadd hx hb dX0_quoted_172 ?_
                  refine lv_topi (fun z_120 ez_120 => ?_)
                  refine lv_bipush (v := 10) hx hb dX0_quoted_173 (by decide) ?_
                  refine lv_isub hx hb dX0_quoted_175 ?_
                  refine lv_topi (fun z_121 ez_121 => ?_)
                  have hsz_122 := hh_116.2.2.2.2.2.1
                  have htt_122 := hh_116.2.2.2.2.2.2.1
                  refine W.room (fun hrc_122 hrs_122 => ?_)
                  refine va_callv (A0 := jA base) (H0 := s.heap) (va_runV (As := [.int z_121]) (rest := []) ⟨hx, hb, hml, hown, hts⟩ (uX0_put l dC dI ca base B hB hAp hB2 hB196 G_111 H_111 r0 z_121 qc_111 qa_111 m_qa_111 LC LS) (cwV 1 hts (jgV (jWr_24 _ (List.mem_of_getElem? (i := 22) rfl)) (jWr_16 _ (List.mem_of_getElem? (i := 0) rfl)) (jWr_16 _ (List.mem_of_getElem? (i := 1) rfl)) (jWr_1 _ (List.mem_of_getElem? (i := 14) rfl)) (jWr_16 _ (List.mem_of_getElem? (i := 2) rfl))) rfl rfl rfl (by decide +kernel) ⟨by rw [← hR]; exact Nat.le_of_ble_eq_true rfl, by rw [← hR]; exact Nat.le_of_ble_eq_true rfl⟩) ⟨fun a U g mk q => by obtain ⟨q0, q1, q2, qK, q10, q11, q12, q13⟩ := q; exact ⟨q0, q1, q2, jG.calling g mk a qK, q10, q11, q12, q13⟩, hh_116.recv (C := RX0) (T := TX0) (N := 2) hB2 rfl (by decide) hg_113 hK, fun U hU hW => ⟨rfl, hU, hh_116.2.1, hG.step hW hU hh_116.1, hg_113, hgq_111_0, (hh_116.2.2.1.sub (L1 := [(r0, 2, 1, .int qc_111), (r0, 2, 0, .ref qa_111)]) [0, 1] rfl), by first | omega | (refine ⟨?_, ?_, ?_, ?_, ?_⟩ <;> (first | omega | rfl | assumption | decide | exact Or.inl rfl | exact Or.inr rfl | (simp only; omega)))⟩⟩ rfl rfl hl.1 rfl (lv_room (Nat.le_of_ble_eq_true rfl)) dX0_quoted_176 ⟨by rw [hRc]; omega, by rw [hRs]; omega⟩) hh_116.1 (fun q _ h => h) (fun q h => h) (fun u_122 t_122 H_122 locs_122 ht_122 hvm_122 hr_123 hb_122 hz_122 hk_122 hS_122 => ?_)
                  obtain ⟨qc_122, qa_122, m_qa_122, G_122⟩ := u_122
                  rw [ht_122] at hb_122
                  simp only at hb_122
                  obtain ⟨⟨hb_1221, hb_1222, hb_1223, hb_1224, hb_1225, hb_1226⟩, hgq_122_0, hN_122, hbO_122⟩ := hb_122
                  have hh_122 : jSt (dC, dI) B base G0 G_122 EX0_quoted s.heap (((zcx_12 + ((m_qa_97 - nrow_104) / 16)) + ((m_qa_111 - m_qa_97) / 16)) + ((m_qa_122 - m_qa_111) / 16)) (((zsx_12 + (2 * (m_qa_97 - nrow_104))) + (2 * (m_qa_111 - m_qa_97))) + (2 * (m_qa_122 - m_qa_111))) [(r0, 2, 1, .int qc_122), (r0, 2, 0, .ref qa_122)] [] [] H_122 locs_122 := (hh_116.callG hb_1221 hb_1222 hb_1223 hb_1224 hb_1225 hS_122 rfl (L1 := []) [] rfl rfl (M1 := []) [] rfl rfl (I1 := []) [] rfl rfl).more hb_1226
                  have hNn_122 : (jNk [0, 1, 2, 3, 4, 5, 6, 7, 8, 9, 10, 11, 12, 13, 14, 15, 16]) G0 G_122 := (hNn_111).tr hN_122
                  have hg_124 := hb_1222 _ _ hg_113
                  have hg_125 := hb_1222 _ _ hg_114
                  have hd_126 := jOw.tr (hh_116.iv 0 rfl) hh_116.2.2.2.2.1 hbO_122
                  have hh_127 := hh_122.addI (jOw.ie (dC := dC) (dI := dI) (G0 := G0) (k := 2) (r := r0) (H0 := s.heap) (F := [(2, 0), (2, 1)]) (C := RX0) (T := TX0) (N := 2) rfl (by decide) hh_122.2.2.2.2.1 (hd_126))
                  clear hh_122
                  try simp only at hr_123
                  obtain ⟨hr_123_0, hr_123_1, hr_123_2, hr_123_3, hr_123_4⟩ := hr_123
                  refine lv_goto (tgt := 208) hx hb dX0_quoted_179 (by decide) ?_
                  obtain ⟨z_128, ez_128⟩ : ∃ y : Int32, y = v5_12 + 1 := ⟨_, rfl⟩
                  refine lv_iinc (v := z_128) (lv' := [(5, .int z_128), (0, .ref r0), (1, .ref r1), (2, .int a2), (3, .int a3), (4, .int z_10), (6, .int z_23)]) hx hb dX0_quoted_208 hl (k := 5) rfl (by rw [ez_128]; rfl) (by decide) rfl (fun ls hl => ?_)
                  have hz_128 : z_128.toInt = v5_12.toInt + 1 := by rw [ez_128]; exact jb_iadd2 (rfl) (by decide) (by omega)
                  refine lv_goto (tgt := 23) hx hb dX0_quoted_211 (by decide) ?_
                  refine W.tight (c2 := (((zcx_12 + ((m_qa_97 - nrow_104) / 16)) + ((m_qa_111 - m_qa_97) / 16)) + ((m_qa_122 - m_qa_111) / 16))) (n2 := (((zsx_12 + (2 * (m_qa_97 - nrow_104))) + (2 * (m_qa_111 - m_qa_97))) + (2 * (m_qa_122 - m_qa_111)))) hh_127.2.2.2.2.2.1 hh_127.2.2.2.2.2.2.1 ?_
                  exact L23 G_122 (((zcx_12 + ((m_qa_97 - nrow_104) / 16)) + ((m_qa_111 - m_qa_97) / 16)) + ((m_qa_122 - m_qa_111) / 16)) (((zsx_12 + (2 * (m_qa_97 - nrow_104))) + (2 * (m_qa_111 - m_qa_97))) + (2 * (m_qa_122 - m_qa_111))) z_128 qc_122 qa_122 m_qa_122 _ _ hh_127 (hNn_122) ((((hle_12).tr hb_972).tr hb_1112).tr hb_1222) hgq_122_0 (by first | omega | (refine ⟨?_, ?_, ?_, ?_, ?_, ?_, ?_, ?_, ?_⟩ <;> (first | omega | rfl | assumption | decide | exact Or.inl rfl | exact Or.inr rfl | (simp only; omega)))) (by omega) _ (lv_sub hl [1, 2, 3, 4, 5, 0] rfl)
                · skip
                  have c_118' : z_117.toInt < 10 := jb_ge_n (rfl) ((by decide)) c_118
                  refine lv_bipush (v := 48) hx hb dX0_quoted_154 (by decide) ?_
                  refine lv_iload hx hb dX0_quoted_156 (lv_at hl 6 rfl) ?_
                  refine lv_bipush (v := 15) hx hb dX0_quoted_158 (by decide) ?_
                  refine lv_iand hx hb dX0_quoted_160 ?_
                  refine lv_topi (fun z_129 ez_129 => ?_)
                  have hz_129 : 0 ≤ z_129.toInt ∧ z_129.toInt ≤ 15 := by rw [ez_129]; exact jb_and z_23 (m := 15) (k := 4) (by decide) (by decide)
                  refine lv_iadd hx hb dX0_quoted_161 ?_
                  refine lv_topi (fun z_130 ez_130 => ?_)
                  refine lv_goto (tgt := 176) hx hb dX0_quoted_162 (by decide) ?_
                  have hsz_131 := hh_116.2.2.2.2.2.1
                  have htt_131 := hh_116.2.2.2.2.2.2.1
                  refine W.room (fun hrc_131 hrs_131 => ?_)
                  refine va_callv (A0 := jA base) (H0 := s.heap) (va_runV (As := [.int z_130]) (rest := []) ⟨hx, hb, hml, hown, hts⟩ (uX0_put l dC dI ca base B hB hAp hB2 hB196 G_111 H_111 r0 z_130 qc_111 qa_111 m_qa_111 LC LS) (cwV 1 hts (jgV (jWr_24 _ (List.mem_of_getElem? (i := 22) rfl)) (jWr_16 _ (List.mem_of_getElem? (i := 0) rfl)) (jWr_16 _ (List.mem_of_getElem? (i := 1) rfl)) (jWr_1 _ (List.mem_of_getElem? (i := 14) rfl)) (jWr_16 _ (List.mem_of_getElem? (i := 2) rfl))) rfl rfl rfl (by decide +kernel) ⟨by rw [← hR]; exact Nat.le_of_ble_eq_true rfl, by rw [← hR]; exact Nat.le_of_ble_eq_true rfl⟩) ⟨fun a U g mk q => by obtain ⟨q0, q1, q2, qK, q10, q11, q12, q13⟩ := q; exact ⟨q0, q1, q2, jG.calling g mk a qK, q10, q11, q12, q13⟩, hh_116.recv (C := RX0) (T := TX0) (N := 2) hB2 rfl (by decide) hg_113 hK, fun U hU hW => ⟨rfl, hU, hh_116.2.1, hG.step hW hU hh_116.1, hg_113, hgq_111_0, (hh_116.2.2.1.sub (L1 := [(r0, 2, 1, .int qc_111), (r0, 2, 0, .ref qa_111)]) [0, 1] rfl), by first | omega | (refine ⟨?_, ?_, ?_, ?_, ?_⟩ <;> (first | omega | rfl | assumption | decide | exact Or.inl rfl | exact Or.inr rfl | (simp only; omega)))⟩⟩ rfl rfl hl.1 rfl (lv_room (Nat.le_of_ble_eq_true rfl)) dX0_quoted_176 ⟨by rw [hRc]; omega, by rw [hRs]; omega⟩) hh_116.1 (fun q _ h => h) (fun q h => h) (fun u_131 t_131 H_131 locs_131 ht_131 hvm_131 hr_132 hb_131 hz_131 hk_131 hS_131 => ?_)
                  obtain ⟨qc_131, qa_131, m_qa_131, G_131⟩ := u_131
                  rw [ht_131] at hb_131
                  simp only at hb_131
                  obtain ⟨⟨hb_1311, hb_1312, hb_1313, hb_1314, hb_1315, hb_1316⟩, hgq_131_0, hN_131, hbO_131⟩ := hb_131
                  have hh_131 : jSt (dC, dI) B base G0 G_131 EX0_quoted s.heap (((zcx_12 + ((m_qa_97 - nrow_104) / 16)) + ((m_qa_111 - m_qa_97) / 16)) + ((m_qa_131 - m_qa_111) / 16)) (((zsx_12 + (2 * (m_qa_97 - nrow_104))) + (2 * (m_qa_111 - m_qa_97))) + (2 * (m_qa_131 - m_qa_111))) [(r0, 2, 1, .int qc_131), (r0, 2, 0, .ref qa_131)] [] [] H_131 locs_131 := (hh_116.callG hb_1311 hb_1312 hb_1313 hb_1314 hb_1315 hS_131 rfl (L1 := []) [] rfl rfl (M1 := []) [] rfl rfl (I1 := []) [] rfl rfl).more hb_1316
                  have hNn_131 : (jNk [0, 1, 2, 3, 4, 5, 6, 7, 8, 9, 10, 11, 12, 13, 14, 15, 16]) G0 G_131 := (hNn_111).tr hN_131
                  have hg_133 := hb_1312 _ _ hg_113
                  have hg_134 := hb_1312 _ _ hg_114
                  have hd_135 := jOw.tr (hh_116.iv 0 rfl) hh_116.2.2.2.2.1 hbO_131
                  have hh_136 := hh_131.addI (jOw.ie (dC := dC) (dI := dI) (G0 := G0) (k := 2) (r := r0) (H0 := s.heap) (F := [(2, 0), (2, 1)]) (C := RX0) (T := TX0) (N := 2) rfl (by decide) hh_131.2.2.2.2.1 (hd_135))
                  clear hh_131
                  try simp only at hr_132
                  obtain ⟨hr_132_0, hr_132_1, hr_132_2, hr_132_3, hr_132_4⟩ := hr_132
                  refine lv_goto (tgt := 208) hx hb dX0_quoted_179 (by decide) ?_
                  obtain ⟨z_137, ez_137⟩ : ∃ y : Int32, y = v5_12 + 1 := ⟨_, rfl⟩
                  refine lv_iinc (v := z_137) (lv' := [(5, .int z_137), (0, .ref r0), (1, .ref r1), (2, .int a2), (3, .int a3), (4, .int z_10), (6, .int z_23)]) hx hb dX0_quoted_208 hl (k := 5) rfl (by rw [ez_137]; rfl) (by decide) rfl (fun ls hl => ?_)
                  have hz_137 : z_137.toInt = v5_12.toInt + 1 := by rw [ez_137]; exact jb_iadd2 (rfl) (by decide) (by omega)
                  refine lv_goto (tgt := 23) hx hb dX0_quoted_211 (by decide) ?_
                  refine W.tight (c2 := (((zcx_12 + ((m_qa_97 - nrow_104) / 16)) + ((m_qa_111 - m_qa_97) / 16)) + ((m_qa_131 - m_qa_111) / 16))) (n2 := (((zsx_12 + (2 * (m_qa_97 - nrow_104))) + (2 * (m_qa_111 - m_qa_97))) + (2 * (m_qa_131 - m_qa_111)))) hh_136.2.2.2.2.2.1 hh_136.2.2.2.2.2.2.1 ?_
                  exact L23 G_131 (((zcx_12 + ((m_qa_97 - nrow_104) / 16)) + ((m_qa_111 - m_qa_97) / 16)) + ((m_qa_131 - m_qa_111) / 16)) (((zsx_12 + (2 * (m_qa_97 - nrow_104))) + (2 * (m_qa_111 - m_qa_97))) + (2 * (m_qa_131 - m_qa_111))) z_137 qc_131 qa_131 m_qa_131 _ _ hh_136 (hNn_131) ((((hle_12).tr hb_972).tr hb_1112).tr hb_1312) hgq_131_0 (by first | omega | (refine ⟨?_, ?_, ?_, ?_, ?_, ?_, ?_, ?_, ?_⟩ <;> (first | omega | rfl | assumption | decide | exact Or.inl rfl | exact Or.inr rfl | (simp only; omega)))) (by omega) _ (lv_sub hl [1, 2, 3, 4, 5, 0] rfl)
            · skip
              have c_42' : r_41.toInt ≠ 0 := jb_eq_n (rfl) ((by decide)) c_42
              refine lv_aload_n hx hb dX0_quoted_110 rfl (lv_at hl 0 rfl) ?_
              refine lv_ldc hx hb hown hcs_66 dX0_quoted_111 ?_
              obtain ⟨v_140, hv_140, hh_141⟩ := hh_25.pin (C := RX0) (T := TX0) (N := 2) hB2 rfl (by decide) hg_13 (i := 1) (by decide) rfl
              obtain ⟨count_142, rfl, hlocount_142, hhicount_142, hfxcount_142⟩ := hv_140
              obtain ⟨v_143, hv_143, hh_144⟩ := hh_141.pin (C := RX0) (T := TX0) (N := 2) hB2 rfl (by decide) hg_13 (i := 0) (by decide) rfl
              obtain ⟨row_145, nrow_145, rfl, hg_row_145, hlorow_145, hhirow_145, hpwrow_145, hfxrow_145⟩ := hv_143
              have hsz_138 := hh_144.2.2.2.2.2.1
              have htt_138 := hh_144.2.2.2.2.2.2.1
              refine W.room (fun hrc_138 hrs_138 => ?_)
              refine va_callv (A0 := jA base) (H0 := s.heap) (va_runV (As := [.int 65533]) (rest := []) ⟨hx, hb, hml, hown, hts⟩ (uX0_character l dC dI ca base B hB hAp hB2 hB196 Gx_12 H_25 r0 65533 count_142 row_145 nrow_145 LC LS) (cwV 1 hts (jgV (jWr_25 _ (List.mem_of_getElem? (i := 17) rfl)) (jWr_25 _ (List.mem_of_getElem? (i := 18) rfl)) (jWr_25 _ (List.mem_of_getElem? (i := 19) rfl)) (jWr_1 _ (List.mem_of_getElem? (i := 14) rfl)) (jWr_25 _ (List.mem_of_getElem? (i := 20) rfl))) rfl rfl rfl (by decide +kernel) ⟨by rw [← hR]; exact Nat.le_of_ble_eq_true rfl, by rw [← hR]; exact Nat.le_of_ble_eq_true rfl⟩) ⟨fun a U g mk q => by obtain ⟨q0, q1, q2, qK, q10, q11, q12, q13⟩ := q; exact ⟨q0, q1, q2, jG.calling g mk a qK, q10, q11, q12, q13⟩, hh_144.recv (C := RX0) (T := TX0) (N := 2) hB2 rfl (by decide) hg_13 hK, fun U hU hW => ⟨rfl, hU, hh_144.2.1, hG.step hW hU hh_144.1, hg_13, hg_row_145, (hh_144.2.2.1.sub (L1 := [(r0, 2, 1, .int count_142), (r0, 2, 0, .ref row_145)]) [1, 0] rfl), by first | omega | (refine ⟨?_, ?_, ?_, ?_, ?_⟩ <;> (first | omega | rfl | assumption | decide | exact Or.inl rfl | exact Or.inr rfl | (simp only; omega)))⟩⟩ rfl rfl hl.1 rfl (lv_room (Nat.le_of_ble_eq_true rfl)) dX0_quoted_113 ⟨by rw [hRc]; omega, by rw [hRs]; omega⟩) hh_144.1 (fun q _ h => h) (fun q h => h) (fun u_138 t_138 H_138 locs_138 ht_138 hvm_138 hr_139 hb_138 hz_138 hk_138 hS_138 => ?_)
              obtain ⟨qc_138, qa_138, m_qa_138, G_138⟩ := u_138
              rw [ht_138] at hb_138
              simp only at hb_138
              obtain ⟨⟨hb_1381, hb_1382, hb_1383, hb_1384, hb_1385, hb_1386⟩, hgq_138_0, hN_138, hbO_138⟩ := hb_138
              have hh_138 : jSt (dC, dI) B base G0 G_138 EX0_quoted s.heap (zcx_12 + ((m_qa_138 - nrow_145) / 16)) (zsx_12 + (2 * (m_qa_138 - nrow_145))) [(r0, 2, 1, .int qc_138), (r0, 2, 0, .ref qa_138)] [] [] H_138 locs_138 := (hh_144.callG hb_1381 hb_1382 hb_1383 hb_1384 hb_1385 hS_138 rfl (L1 := []) [] rfl rfl (M1 := []) [] rfl rfl (I1 := []) [] rfl rfl).more hb_1386
              have hNn_138 : (jNk [0, 1, 2, 3, 4, 5, 6, 7, 8, 9, 10, 11, 12, 13, 14, 15, 16]) G0 G_138 := (hN_12).tr hN_138
              have hg_146 := hb_1382 _ _ hg_13
              have hg_147 := hb_1382 _ _ hg_14
              have hd_148 := jOw.tr (hh_144.iv 0 rfl) hh_144.2.2.2.2.1 hbO_138
              have hh_149 := hh_138.addI (jOw.ie (dC := dC) (dI := dI) (G0 := G0) (k := 2) (r := r0) (H0 := s.heap) (F := [(2, 0), (2, 1)]) (C := RX0) (T := TX0) (N := 2) rfl (by decide) hh_138.2.2.2.2.1 (hd_148))
              clear hh_138
              try simp only at hr_139
              obtain ⟨hr_139_0, hr_139_1, hr_139_2, hr_139_3, hr_139_4⟩ := hr_139
              refine lv_goto (tgt := 208) hx hb dX0_quoted_116 (by decide) ?_
              obtain ⟨z_150, ez_150⟩ : ∃ y : Int32, y = v5_12 + 1 := ⟨_, rfl⟩
              refine lv_iinc (v := z_150) (lv' := [(5, .int z_150), (0, .ref r0), (1, .ref r1), (2, .int a2), (3, .int a3), (4, .int z_10), (6, .int z_23)]) hx hb dX0_quoted_208 hl (k := 5) rfl (by rw [ez_150]; rfl) (by decide) rfl (fun ls hl => ?_)
              have hz_150 : z_150.toInt = v5_12.toInt + 1 := by rw [ez_150]; exact jb_iadd2 (rfl) (by decide) (by omega)
              refine lv_goto (tgt := 23) hx hb dX0_quoted_211 (by decide) ?_
              refine W.tight (c2 := (zcx_12 + ((m_qa_138 - nrow_145) / 16))) (n2 := (zsx_12 + (2 * (m_qa_138 - nrow_145)))) hh_149.2.2.2.2.2.1 hh_149.2.2.2.2.2.2.1 ?_
              exact L23 G_138 (zcx_12 + ((m_qa_138 - nrow_145) / 16)) (zsx_12 + (2 * (m_qa_138 - nrow_145))) z_150 qc_138 qa_138 m_qa_138 _ _ hh_149 (hNn_138) ((hle_12).tr hb_1382) hgq_138_0 (by first | omega | (refine ⟨?_, ?_, ?_, ?_, ?_, ?_, ?_, ?_, ?_⟩ <;> (first | omega | rfl | assumption | decide | exact Or.inl rfl | exact Or.inr rfl | (simp only; omega)))) (by omega) _ (lv_sub hl [1, 2, 3, 4, 5, 0] rfl)
        refine lv_if_eq (tgt := 94) hx hb dX0_quoted_41 (by decide) (fun c_151 => ?_) (fun c_151 => ?_)
        · skip
          have c_151' : r_24.toInt = 0 := jb_eq (rfl) ((by decide)) c_151
          refine W.tight (c2 := zcx_12) (n2 := zsx_12) hh_12.2.2.2.2.2.1 hh_12.2.2.2.2.2.2.1 ?_
          exact C94  _ _ (hh_12.sub (L1 := []) [] rfl (M1 := []) [] rfl (I1 := [([(2, 0), (2, 1)], jOw (dC, dI) G0 2 r0 s.heap)]) [0] rfl) (trivial) _ (lv_sub hl [1, 2, 3, 4, 5, 6, 0] rfl)
        · skip
          have c_151' : r_24.toInt ≠ 0 := jb_eq_n (rfl) ((by decide)) c_151
          refine lv_iload hx hb dX0_quoted_44 (lv_at hl 6 rfl) ?_
          refine lv_iconst (v := 1) hx hb dX0_quoted_46 (by decide) ?_
          refine lv_iadd hx hb dX0_quoted_47 ?_
          refine lv_topi (fun z_152 ez_152 => ?_)
          have hz_152 : z_152.toInt = v5_12.toInt + 1 := by rw [ez_152]; exact jb_iadd2 (rfl) ((by decide)) (by omega)
          refine lv_iload hx hb dX0_quoted_48 (lv_at hl 5 rfl) ?_
          refine lv_icmp_ge (tgt := 94) hx hb dX0_quoted_50 (by decide) (fun c_153 => ?_) (fun c_153 => ?_)
          · skip
            have c_153' : z_152.toInt ≥ z_10.toInt := jb_ge (rfl) (rfl) c_153
            refine W.tight (c2 := zcx_12) (n2 := zsx_12) hh_12.2.2.2.2.2.1 hh_12.2.2.2.2.2.2.1 ?_
            exact C94  _ _ (hh_12.sub (L1 := []) [] rfl (M1 := []) [] rfl (I1 := [([(2, 0), (2, 1)], jOw (dC, dI) G0 2 r0 s.heap)]) [0] rfl) (trivial) _ (lv_sub hl [1, 2, 3, 4, 5, 6, 0] rfl)
          · skip
            have c_153' : z_152.toInt < z_10.toInt := jb_ge_n (rfl) (rfl) c_153
            refine lv_aload_n hx hb dX0_quoted_53 rfl (lv_at hl 2 rfl) ?_
            refine lv_iload hx hb dX0_quoted_54 (lv_at hl 6 rfl) ?_
            refine lv_iconst (v := 1) hx hb dX0_quoted_56 (by decide) ?_
            refine lv_iadd hx hb dX0_quoted_57 ?_
            refine lv_topi (fun z_154 ez_154 => ?_)
            have hz_154 : z_154.toInt = v5_12.toInt + 1 := by rw [ez_154]; exact jb_iadd2 (rfl) ((by decide)) (by omega)
            refine j7_iald hx hb hK hh_12 hB101 1 rfl (by decide) hg_14 (x := z_154.toInt) (rfl) (by omega) dX0_quoted_58 (fun z_155 (hz_155 : True) => ?_)
            refine vp_callSi (W.runS (As := [.int z_155]) (rest := []) ⟨hx, hb, hml, hown, hts⟩ (wX0_isLow l dC dI ca base H_12 z_155) (va_cwS 1 hts (jgS (jWr_25 _ (List.mem_of_getElem? (i := 16) rfl)) (jWr_21 _ (List.mem_of_getElem? (i := 10) rfl)) (jWr_1 _ (List.mem_of_getElem? (i := 14) rfl)) (jWr_21 _ (List.mem_of_getElem? (i := 11) rfl))) rfl rfl rfl (by decide +kernel) ⟨by rw [← hR]; exact Nat.le_of_ble_eq_true rfl, by rw [← hR]; exact Nat.le_of_ble_eq_true rfl⟩) ⟨fun a U g mk q => by obtain ⟨q0, q1, qK, q9⟩ := q; exact ⟨q0, q1, jG.calling g mk a qK, q9⟩, fun U hU hW => ⟨rfl, hU, hG.step hW hU hh_12.1, by first | trivial | omega | (constructor <;> omega)⟩⟩ rfl rfl hl.1 rfl (lv_room (Nat.le_of_ble_eq_true rfl)) dX0_quoted_59 ⟨Nat.zero_le _, Nat.zero_le _⟩) (fun r_156 hr_156 => ?_)
            have hr_156' : r_156.toInt = 0 ∨ r_156.toInt = 1 := jb_01 hr_156
            refine lv_if_eq (tgt := 94) hx hb dX0_quoted_62 (by decide) (fun c_157 => ?_) (fun c_157 => ?_)
            · skip
              have c_157' : r_156.toInt = 0 := jb_eq (rfl) ((by decide)) c_157
              refine W.tight (c2 := zcx_12) (n2 := zsx_12) hh_12.2.2.2.2.2.1 hh_12.2.2.2.2.2.2.1 ?_
              exact C94  _ _ (hh_12.sub (L1 := []) [] rfl (M1 := []) [] rfl (I1 := [([(2, 0), (2, 1)], jOw (dC, dI) G0 2 r0 s.heap)]) [0] rfl) (trivial) _ (lv_sub hl [1, 2, 3, 4, 5, 6, 0] rfl)
            · skip
              have c_157' : r_156.toInt ≠ 0 := jb_eq_n (rfl) ((by decide)) c_157
              obtain ⟨z_158, ez_158⟩ : ∃ y : Int32, y = v5_12 + 1 := ⟨_, rfl⟩
              refine lv_iinc (v := z_158) (lv' := [(5, .int z_158), (6, .int z_23), (0, .ref r0), (1, .ref r1), (2, .int a2), (3, .int a3), (4, .int z_10)]) hx hb dX0_quoted_65 hl (k := 6) rfl (by rw [ez_158]; rfl) (by decide) rfl (fun ls hl => ?_)
              have hz_158 : z_158.toInt = v5_12.toInt + 1 := by rw [ez_158]; exact jb_iadd2 (rfl) (by decide) (by omega)
              refine lv_aload_n hx hb dX0_quoted_68 rfl (lv_at hl 2 rfl) ?_
              refine lv_ldc hx hb hown hcs_60 dX0_quoted_69 ?_
              refine lv_iload hx hb dX0_quoted_71 (lv_at hl 1 rfl) ?_
              refine lv_ldc hx hb hown hcs_61 dX0_quoted_73 ?_
              refine lv_isub hx hb dX0_quoted_75 ?_
              refine lv_topi (fun z_159 ez_159 => ?_)
              refine lv_bipush (v := 10) hx hb dX0_quoted_76 (by decide) ?_
              refine lv_ishl hx hb dX0_quoted_78 ?_
              refine lv_topi (fun z_160 ez_160 => ?_)
              refine lv_iadd hx hb dX0_quoted_79 ?_
              refine lv_topi (fun z_161 ez_161 => ?_)
              refine lv_aload_n hx hb dX0_quoted_80 rfl (lv_at hl 3 rfl) ?_
              refine lv_iload hx hb dX0_quoted_81 (lv_at hl 0 rfl) ?_
              refine j7_iald hx hb hK hh_12 hB101 1 rfl (by decide) hg_14 (x := z_158.toInt) (rfl) (by omega) dX0_quoted_83 (fun z_162 (hz_162 : True) => ?_)
              refine lv_iadd hx hb dX0_quoted_84 ?_
              refine lv_topi (fun z_163 ez_163 => ?_)
              refine lv_ldc hx hb hown hcs_62 dX0_quoted_85 ?_
              refine lv_isub hx hb dX0_quoted_87 ?_
              refine lv_topi (fun z_164 ez_164 => ?_)
              have hsz_165 := hh_12.2.2.2.2.2.1
              have htt_165 := hh_12.2.2.2.2.2.2.1
              refine W.room (fun hrc_165 hrs_165 => ?_)
              refine va_callv (A0 := jA base) (H0 := s.heap) (va_runV (As := [.int z_164]) (rest := []) ⟨hx, hb, hml, hown, hts⟩ (uX0_character l dC dI ca base B hB hAp hB2 hB196 Gx_12 H_12 r0 z_164 wc_12 wr_12 m_wr_12 LC LS) (cwV 1 hts (jgV (jWr_25 _ (List.mem_of_getElem? (i := 17) rfl)) (jWr_25 _ (List.mem_of_getElem? (i := 18) rfl)) (jWr_25 _ (List.mem_of_getElem? (i := 19) rfl)) (jWr_1 _ (List.mem_of_getElem? (i := 14) rfl)) (jWr_25 _ (List.mem_of_getElem? (i := 20) rfl))) rfl rfl rfl (by decide +kernel) ⟨by rw [← hR]; exact Nat.le_of_ble_eq_true rfl, by rw [← hR]; exact Nat.le_of_ble_eq_true rfl⟩) ⟨fun a U g mk q => by obtain ⟨q0, q1, q2, qK, q10, q11, q12, q13⟩ := q; exact ⟨q0, q1, q2, jG.calling g mk a qK, q10, q11, q12, q13⟩, hh_12.recv (C := RX0) (T := TX0) (N := 2) hB2 rfl (by decide) hg_13 hK, fun U hU hW => ⟨rfl, hU, hh_12.2.1, hG.step hW hU hh_12.1, hg_13, hg_wr_12, (hh_12.2.2.1.sub (L1 := [(r0, 2, 1, .int wc_12), (r0, 2, 0, .ref wr_12)]) [0, 1] rfl), by first | omega | (refine ⟨?_, ?_, ?_, ?_, ?_⟩ <;> (first | omega | rfl | assumption | decide | exact Or.inl rfl | exact Or.inr rfl | (simp only; omega)))⟩⟩ rfl rfl hl.1 rfl (lv_room (Nat.le_of_ble_eq_true rfl)) dX0_quoted_88 ⟨by rw [hRc]; omega, by rw [hRs]; omega⟩) hh_12.1 (fun q _ h => h) (fun q h => h) (fun u_165 t_165 H_165 locs_165 ht_165 hvm_165 hr_166 hb_165 hz_165 hk_165 hS_165 => ?_)
              obtain ⟨qc_165, qa_165, m_qa_165, G_165⟩ := u_165
              rw [ht_165] at hb_165
              simp only at hb_165
              obtain ⟨⟨hb_1651, hb_1652, hb_1653, hb_1654, hb_1655, hb_1656⟩, hgq_165_0, hN_165, hbO_165⟩ := hb_165
              have hh_165 : jSt (dC, dI) B base G0 G_165 EX0_quoted s.heap (zcx_12 + ((m_qa_165 - m_wr_12) / 16)) (zsx_12 + (2 * (m_qa_165 - m_wr_12))) [(r0, 2, 1, .int qc_165), (r0, 2, 0, .ref qa_165)] [] [] H_165 locs_165 := (hh_12.callG hb_1651 hb_1652 hb_1653 hb_1654 hb_1655 hS_165 rfl (L1 := []) [] rfl rfl (M1 := []) [] rfl rfl (I1 := []) [] rfl rfl).more hb_1656
              have hNn_165 : (jNk [0, 1, 2, 3, 4, 5, 6, 7, 8, 9, 10, 11, 12, 13, 14, 15, 16]) G0 G_165 := (hN_12).tr hN_165
              have hg_167 := hb_1652 _ _ hg_13
              have hg_168 := hb_1652 _ _ hg_14
              have hd_169 := jOw.tr (hh_12.iv 0 rfl) hh_12.2.2.2.2.1 hbO_165
              have hh_170 := hh_165.addI (jOw.ie (dC := dC) (dI := dI) (G0 := G0) (k := 2) (r := r0) (H0 := s.heap) (F := [(2, 0), (2, 1)]) (C := RX0) (T := TX0) (N := 2) rfl (by decide) hh_165.2.2.2.2.1 (hd_169))
              clear hh_165
              try simp only at hr_166
              obtain ⟨hr_166_0, hr_166_1, hr_166_2, hr_166_3, hr_166_4⟩ := hr_166
              refine lv_goto (tgt := 208) hx hb dX0_quoted_91 (by decide) ?_
              obtain ⟨z_171, ez_171⟩ : ∃ y : Int32, y = z_158 + 1 := ⟨_, rfl⟩
              refine lv_iinc (v := z_171) (lv' := [(5, .int z_171), (6, .int z_23), (0, .ref r0), (1, .ref r1), (2, .int a2), (3, .int a3), (4, .int z_10)]) hx hb dX0_quoted_208 hl (k := 0) rfl (by rw [ez_171]; rfl) (by decide) rfl (fun ls hl => ?_)
              have hz_171 : z_171.toInt = z_158.toInt + 1 := by rw [ez_171]; exact jb_iadd2 (rfl) (by decide) (by omega)
              refine lv_goto (tgt := 23) hx hb dX0_quoted_211 (by decide) ?_
              refine W.tight (c2 := (zcx_12 + ((m_qa_165 - m_wr_12) / 16))) (n2 := (zsx_12 + (2 * (m_qa_165 - m_wr_12)))) hh_170.2.2.2.2.2.1 hh_170.2.2.2.2.2.2.1 ?_
              exact L23 G_165 (zcx_12 + ((m_qa_165 - m_wr_12) / 16)) (zsx_12 + (2 * (m_qa_165 - m_wr_12))) z_171 qc_165 qa_165 m_qa_165 _ _ hh_170 (hNn_165) ((hle_12).tr hb_1652) hgq_165_0 (by first | omega | (refine ⟨?_, ?_, ?_, ?_, ?_, ?_, ?_, ?_, ?_⟩ <;> (first | omega | rfl | assumption | decide | exact Or.inl rfl | exact Or.inr rfl | (simp only; omega)))) (by omega) _ (lv_sub hl [2, 3, 4, 5, 6, 0] rfl)
  refine W.tight (c2 := (0 + ((m_qa_2 - n_pa) / 16))) (n2 := (0 + (2 * (m_qa_2 - n_pa)))) hh_7.2.2.2.2.2.1 hh_7.2.2.2.2.2.2.1 ?_
  exact L23 (((z_10.toInt - (z_11 : Int32).toInt).toNat : Int) : Int).toNat.succ G_2 (0 + ((m_qa_2 - n_pa) / 16)) (0 + (2 * (m_qa_2 - n_pa))) z_11 qc_2 qa_2 m_qa_2 _ _ hh_7 (hNn_2) (jLe.rf) hgq_2_0 (by first | omega | (refine ⟨?_, ?_, ?_, ?_, ?_, ?_, ?_, ?_, ?_⟩ <;> (first | omega | rfl | assumption | decide | exact Or.inl rfl | exact Or.inr rfl | (simp only; omega)))) (by omega) _ (lv_sub hl [2, 3, 4, 5, 1, 0] rfl)
