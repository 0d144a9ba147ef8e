theorem dX6_write_0 : decode cX6_write 0 = .ok (.iload_n 1, 1) := by decide +kernel
theorem dX6_write_1 : decode cX6_write 1 = .ok (.ifCond .lt 11, 3) := by decide +kernel
theorem dX6_write_4 : decode cX6_write 4 = .ok (.iload_n 1, 1) := by decide +kernel
theorem dX6_write_5 : decode cX6_write 5 = .ok (.aload_n 0, 1) := by decide +kernel
theorem dX6_write_6 : decode cX6_write 6 = .ok (.getfield 52, 3) := by decide +kernel
theorem dX6_write_9 : decode cX6_write 9 = .ok (.if_icmp .lt 4, 3) := by decide +kernel
theorem dX6_write_12 : decode cX6_write 12 = .ok (.return_, 1) := by decide +kernel
theorem dX6_write_13 : decode cX6_write 13 = .ok (.aload_n 0, 1) := by decide +kernel
theorem dX6_write_14 : decode cX6_write 14 = .ok (.getfield 11, 3) := by decide +kernel
theorem dX6_write_17 : decode cX6_write 17 = .ok (.iload_n 1, 1) := by decide +kernel
theorem dX6_write_18 : decode cX6_write 18 = .ok (.laload, 1) := by decide +kernel
theorem dX6_write_19 : decode cX6_write 19 = .ok (.lstore 4, 2) := by decide +kernel
theorem dX6_write_21 : decode cX6_write 21 = .ok (.lload 4, 2) := by decide +kernel
theorem dX6_write_23 : decode cX6_write 23 = .ok (.lconst 1, 1) := by decide +kernel
theorem dX6_write_24 : decode cX6_write 24 = .ok (.lcmp, 1) := by decide +kernel
theorem dX6_write_25 : decode cX6_write 25 = .ok (.ifCond .le 29, 3) := by decide +kernel
theorem dX6_write_28 : decode cX6_write 28 = .ok (.aload_n 3, 1) := by decide +kernel
theorem dX6_write_29 : decode cX6_write 29 = .ok (.ldc 56, 2) := by decide +kernel
theorem dX6_write_31 : decode cX6_write 31 = .ok (.lload 4, 2) := by decide +kernel
theorem dX6_write_33 : decode cX6_write 33 = .ok (.ldc2_w 58, 3) := by decide +kernel
theorem dX6_write_36 : decode cX6_write 36 = .ok (.land, 1) := by decide +kernel
theorem dX6_write_37 : decode cX6_write 37 = .ok (.l2i, 1) := by decide +kernel
theorem dX6_write_38 : decode cX6_write 38 = .ok (.invokevirtual 30, 3) := by decide +kernel
theorem dX6_write_41 : decode cX6_write 41 = .ok (.invokevirtual 60, 3) := by decide +kernel
theorem dX6_write_44 : decode cX6_write 44 = .ok (.lload 4, 2) := by decide +kernel
theorem dX6_write_46 : decode cX6_write 46 = .ok (.bipush 6, 2) := by decide +kernel
theorem dX6_write_48 : decode cX6_write 48 = .ok (.lushr, 1) := by decide +kernel
theorem dX6_write_49 : decode cX6_write 49 = .ok (.lstore 4, 2) := by decide +kernel
theorem dX6_write_51 : decode cX6_write 51 = .ok (.goto (-30), 3) := by decide +kernel
theorem dX6_write_54 : decode cX6_write 54 = .ok (.iconst 0, 1) := by decide +kernel
theorem dX6_write_55 : decode cX6_write 55 = .ok (.istore 4, 2) := by decide +kernel
theorem dX6_write_57 : decode cX6_write 57 = .ok (.iload 4, 2) := by decide +kernel
theorem dX6_write_59 : decode cX6_write 59 = .ok (.aload_n 0, 1) := by decide +kernel
theorem dX6_write_60 : decode cX6_write 60 = .ok (.getfield 15, 3) := by decide +kernel
theorem dX6_write_63 : decode cX6_write 63 = .ok (.iload_n 1, 1) := by decide +kernel
theorem dX6_write_64 : decode cX6_write 64 = .ok (.iaload, 1) := by decide +kernel
theorem dX6_write_65 : decode cX6_write 65 = .ok (.iload_n 2, 1) := by decide +kernel
theorem dX6_write_66 : decode cX6_write 66 = .ok (.iadd, 1) := by decide +kernel
theorem dX6_write_67 : decode cX6_write 67 = .ok (.if_icmp .ge 15, 3) := by decide +kernel
theorem dX6_write_70 : decode cX6_write 70 = .ok (.aload_n 3, 1) := by decide +kernel
theorem dX6_write_71 : decode cX6_write 71 = .ok (.bipush 39, 2) := by decide +kernel
theorem dX6_write_73 : decode cX6_write 73 = .ok (.invokevirtual 60, 3) := by decide +kernel
theorem dX6_write_76 : decode cX6_write 76 = .ok (.iinc 4 1, 3) := by decide +kernel
theorem dX6_write_79 : decode cX6_write 79 = .ok (.goto (-22), 3) := by decide +kernel
theorem dX6_write_82 : decode cX6_write 82 = .ok (.return_, 1) := by decide +kernel
def EX6_write : List (Nat × Nat) := [(2, 0), (2, 1), (196, 0)]
def EX0_quoted : List (Nat × Nat) := [(2, 0), (2, 1), (196, 0)]
set_option maxHeartbeats 4000000 in
set_option maxRecDepth 20000 in
theorem uX6_write (l : Launch) (dC : Nat → ClassId) (dI : Nat → Nat → Nat) (ca : Nat → ClassId) (base : Nat) (B : jF) (hB : jBok B) (hAp : jAp (dC, dI)) (hB2 : ∀ n G a H, B 2 n G a H ↔ jOb (dC, dI) 2 2 (F2 n G) a H) (hB8 : ∀ n G a H, B 8 n G a H ↔ jOb (dC, dI) 8 4 (F8 n G) a H) (hB102 : ∀ n G a H, B 102 n G a H ↔ jAl (dC, dI) (ca 2) n a H) (hB132 : ∀ n G a H, B 132 n G a H ↔ jAr (dC, dI) (ca 1) (fun j z => 0 ≤ z.toInt ∧ z.toInt ≤ 10) n a H) (hB196 : ∀ n G a H, B 196 n G a H ↔ jAr (dC, dI) (ca 0) (fun j z => jBf j z) n a H) (G0 : jT) (H0 : Heap) (r0 : Nat) (a1 : Int32) (a2 : Int32) (r3 : Nat) (pc : Int32) (pa : Nat) (n_pa : Nat) (LC LS : Nat) : Met l yX6_write (jw yX6_write cX6_write 6 none) ({ frames := 4, cells := LC - H0.size, slots := LS - jTot H0, locals := 141 }) (va_Pc [.ref r0, .int a1, .int a2, .ref r3] (fun U => U.heap = H0 ∧ jX B base G0 [] H0 ∧ jG dC dI ca base U ∧ G0 r3 = some (2, 0) ∧ G0 r0 = some (8, 0) ∧ G0 pa = some (196, n_pa) ∧ jP (dC, dI) G0 H0 [(r3, 2, 1, .int pc), (r3, 2, 0, .ref pa)] ∧ H0.size + (1048576 - n_pa) / 16 + 1 ≤ LC ∧ jTot H0 + 2 * (1048576 - n_pa) ≤ LS ∧ 0 ≤ pc.toInt ∧ pc.toInt ≤ n_pa ∧ 16 ≤ n_pa ∧ n_pa ≤ 1048576 ∧ jPw n_pa)) (va_Qv (S := Int32 × Nat × Nat × jT) (fun u => 0 ≤ u.1.toInt ∧ u.1.toInt ≤ u.2.2.1 ∧ n_pa ≤ u.2.2.1 ∧ u.2.2.1 ≤ 1048576 ∧ jPw u.2.2.1) (fun u t => jRa (dC, dI) B base G0 u.2.2.2 EX6_write H0 ((u.2.2.1 - n_pa) / 16) (2 * (u.2.2.1 - n_pa)) [(r3, 2, 1, .int u.1), (r3, 2, 0, .ref u.2.1)] t.heap ∧ u.2.2.2 u.2.1 = some (196, u.2.2.1) ∧ (jNk [0, 1, 2, 3, 4, 5, 6, 7, 8, 9, 10, 11, 12, 13, 14, 15, 16]) G0 u.2.2.2 ∧ jOw (dC, dI) G0 2 r3 H0 t.heap) (jA base)) (LC - H0.size) (LS - jTot H0) (jA base) := by
  refine Met.ofW (cc := cX6_write) (maxL := 6) (ret := none) (by decide) rfl ?_
  intro p e s m args below meth c s₁ Bd hml hv
  obtain ⟨rfl, hH0, hX, hG, hg_r3, hg_r0, hg_pa, hP0, hLC0, hLS0, hp0, hp1, hp2, hp3, hp4⟩ := hv
  have hK := hG.1
  have hx := Bd.exec
  have hb := Bd.bytes
  have hr := Bd.returns
  have hts := atoms_spec (ws := (jw yX6_write cX6_write 6 none)) Bd.pre
  have htw : ∀ w ∈ jWl, w.before _ s = true := fun w h => hts w (List.mem_cons_of_mem _ h)
  have hown : s.vm.findClass RX6 = some m.cls := findClass_of_methodNamed Bd.named
  have hlocks := Bd.notSynchronized
  obtain ⟨Q, hQ⟩ : ∃ Q, Q = MQ below (va_Qv (S := Int32 × Nat × Nat × jT) (fun u => 0 ≤ u.1.toInt ∧ u.1.toInt ≤ u.2.2.1 ∧ n_pa ≤ u.2.2.1 ∧ u.2.2.1 ≤ 1048576 ∧ jPw u.2.2.1) (fun u t => jRa (dC, dI) B base G0 u.2.2.2 EX6_write H0 ((u.2.2.1 - n_pa) / 16) (2 * (u.2.2.1 - n_pa)) [(r3, 2, 1, .int u.1), (r3, 2, 0, .ref u.2.1)] t.heap ∧ u.2.2.2 u.2.1 = some (196, u.2.2.1) ∧ (jNk [0, 1, 2, 3, 4, 5, 6, 7, 8, 9, 10, 11, 12, 13, 14, 15, 16]) G0 u.2.2.2 ∧ jOw (dC, dI) G0 2 r3 H0 t.heap) (jA base)) ([.ref r0, .int a1, .int a2, .ref r3] : List Value).toArray s (LC - H0.size) (LS - jTot H0) (jA base) := ⟨_, rfl⟩
  rw [← hQ]
  have hl := lv_entry ([.ref r0, .int a1, .int a2, .ref r3]) (n := 6) (Nat.le_of_ble_eq_true rfl)
  rw [lg_entry_eq]
  generalize (lg_sl ([.ref r0, .int a1, .int a2, .ref r3]) ++ List.replicate (6 - (lg_sl ([.ref r0, .int a1, .int a2, .ref r3])).length) Slot.unset).toArray = ls at hl ⊢
  have hl : lv_has ls 6 [(0, .ref r0), (1, .int a1), (2, .int a2), (3, .ref r3)] := hl
  generalize hR : (headSpec (jw yX6_write cX6_write 6 none) ({ frames := 4, cells := LC - H0.size, slots := LS - jTot H0, locals := 141 })).room = R
  subst hH0
  have hh : jSt (dC, dI) B base G0 G0 EX6_write s.heap 0 0 [(r3, 2, 1, .int pc), (r3, 2, 0, .ref pa)] [] [] s.heap [] := jSt.start hX hP0 jMc.nil jIs.nil
  clear hX hP0
  have hk0 : (0 : Int32).toInt = 0 := by decide
  have hk1 : (1 : Int32).toInt = 1 := by decide
  have hk6 : (6 : Int32).toInt = 6 := by decide
  have hk39 : (39 : Int32).toInt = 39 := by decide
  have hly_8_0 := htw (u_lay RX6 TX6 0) (jWc_wsX60 _ (u_in_lay (by decide)))
  have hly_8_1 := htw (u_lay RX6 TX6 1) (jWc_wsX60 _ (u_in_lay (by decide)))
  have hly_8_3 := htw (u_lay RX6 TX6 3) (jWc_wsX60 _ (u_in_lay (by decide)))
  have hlk_52 := (htw (.fieldLink RX6 52 "ProofServer$Names" "count" "I") (jWr_8 _ (List.mem_of_getElem? (i := 3) rfl)))
  have hlk_11 := (htw (.fieldLink RX6 11 "ProofServer$Names" "stems" "[J") (jWr_5 _ (List.mem_of_getElem? (i := 9) rfl)))
  obtain ⟨str56, rstr56, hstr560⟩ := hG.str (o := RX6) (k := 56) (tx := "abcdefghijklmnopqrstuvwxyzABCDEFGHIJKLMNOPQRSTUVWXYZ0123456789_'") (List.mem_of_getElem? (i := 987) (by decide +kernel))
  have hstr56 : jStr base str56 64 s s.heap := hstr560
  have hlk_15 := (htw (.fieldLink RX6 15 "ProofServer$Names" "primes" "[I") (jWr_5 _ (List.mem_of_getElem? (i := 10) rfl)))
  have hrg_a1 := jb_rng a1
  have hrg_a2 := jb_rng a2
  have hbs : base ≤ s.heap.size := Nat.le_of_lt (Nat.lt_of_le_of_lt (hh.ab hg_r0).1 (hh.ab hg_r0).2)
  have hRc : R.cells = LC - s.heap.size := by rw [← hR]; rfl
  have hRs : R.slots = LS - jTot s.heap := by rw [← hR]; rfl
  have hh_1 := hh.addI (jOw.ie (dC := dC) (dI := dI) (G0 := G0) (k := 2) (r := r3) (H0 := s.heap) (F := [(2, 0), (2, 1)]) (C := RX0) (T := TX0) (N := 2) rfl (by decide) hh.2.2.2.2.1 (jOw.rf))
  clear hh
  refine lv_iload_n hx hb dX6_write_0 rfl (lv_at hl 1 rfl) ?_
  refine lv_if_lt (tgt := 12) hx hb dX6_write_1 (by decide) (fun c_2 => ?_) (fun c_2 => ?_)
  · skip
    have c_2' : a1.toInt < 0 := jb_lt (rfl) ((by decide)) c_2
    have hsz_3 := hh_1.2.2.2.2.2.1
    have htt_3 := hh_1.2.2.2.2.2.2.1
    refine W.room (fun hrc_3 hrs_3 => ?_)
    refine W.widen (k := LC - s.heap.size) (n := LS - jTot s.heap) (by omega) (by omega) ?_
    rw [hQ]
    exact W.vret hx hb hr (fun t ht hW => ⟨⟨(pc, pa, n_pa, G0), rfl, by (try dsimp only); exact ⟨(by first | omega | rfl | assumption | fail), (by first | omega | rfl | assumption | fail), (by first | omega | rfl | assumption | fail), (by first | omega | rfl | assumption | fail), (by first | assumption | fail | omega)⟩, ⟨hh_1.ra (by first | omega | (simp only; omega)) (by first | omega | (simp only; omega)) (M1 := [(r3, 2, 1, .int pc), (r3, 2, 0, .ref pa)]) [0, 1] rfl ht, hg_pa, jNk.rf, by rw [ht]; exact hh_1.iv 0 rfl⟩⟩, by rw [ht]; try exact hh_1.1.1, fun q h9 hq => by rw [ht]; try exact hh_1.1.2.1 q h9 hq⟩) hh_1.1.2.2 dX6_write_12
  · skip
    have c_2' : a1.toInt ≥ 0 := jb_lt_n (rfl) ((by decide)) c_2
    refine lv_iload_n hx hb dX6_write_4 rfl (lv_at hl 1 rfl) ?_
    refine lv_aload_n hx hb dX6_write_5 rfl (lv_at hl 0 rfl) ?_
    obtain ⟨v_4, hv_4, hh_5⟩ := hh_1.pin (C := RX6) (T := TX6) (N := 4) hB8 rfl (by decide) hg_r0 (i := 3) (by decide) rfl
    clear hh_1
    obtain ⟨count_6, rfl, hlocount_6, hhicount_6⟩ := hv_4
    refine j7_read hx hb hown hK (C := RX6) (T := TX6) (N := 4) rfl hly_8_3 hlk_52 (hh_5.at 0 rfl) dX6_write_6 ?_
    refine lv_icmp_lt (tgt := 13) hx hb dX6_write_9 (by decide) (fun c_7 => ?_) (fun c_7 => ?_)
    · skip
      have c_7' : a1.toInt < count_6.toInt := jb_lt (rfl) (rfl) c_7
      refine lv_aload_n hx hb dX6_write_13 rfl (lv_at hl 0 rfl) ?_
      obtain ⟨v_8, hv_8, hh_9⟩ := hh_5.pin (C := RX6) (T := TX6) (N := 4) hB8 rfl (by decide) hg_r0 (i := 0) (by decide) rfl
      clear hh_5
      obtain ⟨stems_10, rfl, hg_stems_10⟩ := hv_8
      refine j7_read hx hb hown hK (C := RX6) (T := TX6) (N := 4) rfl hly_8_0 hlk_11 (hh_9.at 0 rfl) dX6_write_14 ?_
      refine lv_iload_n hx hb dX6_write_17 rfl (lv_at hl 1 rfl) ?_
      refine j7_lald hx hb hK hh_9 hB102 2 rfl (by decide) hg_stems_10 (x := a1.toInt) (rfl) (by omega) dX6_write_18 (fun z_11 => ?_)
      refine lv_lstore (lv' := [(4, .long z_11), (0, .ref r0), (1, .int a1), (2, .int a2), (3, .ref r3)]) hx hb dX6_write_19 hl (by decide) rfl (fun ls hl => ?_)
      have L21 : ∀ (N : Nat) (Gx_12 : jT) (zcx_12 : Nat) (zsx_12 : Nat) (v4_12 : Int64) (wc_12 : Int32) (wr_12 : Nat) (m_wr_12 : Nat) (H_12 : Heap) (locs_12 : List Loc), jSt (dC, dI) B base G0 Gx_12 EX6_write s.heap zcx_12 zsx_12 [(r3, 2, 1, .int wc_12), (r3, 2, 0, .ref wr_12), (r0, 8, 0, .ref stems_10), (r0, 8, 3, .int count_6)] [] [([(2, 0), (2, 1)], jOw (dC, dI) G0 2 r3 s.heap)] H_12 locs_12 → (jNk [0, 1, 2, 3, 4, 5, 6, 7, 8, 9, 10, 11, 12, 13, 14, 15, 16]) G0 Gx_12 → jLe G0 Gx_12 → Gx_12 wr_12 = some (196, m_wr_12) → (0 ≤ wc_12.toInt ∧ wc_12.toInt ≤ m_wr_12 ∧ n_pa ≤ m_wr_12 ∧ m_wr_12 ≤ 1048576 ∧ jPw m_wr_12 ∧ zcx_12 ≤ (m_wr_12 - n_pa) / 16 ∧ zsx_12 ≤ 2 * (m_wr_12 - n_pa)) → (((v4_12.toInt).toNat : Int) : Int) < N → ∀ ls : Array Slot, lv_has ls 6 [(0, .ref r0), (1, .int a1), (2, .int a2), (3, .ref r3), (4, .long v4_12)] → W p l e R s m ([.ref r0, .int a1, .int a2, .ref r3] : List Value).toArray below meth c H_12 locs_12 zcx_12 zsx_12 Q (F0 m 21 ls []) := by
        intro N
        induction N with
        | zero => intro Gx_12 zcx_12 zsx_12 v4_12 wc_12 wr_12 m_wr_12 H_12 locs_12 hh_12 hN_12 hle_12 hg_wr_12 hi_12 hm; exact absurd hm (by omega)
        | succ N L21 =>
          intro Gx_12 zcx_12 zsx_12 v4_12 wc_12 wr_12 m_wr_12 H_12 locs_12 hh_12 hN_12 hle_12 hg_wr_12 hi_12 hm_12 ls hl
          have hg_13 := hle_12 _ _ hg_r0
          have hg_14 := hle_12 _ _ hg_r3
          have hg_15 := hle_12 _ _ hg_stems_10
          obtain ⟨hi_12_0, hi_12_1, hi_12_2, hi_12_3, hi_12_4, hi_12_5, hi_12_6⟩ := hi_12
          refine lv_lload hx hb dX6_write_21 (lv_at hl 4 rfl) ?_
          refine lv_lconst (v := 1) hx hb dX6_write_23 (by decide) ?_
          refine W.lcmp hx hb dX6_write_24 ?_
          refine lv_topi (fun z_16 ez_16 => ?_)
          have hz_16 := jb_lcmp ez_16
          have hqz_16_1 : (1 : Int64).toInt = 1 := by decide
          refine lv_if_le (tgt := 54) hx hb dX6_write_25 (by decide) (fun c_17 => ?_) (fun c_17 => ?_)
          · skip
            have c_17' : z_16.toInt ≤ 0 := jb_le (rfl) ((by decide)) c_17
            refine lv_iconst (v := 0) hx hb dX6_write_54 (by decide) ?_
            refine lv_istore (lv' := [(4, .int 0), (0, .ref r0), (1, .int a1), (2, .int a2), (3, .ref r3)]) hx hb dX6_write_55 hl (by decide) rfl (fun ls hl => ?_)
            have L57 : ∀ (N : Nat) (Gx_18 : jT) (zcx_18 : Nat) (zsx_18 : Nat) (v4_18 : Int32) (wc_18 : Int32) (wr_18 : Nat) (m_wr_18 : Nat) (H_18 : Heap) (locs_18 : List Loc), jSt (dC, dI) B base G0 Gx_18 EX6_write s.heap zcx_18 zsx_18 [(r3, 2, 1, .int wc_18), (r3, 2, 0, .ref wr_18), (r0, 8, 0, .ref stems_10), (r0, 8, 3, .int count_6)] [] [([(2, 0), (2, 1)], jOw (dC, dI) G0 2 r3 s.heap)] H_18 locs_18 → (jNk [0, 1, 2, 3, 4, 5, 6, 7, 8, 9, 10, 11, 12, 13, 14, 15, 16]) G0 Gx_18 → jLe Gx_12 Gx_18 → Gx_18 wr_18 = some (196, m_wr_18) → (0 ≤ wc_18.toInt ∧ wc_18.toInt ≤ m_wr_18 ∧ n_pa ≤ m_wr_18 ∧ m_wr_18 ≤ 1048576 ∧ jPw m_wr_18 ∧ zcx_18 ≤ (m_wr_18 - n_pa) / 16 ∧ zsx_18 ≤ 2 * (m_wr_18 - n_pa) ∧ 0 ≤ v4_18.toInt) → (2147483648 - v4_18.toInt : Int) < N → ∀ ls : Array Slot, lv_has ls 6 [(0, .ref r0), (1, .int a1), (2, .int a2), (3, .ref r3), (4, .int v4_18)] → W p l e R s m ([.ref r0, .int a1, .int a2, .ref r3] : List Value).toArray below meth c H_18 locs_18 zcx_18 zsx_18 Q (F0 m 57 ls []) := by
              intro N
              induction N with
              | zero => intro Gx_18 zcx_18 zsx_18 v4_18 wc_18 wr_18 m_wr_18 H_18 locs_18 hh_18 hN_18 hle_18 hg_wr_18 hi_18 hm; exact absurd hm (by omega)
              | succ N L57 =>
                intro Gx_18 zcx_18 zsx_18 v4_18 wc_18 wr_18 m_wr_18 H_18 locs_18 hh_18 hN_18 hle_18 hg_wr_18 hi_18 hm_18 ls hl
                have hg_19 := hle_18 _ _ hg_13
                have hg_20 := hle_18 _ _ hg_14
                have hg_21 := hle_18 _ _ hg_15
                obtain ⟨hi_18_0, hi_18_1, hi_18_2, hi_18_3, hi_18_4, hi_18_5, hi_18_6, hi_18_7⟩ := hi_18
                refine lv_iload hx hb dX6_write_57 (lv_at hl 4 rfl) ?_
                refine lv_aload_n hx hb dX6_write_59 rfl (lv_at hl 0 rfl) ?_
                obtain ⟨v_22, hv_22, hh_23⟩ := hh_18.pin (C := RX6) (T := TX6) (N := 4) hB8 rfl (by decide) hg_19 (i := 1) (by decide) rfl
                clear hh_18
                obtain ⟨primes_24, rfl, hg_primes_24⟩ := hv_22
                refine j7_read hx hb hown hK (C := RX6) (T := TX6) (N := 4) rfl hly_8_1 hlk_15 (hh_23.at 0 rfl) dX6_write_60 ?_
                refine lv_iload_n hx hb dX6_write_63 rfl (lv_at hl 1 rfl) ?_
                refine j7_iald hx hb hK hh_23 hB132 1 rfl (by decide) hg_primes_24 (x := a1.toInt) (rfl) (by omega) dX6_write_64 (fun z_25 (hz_25 : 0 ≤ z_25.toInt ∧ z_25.toInt ≤ 10) => ?_)
                refine lv_iload_n hx hb dX6_write_65 rfl (lv_at hl 2 rfl) ?_
                refine lv_iadd hx hb dX6_write_66 ?_
                refine lv_topi (fun z_26 ez_26 => ?_)
                refine lv_icmp_ge (tgt := 82) hx hb dX6_write_67 (by decide) (fun c_27 => ?_) (fun c_27 => ?_)
                · skip
                  have c_27' : v4_18.toInt ≥ z_26.toInt := jb_ge (rfl) (rfl) c_27
                  have hsz_28 := hh_23.2.2.2.2.2.1
                  have htt_28 := hh_23.2.2.2.2.2.2.1
                  refine W.room (fun hrc_28 hrs_28 => ?_)
                  refine W.widen (k := LC - s.heap.size) (n := LS - jTot s.heap) (by omega) (by omega) ?_
                  rw [hQ]
                  exact W.vret hx hb hr (fun t ht hW => ⟨⟨(wc_18, wr_18, m_wr_18, Gx_18), rfl, by (try dsimp only); exact ⟨(by first | omega | rfl | assumption | fail), (by first | omega | rfl | assumption | fail), (by first | omega | rfl | assumption | fail), (by first | omega | rfl | assumption | fail), (by first | assumption | fail | omega)⟩, ⟨hh_23.ra (by first | omega | (simp only; omega)) (by first | omega | (simp only; omega)) (M1 := [(r3, 2, 1, .int wc_18), (r3, 2, 0, .ref wr_18)]) [1, 2] rfl ht, hg_wr_18, hN_18, by rw [ht]; exact hh_23.iv 0 rfl⟩⟩, by rw [ht]; try exact hh_23.1.1, fun q h9 hq => by rw [ht]; try exact hh_23.1.2.1 q h9 hq⟩) hh_23.1.2.2 dX6_write_82
                · skip
                  have c_27' : v4_18.toInt < z_26.toInt := jb_ge_n (rfl) (rfl) c_27
                  refine lv_aload_n hx hb dX6_write_70 rfl (lv_at hl 3 rfl) ?_
                  refine lv_bipush (v := 39) hx hb dX6_write_71 (by decide) ?_
                  have hsz_29 := hh_23.2.2.2.2.2.1
                  have htt_29 := hh_23.2.2.2.2.2.2.1
                  refine W.room (fun hrc_29 hrs_29 => ?_)
                  refine va_callv (A0 := jA base) (H0 := s.heap) (va_runV (As := [.int 39]) (rest := []) ⟨hx, hb, hml, hown, hts⟩ (uX0_put l dC dI ca base B hB hAp hB2 hB196 Gx_18 H_18 r3 39 wc_18 wr_18 m_wr_18 LC LS) (cwV 1 hts (jgV (jWr_31 _ (List.mem_of_getElem? (i := 22) rfl)) (jWr_16 _ (List.mem_of_getElem? (i := 0) rfl)) (jWr_16 _ (List.mem_of_getElem? (i := 1) rfl)) (jWr_1 _ (List.mem_of_getElem? (i := 14) rfl)) (jWr_16 _ (List.mem_of_getElem? (i := 2) rfl))) rfl rfl rfl (by decide +kernel) ⟨by rw [← hR]; exact Nat.le_of_ble_eq_true rfl, by rw [← hR]; exact Nat.le_of_ble_eq_true rfl⟩) ⟨fun a U g mk q => by obtain ⟨q0, q1, q2, qK, q10, q11, q12, q13⟩ := q; exact ⟨q0, q1, q2, jG.calling g mk a qK, q10, q11, q12, q13⟩, hh_23.recv (C := RX0) (T := TX0) (N := 2) hB2 rfl (by decide) hg_20 hK, fun U hU hW => ⟨rfl, hU, hh_23.2.1, hG.step hW hU hh_23.1, hg_20, hg_wr_18, (hh_23.2.2.1.sub (L1 := [(r3, 2, 1, .int wc_18), (r3, 2, 0, .ref wr_18)]) [1, 2] rfl), (by omega), (by omega), by first | omega | (refine ⟨?_, ?_, ?_, ?_, ?_⟩ <;> (first | omega | rfl | assumption | decide | exact Or.inl rfl | exact Or.inr rfl | (simp only; omega)))⟩⟩ rfl rfl hl.1 rfl (lv_room (Nat.le_of_ble_eq_true rfl)) dX6_write_73 ⟨by rw [hRc]; omega, by rw [hRs]; omega⟩) hh_23.1 (fun q _ h => h) (fun q h => h) (fun u_29 t_29 H_29 locs_29 ht_29 hvm_29 hr_30 hb_29 hz_29 hk_29 hS_29 => ?_)
                  obtain ⟨qc_29, qa_29, m_qa_29, G_29⟩ := u_29
                  rw [ht_29] at hb_29
                  simp only at hb_29
                  obtain ⟨⟨hb_291, hb_292, hb_293, hb_294, hb_295, hb_296⟩, hgq_29_0, hN_29, hbO_29⟩ := hb_29
                  have hh_29 : jSt (dC, dI) B base G0 G_29 EX6_write s.heap (zcx_18 + ((m_qa_29 - m_wr_18) / 16)) (zsx_18 + (2 * (m_qa_29 - m_wr_18))) [(r3, 2, 1, .int qc_29), (r3, 2, 0, .ref qa_29), (r0, 8, 1, .ref primes_24), (r0, 8, 0, .ref stems_10), (r0, 8, 3, .int count_6)] [] [] H_29 locs_29 := (hh_23.callG hb_291 hb_292 hb_293 hb_294 hb_295 hS_29 rfl (L1 := [(r0, 8, 1, .ref primes_24), (r0, 8, 0, .ref stems_10), (r0, 8, 3, .int count_6)]) [0, 3, 4] rfl rfl (M1 := []) [] rfl rfl (I1 := []) [] rfl rfl).more hb_296
                  have hNn_29 : (jNk [0, 1, 2, 3, 4, 5, 6, 7, 8, 9, 10, 11, 12, 13, 14, 15, 16]) G0 G_29 := (hN_18).tr hN_29
                  have hg_31 := hb_292 _ _ hg_19
                  have hg_32 := hb_292 _ _ hg_20
                  have hg_33 := hb_292 _ _ hg_primes_24
                  have hg_34 := hb_292 _ _ hg_21
                  have hd_35 := jOw.tr (hh_23.iv 0 rfl) hh_23.2.2.2.2.1 hbO_29
                  have hh_36 := hh_29.addI (jOw.ie (dC := dC) (dI := dI) (G0 := G0) (k := 2) (r := r3) (H0 := s.heap) (F := [(2, 0), (2, 1)]) (C := RX0) (T := TX0) (N := 2) rfl (by decide) hh_29.2.2.2.2.1 (hd_35))
                  clear hh_29
                  try simp only at hr_30
                  obtain ⟨hr_30_0, hr_30_1, hr_30_2, hr_30_3, hr_30_4⟩ := hr_30
                  obtain ⟨z_37, ez_37⟩ : ∃ y : Int32, y = v4_18 + 1 := ⟨_, rfl⟩
                  refine lv_iinc (v := z_37) (lv' := [(4, .int z_37), (0, .ref r0), (1, .int a1), (2, .int a2), (3, .ref r3)]) hx hb dX6_write_76 hl (k := 4) rfl (by rw [ez_37]; rfl) (by decide) rfl (fun ls hl => ?_)
                  have hz_37 : z_37.toInt = v4_18.toInt + 1 := by rw [ez_37]; exact jb_iadd2 (rfl) (by decide) (by omega)
                  refine lv_goto (tgt := 57) hx hb dX6_write_79 (by decide) ?_
                  refine W.tight (c2 := (zcx_18 + ((m_qa_29 - m_wr_18) / 16))) (n2 := (zsx_18 + (2 * (m_qa_29 - m_wr_18)))) hh_36.2.2.2.2.2.1 hh_36.2.2.2.2.2.2.1 ?_
                  exact L57 G_29 (zcx_18 + ((m_qa_29 - m_wr_18) / 16)) (zsx_18 + (2 * (m_qa_29 - m_wr_18))) z_37 qc_29 qa_29 m_qa_29 _ _ (hh_36.sub (L1 := [(r3, 2, 1, .int qc_29), (r3, 2, 0, .ref qa_29), (r0, 8, 0, .ref stems_10), (r0, 8, 3, .int count_6)]) [0, 1, 3, 4] rfl (M1 := []) [] rfl (I1 := [([(2, 0), (2, 1)], jOw (dC, dI) G0 2 r3 s.heap)]) [0] rfl) (hNn_29) ((hle_18).tr hb_292) hgq_29_0 (by first | omega | (refine ⟨?_, ?_, ?_, ?_, ?_, ?_, ?_, ?_⟩ <;> (first | omega | rfl | assumption | decide | exact Or.inl rfl | exact Or.inr rfl | (simp only; omega)))) (by omega) _ (lv_sub hl [1, 2, 3, 4, 0] rfl)
            refine W.tight (c2 := zcx_12) (n2 := zsx_12) hh_12.2.2.2.2.2.1 hh_12.2.2.2.2.2.2.1 ?_
            exact L57 (2147483648 - (0 : Int32).toInt : Int).toNat.succ Gx_12 zcx_12 zsx_12 0 wc_12 wr_12 m_wr_12 _ _ hh_12 (hN_12) (jLe.rf) hg_wr_12 (by first | omega | (refine ⟨?_, ?_, ?_, ?_, ?_, ?_, ?_, ?_⟩ <;> (first | omega | rfl | assumption | decide | exact Or.inl rfl | exact Or.inr rfl | (simp only; omega)))) (by omega) _ (lv_sub hl [1, 2, 3, 4, 0] rfl)
          · skip
            have c_17' : z_16.toInt > 0 := jb_le_n (rfl) ((by decide)) c_17
            refine lv_aload_n hx hb dX6_write_28 rfl (lv_at hl 3 rfl) ?_
            refine va_ldcS hx hb hown rstr56 dX6_write_29 ?_
            refine lv_lload hx hb dX6_write_31 (lv_at hl 4 rfl) ?_
            refine lv_ldc2 hx hb hown (htw (.constantLong RX6 58 63) (jWr_31 _ (List.mem_of_getElem? (i := 21) rfl))) dX6_write_33 ?_
            refine lv_land hx hb dX6_write_36 ?_
            refine lv_topl (fun z_38 ez_38 => ?_)
            refine lv_l2i hx hb dX6_write_37 rfl ?_
            refine lv_topi (fun z_39 ez_39 => ?_)
            have hld := jb_land63 (by assumption) (by assumption)
            have hsz_41 := hh_12.2.2.2.2.2.1
            have htt_41 := hh_12.2.2.2.2.2.2.1
            refine W.room (fun hrc_41 hrs_41 => ?_)
            refine vp_callSi (W.runV (As := [.int z_39]) (rest := [.ref r3]) ⟨hx, hb, hml, hown, hts⟩ (wJ0_charAt_5068e l dC dI ca base H_12 str56 64 z_39) (cwV 1 hts (jgV (jWr_6 _ (List.mem_of_getElem? (i := 0) rfl)) (jWr_6 _ (List.mem_of_getElem? (i := 1) rfl)) (jWr_6 _ (List.mem_of_getElem? (i := 2) rfl)) (jWr_5 _ (List.mem_of_getElem? (i := 15) rfl)) (jWr_6 _ (List.mem_of_getElem? (i := 3) rfl))) rfl rfl rfl (by decide +kernel) ⟨by rw [← hR]; exact Nat.le_of_ble_eq_true rfl, by rw [← hR]; exact Nat.le_of_ble_eq_true rfl⟩) ⟨fun a U g mk q => by obtain ⟨q0, q1, q2, qK, q9⟩ := q; exact ⟨q0, q1, (q2.moved (Vm.Alike.refl U.vm)), jG.calling g mk a qK, q9⟩, jStr_recv hstr56 hh_12.1, fun U hU hW => ⟨rfl, hU, (hstr56.moved hW.alike).kept hh_12.1.2.1, hG.step hW hU hh_12.1, ⟨by omega, by omega, by omega⟩⟩⟩ rfl rfl hl.1 rfl (lv_room (Nat.le_of_ble_eq_true rfl)) dX6_write_38 ⟨by rw [hRc]; show _ + 0 ≤ _; omega, by rw [hRs]; show _ + 0 ≤ _; omega⟩) (fun r_40 hr_40 => ?_)
            have hsz_42 := hh_12.2.2.2.2.2.1
            have htt_42 := hh_12.2.2.2.2.2.2.1
            refine W.room (fun hrc_42 hrs_42 => ?_)
            refine va_callv (A0 := jA base) (H0 := s.heap) (va_runV (As := [.int r_40]) (rest := []) ⟨hx, hb, hml, hown, hts⟩ (uX0_put l dC dI ca base B hB hAp hB2 hB196 Gx_12 H_12 r3 r_40 wc_12 wr_12 m_wr_12 LC LS) (cwV 1 hts (jgV (jWr_31 _ (List.mem_of_getElem? (i := 22) rfl)) (jWr_16 _ (List.mem_of_getElem? (i := 0) rfl)) (jWr_16 _ (List.mem_of_getElem? (i := 1) rfl)) (jWr_1 _ (List.mem_of_getElem? (i := 14) rfl)) (jWr_16 _ (List.mem_of_getElem? (i := 2) rfl))) rfl rfl rfl (by decide +kernel) ⟨by rw [← hR]; exact Nat.le_of_ble_eq_true rfl, by rw [← hR]; exact Nat.le_of_ble_eq_true rfl⟩) ⟨fun a U g mk q => by obtain ⟨q0, q1, q2, qK, q10, q11, q12, q13⟩ := q; exact ⟨q0, q1, q2, jG.calling g mk a qK, q10, q11, q12, q13⟩, hh_12.recv (C := RX0) (T := TX0) (N := 2) hB2 rfl (by decide) hg_14 hK, fun U hU hW => ⟨rfl, hU, hh_12.2.1, hG.step hW hU hh_12.1, hg_14, hg_wr_12, (hh_12.2.2.1.sub (L1 := [(r3, 2, 1, .int wc_12), (r3, 2, 0, .ref wr_12)]) [0, 1] rfl), (by omega), (by omega), by first | omega | (refine ⟨?_, ?_, ?_, ?_, ?_⟩ <;> (first | omega | rfl | assumption | decide | exact Or.inl rfl | exact Or.inr rfl | (simp only; omega)))⟩⟩ rfl rfl hl.1 rfl (lv_room (Nat.le_of_ble_eq_true rfl)) dX6_write_41 ⟨by rw [hRc]; omega, by rw [hRs]; omega⟩) hh_12.1 (fun q _ h => h) (fun q h => h) (fun u_42 t_42 H_42 locs_42 ht_42 hvm_42 hr_43 hb_42 hz_42 hk_42 hS_42 => ?_)
            obtain ⟨qc_42, qa_42, m_qa_42, G_42⟩ := u_42
            rw [ht_42] at hb_42
            simp only at hb_42
            obtain ⟨⟨hb_421, hb_422, hb_423, hb_424, hb_425, hb_426⟩, hgq_42_0, hN_42, hbO_42⟩ := hb_42
            have hh_42 : jSt (dC, dI) B base G0 G_42 EX6_write s.heap (zcx_12 + ((m_qa_42 - m_wr_12) / 16)) (zsx_12 + (2 * (m_qa_42 - m_wr_12))) [(r3, 2, 1, .int qc_42), (r3, 2, 0, .ref qa_42), (r0, 8, 0, .ref stems_10), (r0, 8, 3, .int count_6)] [] [] H_42 locs_42 := (hh_12.callG hb_421 hb_422 hb_423 hb_424 hb_425 hS_42 rfl (L1 := [(r0, 8, 0, .ref stems_10), (r0, 8, 3, .int count_6)]) [2, 3] rfl rfl (M1 := []) [] rfl rfl (I1 := []) [] rfl rfl).more hb_426
            have hNn_42 : (jNk [0, 1, 2, 3, 4, 5, 6, 7, 8, 9, 10, 11, 12, 13, 14, 15, 16]) G0 G_42 := (hN_12).tr hN_42
            have hg_44 := hb_422 _ _ hg_13
            have hg_45 := hb_422 _ _ hg_14
            have hg_46 := hb_422 _ _ hg_15
            have hd_47 := jOw.tr (hh_12.iv 0 rfl) hh_12.2.2.2.2.1 hbO_42
            have hh_48 := hh_42.addI (jOw.ie (dC := dC) (dI := dI) (G0 := G0) (k := 2) (r := r3) (H0 := s.heap) (F := [(2, 0), (2, 1)]) (C := RX0) (T := TX0) (N := 2) rfl (by decide) hh_42.2.2.2.2.1 (hd_47))
            clear hh_42
            try simp only at hr_43
            obtain ⟨hr_43_0, hr_43_1, hr_43_2, hr_43_3, hr_43_4⟩ := hr_43
            refine lv_lload hx hb dX6_write_44 (lv_at hl 4 rfl) ?_
            refine lv_bipush (v := 6) hx hb dX6_write_46 (by decide) ?_
            refine lv_lushr hx hb dX6_write_48 rfl ?_
            refine lv_topl (fun z_49 ez_49 => ?_)
            have hls := jb_lush6 (by assumption) (by omega)
            refine lv_lstore (lv' := [(4, .long z_49), (0, .ref r0), (1, .int a1), (2, .int a2), (3, .ref r3)]) hx hb dX6_write_49 hl (by decide) rfl (fun ls hl => ?_)
            refine lv_goto (tgt := 21) hx hb dX6_write_51 (by decide) ?_
            refine W.tight (c2 := (zcx_12 + ((m_qa_42 - m_wr_12) / 16))) (n2 := (zsx_12 + (2 * (m_qa_42 - m_wr_12)))) hh_48.2.2.2.2.2.1 hh_48.2.2.2.2.2.2.1 ?_
            exact L21 G_42 (zcx_12 + ((m_qa_42 - m_wr_12) / 16)) (zsx_12 + (2 * (m_qa_42 - m_wr_12))) z_49 qc_42 qa_42 m_qa_42 _ _ hh_48 (hNn_42) ((hle_12).tr hb_422) hgq_42_0 (by first | omega | (refine ⟨?_, ?_, ?_, ?_, ?_, ?_, ?_⟩ <;> (first | omega | rfl | assumption | decide | exact Or.inl rfl | exact Or.inr rfl | (simp only; omega)))) (by omega) _ (lv_sub hl [1, 2, 3, 4, 0] rfl)
      refine W.tight (c2 := 0) (n2 := 0) hh_9.2.2.2.2.2.1 hh_9.2.2.2.2.2.2.1 ?_
      exact L21 ((((z_11 : Int64).toInt).toNat : Int) : Int).toNat.succ G0 0 0 z_11 pc pa n_pa _ _ (hh_9.sub (L1 := [(r3, 2, 1, .int pc), (r3, 2, 0, .ref pa), (r0, 8, 0, .ref stems_10), (r0, 8, 3, .int count_6)]) [2, 3, 0, 1] rfl (M1 := []) [] rfl (I1 := [([(2, 0), (2, 1)], jOw (dC, dI) G0 2 r3 s.heap)]) [0] rfl) (jNk.rf) (jLe.rf) hg_pa (by first | omega | (refine ⟨?_, ?_, ?_, ?_, ?_, ?_, ?_⟩ <;> (first | omega | rfl | assumption | decide | exact Or.inl rfl | exact Or.inr rfl | (simp only; omega)))) (by omega) _ (lv_sub hl [1, 2, 3, 4, 0] rfl)
    · skip
      have c_7' : a1.toInt ≥ count_6.toInt := jb_lt_n (rfl) (rfl) c_7
      have hsz_50 := hh_5.2.2.2.2.2.1
      have htt_50 := hh_5.2.2.2.2.2.2.1
      refine W.room (fun hrc_50 hrs_50 => ?_)
      refine W.widen (k := LC - s.heap.size) (n := LS - jTot s.heap) (by omega) (by omega) ?_
      rw [hQ]
      exact W.vret hx hb hr (fun t ht hW => ⟨⟨(pc, pa, n_pa, G0), rfl, by (try dsimp only); exact ⟨(by first | omega | rfl | assumption | fail), (by first | omega | rfl | assumption | fail), (by first | omega | rfl | assumption | fail), (by first | omega | rfl | assumption | fail), (by first | assumption | fail | omega)⟩, ⟨hh_5.ra (by first | omega | (simp only; omega)) (by first | omega | (simp only; omega)) (M1 := [(r3, 2, 1, .int pc), (r3, 2, 0, .ref pa)]) [1, 2] rfl ht, hg_pa, jNk.rf, by rw [ht]; exact hh_5.iv 0 rfl⟩⟩, by rw [ht]; try exact hh_5.1.1, fun q h9 hq => by rw [ht]; try exact hh_5.1.2.1 q h9 hq⟩) hh_5.1.2.2 dX6_write_12
set_option maxHeartbeats 4000000 in
set_option maxRecDepth 20000 in
theorem uX0_quoted (l : Launch) (dC : Nat → ClassId) (dI : Nat → Nat → Nat) (ca : Nat → ClassId) (base : Nat) (B : jF) (hB : jBok B) (hAp : jAp (dC, dI)) (hB2 : ∀ n G a H, B 2 n G a H ↔ jOb (dC, dI) 2 2 (F2 n G) a H) (hB101 : ∀ n G a H, B 101 n G a H ↔ jAr (dC, dI) (ca 1) (fun j z => True) n a H) (hB196 : ∀ n G a H, B 196 n G a H ↔ jAr (dC, dI) (ca 0) (fun j z => jBf j z) n a H) (G0 : jT) (H0 : Heap) (r0 : Nat) (r1 : Nat) (a2 : Int32) (a3 : Int32) (n1 : Nat) (pc : Int32) (pa : Nat) (n_pa : Nat) (LC LS : Nat) : Met l yX0_quoted (jw yX0_quoted cX0_quoted 7 none) ({ frames := 5, cells := LC - H0.size, slots := LS - jTot H0, locals := 163 }) (va_Pc [.ref r0, .ref r1, .int a2, .int a3] (fun U => U.heap = H0 ∧ jX B base G0 [] H0 ∧ jG dC dI ca base U ∧ G0 r0 = some (2, 0) ∧ G0 r1 = some (101, n1) ∧ G0 pa = some (196, n_pa) ∧ jP (dC, dI) G0 H0 [(r0, 2, 1, .int pc), (r0, 2, 0, .ref pa)] ∧ H0.size + (1048576 - n_pa) / 16 + 1 ≤ LC ∧ jTot H0 + 2 * (1048576 - n_pa) ≤ LS ∧ 0 ≤ pc.toInt ∧ pc.toInt ≤ n_pa ∧ 16 ≤ n_pa ∧ n_pa ≤ 1048576 ∧ jPw n_pa ∧ n1 ≤ 3000 ∧ 0 ≤ a2.toInt ∧ a2.toInt ≤ 3000 ∧ 0 ≤ a3.toInt ∧ a3.toInt ≤ 3000)) (va_Qv (S := Int32 × Nat × Nat × jT) (fun u => 0 ≤ u.1.toInt ∧ u.1.toInt ≤ u.2.2.1 ∧ n_pa ≤ u.2.2.1 ∧ u.2.2.1 ≤ 1048576 ∧ jPw u.2.2.1) (fun u t => jRa (dC, dI) B base G0 u.2.2.2 EX0_quoted H0 ((u.2.2.1 - n_pa) / 16) (2 * (u.2.2.1 - n_pa)) [(r0, 2, 1, .int u.1), (r0, 2, 0, .ref u.2.1)] t.heap ∧ u.2.2.2 u.2.1 = some (196, u.2.2.1) ∧ (jNk [0, 1, 2, 3, 4, 5, 6, 7, 8, 9, 10, 11, 12, 13, 14, 15, 16]) G0 u.2.2.2 ∧ jOw (dC, dI) G0 2 r0 H0 t.heap) (jA base)) (LC - H0.size) (LS - jTot H0) (jA base) := by
  refine Met.ofW (cc := cX0_quoted) (maxL := 7) (ret := none) (by decide) rfl ?_
  intro p e s m args below meth c s₁ Bd hml hv
  obtain ⟨rfl, hH0, hX, hG, hg_r0, hg_r1, hg_pa, hP0, hLC0, hLS0, hp0, hp1, hp2, hp3, hp4, hp5, hp6, hp7, hp8, hp9⟩ := hv
  have hK := hG.1
  have hx := Bd.exec
  have hb := Bd.bytes
  have hr := Bd.returns
  have hts := atoms_spec (ws := (jw yX0_quoted cX0_quoted 7 none)) Bd.pre
  have htw : ∀ w ∈ jWl, w.before _ s = true := fun w h => hts w (List.mem_cons_of_mem _ h)
  have hown : s.vm.findClass RX0 = some m.cls := findClass_of_methodNamed Bd.named
  have hlocks := Bd.notSynchronized
  obtain ⟨Q, hQ⟩ : ∃ Q, Q = MQ below (va_Qv (S := Int32 × Nat × Nat × jT) (fun u => 0 ≤ u.1.toInt ∧ u.1.toInt ≤ u.2.2.1 ∧ n_pa ≤ u.2.2.1 ∧ u.2.2.1 ≤ 1048576 ∧ jPw u.2.2.1) (fun u t => jRa (dC, dI) B base G0 u.2.2.2 EX0_quoted H0 ((u.2.2.1 - n_pa) / 16) (2 * (u.2.2.1 - n_pa)) [(r0, 2, 1, .int u.1), (r0, 2, 0, .ref u.2.1)] t.heap ∧ u.2.2.2 u.2.1 = some (196, u.2.2.1) ∧ (jNk [0, 1, 2, 3, 4, 5, 6, 7, 8, 9, 10, 11, 12, 13, 14, 15, 16]) G0 u.2.2.2 ∧ jOw (dC, dI) G0 2 r0 H0 t.heap) (jA base)) ([.ref r0, .ref r1, .int a2, .int a3] : List Value).toArray s (LC - H0.size) (LS - jTot H0) (jA base) := ⟨_, rfl⟩
  rw [← hQ]
  have hl := lv_entry ([.ref r0, .ref r1, .int a2, .int a3]) (n := 7) (Nat.le_of_ble_eq_true rfl)
  rw [lg_entry_eq]
  generalize (lg_sl ([.ref r0, .ref r1, .int a2, .int a3]) ++ List.replicate (7 - (lg_sl ([.ref r0, .ref r1, .int a2, .int a3])).length) Slot.unset).toArray = ls at hl ⊢
  have hl : lv_has ls 7 [(0, .ref r0), (1, .ref r1), (2, .int a2), (3, .int a3)] := hl
  generalize hR : (headSpec (jw yX0_quoted cX0_quoted 7 none) ({ frames := 5, cells := LC - H0.size, slots := LS - jTot H0, locals := 163 })).room = R
  subst hH0
  have hh : jSt (dC, dI) B base G0 G0 EX0_quoted s.heap 0 0 [(r0, 2, 1, .int pc), (r0, 2, 0, .ref pa)] [] [] s.heap [] := jSt.start hX hP0 jMc.nil jIs.nil
  clear hX hP0
  have hk0 : (0 : Int32).toInt = 0 := by decide
  have hk1 : (1 : Int32).toInt = 1 := by decide
  have hk4 : (4 : Int32).toInt = 4 := by decide
  have hk10 : (10 : Int32).toInt = 10 := by decide
  have hk15 : (15 : Int32).toInt = 15 := by decide
  have hk32 : (32 : Int32).toInt = 32 := by decide
  have hk34 : (34 : Int32).toInt = 34 := by decide
  have hk48 : (48 : Int32).toInt = 48 := by decide
  have hk92 : (92 : Int32).toInt = 92 := by decide
  have hk97 : (97 : Int32).toInt = 97 := by decide
  have hk55296 : (55296 : Int32).toInt = 55296 := by decide
  have hk56320 : (56320 : Int32).toInt = 56320 := by decide
  have hk65533 : (65533 : Int32).toInt = 65533 := by decide
  have hk65536 : (65536 : Int32).toInt = 65536 := by decide
  have hcs_60 := htw (.constant RX0 60 65536) (jWr_20 _ (List.mem_of_getElem? (i := 15) rfl))
  have hcs_61 := htw (.constant RX0 61 55296) (jWr_20 _ (List.mem_of_getElem? (i := 17) rfl))
  have hcs_62 := htw (.constant RX0 62 56320) (jWr_21 _ (List.mem_of_getElem? (i := 12) rfl))
  have hcs_66 := htw (.constant RX0 66 65533) (jWr_25 _ (List.mem_of_getElem? (i := 14) rfl))
  obtain ⟨str67, rstr67, hstr670⟩ := hG.str (o := RX0) (k := 67) (tx := "\\u00") (List.mem_of_getElem? (i := 790) (by decide +kernel))
  have hstr67 : jStr base str67 4 s s.heap := hstr670
  have hrg_a2 := jb_rng a2
  have hrg_a3 := jb_rng a3
  have hbs : base ≤ s.heap.size := Nat.le_of_lt (Nat.lt_of_le_of_lt (hh.ab hg_r0).1 (hh.ab hg_r0).2)
  have hRc : R.cells = LC - s.heap.size := by rw [← hR]; rfl
  have hRs : R.slots = LS - jTot s.heap := by rw [← hR]; rfl
  have hh_1 := hh.addI (jOw.ie (dC := dC) (dI := dI) (G0 := G0) (k := 2) (r := r0) (H0 := s.heap) (F := [(2, 0), (2, 1)]) (C := RX0) (T := TX0) (N := 2) rfl (by decide) hh.2.2.2.2.1 (jOw.rf))
  clear hh
  refine lv_aload_n hx hb dX0_quoted_0 rfl (lv_at hl 0 rfl) ?_
  refine lv_bipush (v := 34) hx hb dX0_quoted_1 (by decide) ?_
  have hsz_2 := hh_1.2.2.2.2.2.1
  have htt_2 := hh_1.2.2.2.2.2.2.1
  refine W.room (fun hrc_2 hrs_2 => ?_)
  refine va_callv (A0 := jA base) (H0 := s.heap) (va_runV (As := [.int 34]) (rest := []) ⟨hx, hb, hml, hown, hts⟩ (uX0_put l dC dI ca base B hB hAp hB2 hB196 G0 s.heap r0 34 pc pa n_pa LC LS) (cwV 1 hts (jgV (jWr_24 _ (List.mem_of_getElem? (i := 22) rfl)) (jWr_16 _ (List.mem_of_getElem? (i := 0) rfl)) (jWr_16 _ (List.mem_of_getElem? (i := 1) rfl)) (jWr_1 _ (List.mem_of_getElem? (i := 14) rfl)) (jWr_16 _ (List.mem_of_getElem? (i := 2) rfl))) rfl rfl rfl (by decide +kernel) ⟨by rw [← hR]; exact Nat.le_of_ble_eq_true rfl, by rw [← hR]; exact Nat.le_of_ble_eq_true rfl⟩) ⟨fun a U g mk q => by obtain ⟨q0, q1, q2, qK, q10, q11, q12, q13⟩ := q; exact ⟨q0, q1, q2, jG.calling g mk a qK, q10, q11, q12, q13⟩, hh_1.recv (C := RX0) (T := TX0) (N := 2) hB2 rfl (by decide) hg_r0 hK, fun U hU hW => ⟨rfl, hU, hh_1.2.1, hG.step hW hU hh_1.1, hg_r0, hg_pa, (hh_1.2.2.1.sub (L1 := [(r0, 2, 1, .int pc), (r0, 2, 0, .ref pa)]) [0, 1] rfl), (by omega), (by omega), by first | omega | (refine ⟨?_, ?_, ?_, ?_, ?_⟩ <;> (first | omega | rfl | assumption | decide | exact Or.inl rfl | exact Or.inr rfl | (simp only; omega)))⟩⟩ rfl rfl hl.1 rfl (lv_room (Nat.le_of_ble_eq_true rfl)) dX0_quoted_3 ⟨by rw [hRc]; omega, by rw [hRs]; omega⟩) hh_1.1 (fun q _ h => h) (fun q h => h) (fun u_2 t_2 H_2 locs_2 ht_2 hvm_2 hr_3 hb_2 hz_2 hk_2 hS_2 => ?_)
  obtain ⟨qc_2, qa_2, m_qa_2, G_2⟩ := u_2
  rw [ht_2] at hb_2
  simp only at hb_2
  obtain ⟨⟨hb_21, hb_22, hb_23, hb_24, hb_25, hb_26⟩, hgq_2_0, hN_2, hbO_2⟩ := hb_2
  have hh_2 : jSt (dC, dI) B base G0 G_2 EX0_quoted s.heap (0 + ((m_qa_2 - n_pa) / 16)) (0 + (2 * (m_qa_2 - n_pa))) [(r0, 2, 1, .int qc_2), (r0, 2, 0, .ref qa_2)] [] [] H_2 locs_2 := (hh_1.callG hb_21 hb_22 hb_23 hb_24 hb_25 hS_2 rfl (L1 := []) [] rfl rfl (M1 := []) [] rfl rfl (I1 := []) [] rfl rfl).more hb_26
  have hNn_2 : (jNk [0, 1, 2, 3, 4, 5, 6, 7, 8, 9, 10, 11, 12, 13, 14, 15, 16]) G0 G_2 := (jNk.rf).tr hN_2
  have hg_4 := hb_22 _ _ hg_r0
  have hg_5 := hb_22 _ _ hg_r1
  have hd_6 := jOw.tr (hh_1.iv 0 rfl) hh_1.2.2.2.2.1 hbO_2
  have hh_7 := hh_2.addI (jOw.ie (dC := dC) (dI := dI) (G0 := G0) (k := 2) (r := r0) (H0 := s.heap) (F := [(2, 0), (2, 1)]) (C := RX0) (T := TX0) (N := 2) rfl (by decide) hh_2.2.2.2.2.1 (hd_6))
  clear hh_2
  try simp only at hr_3
  obtain ⟨hr_3_0, hr_3_1, hr_3_2, hr_3_3, hr_3_4⟩ := hr_3
  refine lv_iload_n hx hb dX0_quoted_6 rfl (lv_at hl 2 rfl) ?_
  refine lv_iload_n hx hb dX0_quoted_7 rfl (lv_at hl 3 rfl) ?_
  refine lv_iadd hx hb dX0_quoted_8 ?_
  refine lv_topi (fun z_8 ez_8 => ?_)
  have hz_8 : z_8.toInt = a2.toInt + a3.toInt := by rw [ez_8]; exact jb_iadd2 (rfl) (rfl) (by omega)
  refine lv_aload_n hx hb dX0_quoted_9 rfl (lv_at hl 1 rfl) ?_
  refine j7_len hx hb hK hh_7 hB101 1 rfl (by decide) hg_5 (by omega) dX0_quoted_10 (fun z_9 hz_9 => ?_)
  refine va_mmin hx hb (by rw [hml]; exact hl.1.symm) hown (htw (.methodLink RX0 50 Lib.Math.min.name) (jWr_25 _ (List.mem_of_getElem? (i := 13) rfl))) (htw (.static Lib.Math.min.name) (jWr_16 _ (List.mem_of_getElem? (i := 16) rfl))) (htw (.initialized "java/lang/Math") (jWr_3 _ (List.mem_of_getElem? (i := 7) rfl))) (htw (.code Lib.Math.min.name Lib.Math.min.code 2 (some .int)) (jWr_16 _ (List.mem_of_getElem? (i := 17) rfl))) (by rw [← hR]; exact Nat.le_of_ble_eq_true rfl) (by rw [← hR]; exact Nat.le_of_ble_eq_true rfl) (Nat.zero_le _) (Nat.zero_le _) dX0_quoted_11 ?_
  refine lv_topi (fun z_10 ez_10 => ?_)
  have hz_10 := jb_min ez_10
  refine lv_istore (lv' := [(4, .int z_10), (0, .ref r0), (1, .ref r1), (2, .int a2), (3, .int a3)]) hx hb dX0_quoted_14 hl (by decide) rfl (fun ls hl => ?_)
  refine lv_iload_n hx hb dX0_quoted_16 rfl (lv_at hl 3 rfl) ?_
  refine lv_iconst (v := 0) hx hb dX0_quoted_17 (by decide) ?_
  refine va_mmax hx hb (by rw [hml]; exact hl.1.symm) hown (htw (.methodLink RX0 7 Lib.Math.max.name) (jWr_3 _ (List.mem_of_getElem? (i := 5) rfl))) (htw (.static Lib.Math.max.name) (jWr_3 _ (List.mem_of_getElem? (i := 6) rfl))) (htw (.initialized "java/lang/Math") (jWr_3 _ (List.mem_of_getElem? (i := 7) rfl))) (htw (.code Lib.Math.max.name Lib.Math.max.code 2 (some .int)) (jWr_3 _ (List.mem_of_getElem? (i := 8) rfl))) (by rw [← hR]; exact Nat.le_of_ble_eq_true rfl) (by rw [← hR]; exact Nat.le_of_ble_eq_true rfl) (Nat.zero_le _) (Nat.zero_le _) dX0_quoted_18 ?_
  refine lv_topi (fun z_11 ez_11 => ?_)
  have hz_11 := jb_max ez_11
  refine lv_istore (lv' := [(5, .int z_11), (4, .int z_10), (0, .ref r0), (1, .ref r1), (2, .int a2), (3, .int a3)]) hx hb dX0_quoted_21 hl (by decide) rfl (fun ls hl => ?_)
  have L23 : ∀ (N : Nat) (Gx_12 : jT) (zcx_12 : Nat) (zsx_12 : Nat) (v5_12 : Int32) (wc_12 : Int32) (wr_12 : Nat) (m_wr_12 : Nat) (H_12 : Heap) (locs_12 : List Loc), jSt (dC, dI) B base G0 Gx_12 EX0_quoted s.heap zcx_12 zsx_12 [(r0, 2, 1, .int wc_12), (r0, 2, 0, .ref wr_12)] [] [([(2, 0), (2, 1)], jOw (dC, dI) G0 2 r0 s.heap)] H_12 locs_12 → (jNk [0, 1, 2, 3, 4, 5, 6, 7, 8, 9, 10, 11, 12, 13, 14, 15, 16]) G0 Gx_12 → jLe G_2 Gx_12 → Gx_12 wr_12 = some (196, m_wr_12) → (0 ≤ wc_12.toInt ∧ wc_12.toInt ≤ m_wr_12 ∧ n_pa ≤ m_wr_12 ∧ m_wr_12 ≤ 1048576 ∧ jPw m_wr_12 ∧ zcx_12 ≤ (m_wr_12 - n_pa) / 16 ∧ zsx_12 ≤ 2 * (m_wr_12 - n_pa) ∧ 0 ≤ v5_12.toInt ∧ v5_12.toInt ≤ 3001) → (((z_10.toInt - v5_12.toInt).toNat : Int) : Int) < N → ∀ ls : Array Slot, lv_has ls 7 [(0, .ref r0), (1, .ref r1), (2, .int a2), (3, .int a3), (4, .int z_10), (5, .int v5_12)] → W p l e R s m ([.ref r0, .ref r1, .int a2, .int a3] : List Value).toArray below meth c H_12 locs_12 zcx_12 zsx_12 Q (F0 m 23 ls []) := by
    intro N
    induction N with
    | zero => intro Gx_12 zcx_12 zsx_12 v5_12 wc_12 wr_12 m_wr_12 H_12 locs_12 hh_12 hN_12 hle_12 hg_wr_12 hi_12 hm; exact absurd hm (by omega)
    | succ N L23 =>
      intro Gx_12 zcx_12 zsx_12 v5_12 wc_12 wr_12 m_wr_12 H_12 locs_12 hh_12 hN_12 hle_12 hg_wr_12 hi_12 hm_12 ls hl
      have hg_13 := hle_12 _ _ hg_4
      have hg_14 := hle_12 _ _ hg_5
      obtain ⟨hi_12_0, hi_12_1, hi_12_2, hi_12_3, hi_12_4, hi_12_5, hi_12_6, hi_12_7, hi_12_8⟩ := hi_12
      refine lv_iload hx hb dX0_quoted_23 (lv_at hl 5 rfl) ?_
      refine lv_iload hx hb dX0_quoted_25 (lv_at hl 4 rfl) ?_
      refine lv_icmp_ge (tgt := 214) hx hb dX0_quoted_27 (by decide) (fun c_15 => ?_) (fun c_15 => ?_)
      · skip
        have c_15' : v5_12.toInt ≥ z_10.toInt := jb_ge (rfl) (rfl) c_15
        refine lv_aload_n hx hb dX0_quoted_214 rfl (lv_at hl 0 rfl) ?_
        refine lv_bipush (v := 34) hx hb dX0_quoted_215 (by decide) ?_
        have hsz_16 := hh_12.2.2.2.2.2.1
        have htt_16 := hh_12.2.2.2.2.2.2.1
        refine W.room (fun hrc_16 hrs_16 => ?_)
        refine va_callv (A0 := jA base) (H0 := s.heap) (va_runV (As := [.int 34]) (rest := []) ⟨hx, hb, hml, hown, hts⟩ (uX0_put l dC dI ca base B hB hAp hB2 hB196 Gx_12 H_12 r0 34 wc_12 wr_12 m_wr_12 LC LS) (cwV 1 hts (jgV (jWr_24 _ (List.mem_of_getElem? (i := 22) rfl)) (jWr_16 _ (List.mem_of_getElem? (i := 0) rfl)) (jWr_16 _ (List.mem_of_getElem? (i := 1) rfl)) (jWr_1 _ (List.mem_of_getElem? (i := 14) rfl)) (jWr_16 _ (List.mem_of_getElem? (i := 2) rfl))) rfl rfl rfl (by decide +kernel) ⟨by rw [← hR]; exact Nat.le_of_ble_eq_true rfl, by rw [← hR]; exact Nat.le_of_ble_eq_true rfl⟩) ⟨fun a U g mk q => by obtain ⟨q0, q1, q2, qK, q10, q11, q12, q13⟩ := q; exact ⟨q0, q1, q2, jG.calling g mk a qK, q10, q11, q12, q13⟩, hh_12.recv (C := RX0) (T := TX0) (N := 2) hB2 rfl (by decide) hg_13 hK, fun U hU hW => ⟨rfl, hU, hh_12.2.1, hG.step hW hU hh_12.1, hg_13, hg_wr_12, (hh_12.2.2.1.sub (L1 := [(r0, 2, 1, .int wc_12), (r0, 2, 0, .ref wr_12)]) [0, 1] rfl), (by omega), (by omega), by first | omega | (refine ⟨?_, ?_, ?_, ?_, ?_⟩ <;> (first | omega | rfl | assumption | decide | exact Or.inl rfl | exact Or.inr rfl | (simp only; omega)))⟩⟩ rfl rfl hl.1 rfl (lv_room (Nat.le_of_ble_eq_true rfl)) dX0_quoted_217 ⟨by rw [hRc]; omega, by rw [hRs]; omega⟩) hh_12.1 (fun q _ h => h) (fun q h => h) (fun u_16 t_16 H_16 locs_16 ht_16 hvm_16 hr_17 hb_16 hz_16 hk_16 hS_16 => ?_)
        obtain ⟨qc_16, qa_16, m_qa_16, G_16⟩ := u_16
        rw [ht_16] at hb_16
        simp only at hb_16
        obtain ⟨⟨hb_161, hb_162, hb_163, hb_164, hb_165, hb_166⟩, hgq_16_0, hN_16, hbO_16⟩ := hb_16
        have hh_16 : jSt (dC, dI) B base G0 G_16 EX0_quoted s.heap (zcx_12 + ((m_qa_16 - m_wr_12) / 16)) (zsx_12 + (2 * (m_qa_16 - m_wr_12))) [(r0, 2, 1, .int qc_16), (r0, 2, 0, .ref qa_16)] [] [] H_16 locs_16 := (hh_12.callG hb_161 hb_162 hb_163 hb_164 hb_165 hS_16 rfl (L1 := []) [] rfl rfl (M1 := []) [] rfl rfl (I1 := []) [] rfl rfl).more hb_166
        have hNn_16 : (jNk [0, 1, 2, 3, 4, 5, 6, 7, 8, 9, 10, 11, 12, 13, 14, 15, 16]) G0 G_16 := (hN_12).tr hN_16
        have hg_18 := hb_162 _ _ hg_13
        have hg_19 := hb_162 _ _ hg_14
        have hd_20 := jOw.tr (hh_12.iv 0 rfl) hh_12.2.2.2.2.1 hbO_16
        have hh_21 := hh_16.addI (jOw.ie (dC := dC) (dI := dI) (G0 := G0) (k := 2) (r := r0) (H0 := s.heap) (F := [(2, 0), (2, 1)]) (C := RX0) (T := TX0) (N := 2) rfl (by decide) hh_16.2.2.2.2.1 (hd_20))
        clear hh_16
        try simp only at hr_17
        obtain ⟨hr_17_0, hr_17_1, hr_17_2, hr_17_3, hr_17_4⟩ := hr_17
        have hsz_22 := hh_21.2.2.2.2.2.1
        have htt_22 := hh_21.2.2.2.2.2.2.1
        refine W.room (fun hrc_22 hrs_22 => ?_)
        refine W.widen (k := LC - s.heap.size) (n := LS - jTot s.heap) (by omega) (by omega) ?_
        rw [hQ]
        exact W.vret hx hb hr (fun t ht hW => ⟨⟨(qc_16, qa_16, m_qa_16, G_16), rfl, by (try dsimp only); exact ⟨(by first | omega | rfl | assumption | fail), (by first | omega | rfl | assumption | fail), (by first | omega | rfl | assumption | fail), (by first | omega | rfl | assumption | fail), (by first | assumption | fail | omega)⟩, ⟨hh_21.ra (by first | omega | (simp only; omega)) (by first | omega | (simp only; omega)) (M1 := [(r0, 2, 1, .int qc_16), (r0, 2, 0, .ref qa_16)]) [0, 1] rfl ht, hgq_16_0, hNn_16, by rw [ht]; exact hh_21.iv 0 rfl⟩⟩, by rw [ht]; try exact hh_21.1.1, fun q h9 hq => by rw [ht]; try exact hh_21.1.2.1 q h9 hq⟩) hh_21.1.2.2 dX0_quoted_220
      · skip
        have c_15' : v5_12.toInt < z_10.toInt := jb_ge_n (rfl) (rfl) c_15
        refine lv_aload_n hx hb dX0_quoted_30 rfl (lv_at hl 1 rfl) ?_
        refine lv_iload hx hb dX0_quoted_31 (lv_at hl 5 rfl) ?_
        refine j7_iald hx hb hK hh_12 hB101 1 rfl (by decide) hg_14 (x := v5_12.toInt) (rfl) (by omega) dX0_quoted_33 (fun z_23 (hz_23 : True) => ?_)
        refine lv_istore (lv' := [(6, .int z_23), (0, .ref r0), (1, .ref r1), (2, .int a2), (3, .int a3), (4, .int z_10), (5, .int v5_12)]) hx hb dX0_quoted_34 hl (by decide) rfl (fun ls hl => ?_)
        refine lv_iload hx hb dX0_quoted_36 (lv_at hl 0 rfl) ?_
        have hsz_25 := hh_12.2.2.2.2.2.1
        have htt_25 := hh_12.2.2.2.2.2.2.1
        refine W.room (fun hrc_25 hrs_25 => ?_)
        refine vp_callSi (W.runS (As := [.int z_23]) (rest := []) ⟨hx, hb, hml, hown, hts⟩ (wX0_isHigh l dC dI ca base H_12 z_23) (va_cwS 1 hts (jgS (jWr_25 _ (List.mem_of_getElem? (i := 15) rfl)) (jWr_21 _ (List.mem_of_getElem? (i := 18) rfl)) (jWr_1 _ (List.mem_of_getElem? (i := 14) rfl)) (jWr_21 _ (List.mem_of_getElem? (i := 19) rfl))) rfl rfl rfl (by decide +kernel) ⟨by rw [← hR]; exact Nat.le_of_ble_eq_true rfl, by rw [← hR]; exact Nat.le_of_ble_eq_true rfl⟩) ⟨fun a U g mk q => by obtain ⟨q0, q1, qK, q9⟩ := q; exact ⟨q0, q1, jG.calling g mk a qK, q9⟩, fun U hU hW => ⟨rfl, hU, hG.step hW hU hh_12.1, by first | trivial | omega | (constructor <;> omega)⟩⟩ rfl rfl hl.1 rfl (lv_room (Nat.le_of_ble_eq_true rfl)) dX0_quoted_38 ⟨by rw [hRc]; show _ + 0 ≤ _; omega, by rw [hRs]; show _ + 0 ≤ _; omega⟩) (fun r_24 hr_24 => ?_)
        have hr_24' : r_24.toInt = 0 ∨ r_24.toInt = 1 := jb_01 hr_24
        have C94 : ∀ (H_26 : Heap) (locs_26 : List Loc), jSt (dC, dI) B base G0 Gx_12 EX0_quoted s.heap zcx_12 zsx_12 [(r0, 2, 1, .int wc_12), (r0, 2, 0, .ref wr_12)] [] [([(2, 0), (2, 1)], jOw (dC, dI) G0 2 r0 s.heap)] H_26 locs_26 → (True) → ∀ ls : Array Slot, lv_has ls 7 [(0, .ref r0), (1, .ref r1), (2, .int a2), (3, .int a3), (4, .int z_10), (5, .int v5_12), (6, .int z_23)] → W p l e R s m ([.ref r0, .ref r1, .int a2, .int a3] : List Value).toArray below meth c H_26 locs_26 zcx_12 zsx_12 Q (F0 m 94 ls []) := by
          intro  H_26 locs_26 hh_26  hi_26 ls hl
          refine lv_iload hx hb dX0_quoted_94 (lv_at hl 6 rfl) ?_
          have hsz_28 := hh_26.2.2.2.2.2.1
          have htt_28 := hh_26.2.2.2.2.2.2.1
          refine W.room (fun hrc_28 hrs_28 => ?_)
          refine vp_callSi (W.runS (As := [.int z_23]) (rest := []) ⟨hx, hb, hml, hown, hts⟩ (wX0_isHigh l dC dI ca base H_26 z_23) (va_cwS 1 hts (jgS (jWr_25 _ (List.mem_of_getElem? (i := 15) rfl)) (jWr_21 _ (List.mem_of_getElem? (i := 18) rfl)) (jWr_1 _ (List.mem_of_getElem? (i := 14) rfl)) (jWr_21 _ (List.mem_of_getElem? (i := 19) rfl))) rfl rfl rfl (by decide +kernel) ⟨by rw [← hR]; exact Nat.le_of_ble_eq_true rfl, by rw [← hR]; exact Nat.le_of_ble_eq_true rfl⟩) ⟨fun a U g mk q => by obtain ⟨q0, q1, qK, q9⟩ := q; exact ⟨q0, q1, jG.calling g mk a qK, q9⟩, fun U hU hW => ⟨rfl, hU, hG.step hW hU hh_26.1, by first | trivial | omega | (constructor <;> omega)⟩⟩ rfl rfl hl.1 rfl (lv_room (Nat.le_of_ble_eq_true rfl)) dX0_quoted_96 ⟨by rw [hRc]; show _ + 0 ≤ _; omega, by rw [hRs]; show _ + 0 ≤ _; omega⟩) (fun r_27 hr_27 => ?_)
          have hr_27' : r_27.toInt = 0 ∨ r_27.toInt = 1 := jb_01 hr_27
          refine lv_if_ne (tgt := 110) hx hb dX0_quoted_99 (by decide) (fun c_29 => ?_) (fun c_29 => ?_)
          · skip
            have c_29' : r_27.toInt ≠ 0 := jb_ne (rfl) ((by decide)) c_29
            refine lv_aload_n hx hb dX0_quoted_110 rfl (lv_at hl 0 rfl) ?_
            refine lv_ldc hx hb hown hcs_66 dX0_quoted_111 ?_
            have hsz_30 := hh_26.2.2.2.2.2.1
            have htt_30 := hh_26.2.2.2.2.2.2.1
            refine W.room (fun hrc_30 hrs_30 => ?_)
            refine va_callv (A0 := jA base) (H0 := s.heap) (va_runV (As := [.int 65533]) (rest := []) ⟨hx, hb, hml, hown, hts⟩ (uX0_character l dC dI ca base B hB hAp hB2 hB196 Gx_12 H_26 r0 65533 wc_12 wr_12 m_wr_12 LC LS) (cwV 1 hts (jgV (jWr_25 _ (List.mem_of_getElem? (i := 17) rfl)) (jWr_25 _ (List.mem_of_getElem? (i := 18) rfl)) (jWr_25 _ (List.mem_of_getElem? (i := 19) rfl)) (jWr_1 _ (List.mem_of_getElem? (i := 14) rfl)) (jWr_25 _ (List.mem_of_getElem? (i := 20) rfl))) rfl rfl rfl (by decide +kernel) ⟨by rw [← hR]; exact Nat.le_of_ble_eq_true rfl, by rw [← hR]; exact Nat.le_of_ble_eq_true rfl⟩) ⟨fun a U g mk q => by obtain ⟨q0, q1, q2, qK, q10, q11, q12, q13⟩ := q; exact ⟨q0, q1, q2, jG.calling g mk a qK, q10, q11, q12, q13⟩, hh_26.recv (C := RX0) (T := TX0) (N := 2) hB2 rfl (by decide) hg_13 hK, fun U hU hW => ⟨rfl, hU, hh_26.2.1, hG.step hW hU hh_26.1, hg_13, hg_wr_12, (hh_26.2.2.1.sub (L1 := [(r0, 2, 1, .int wc_12), (r0, 2, 0, .ref wr_12)]) [0, 1] rfl), (by omega), (by omega), by first | omega | (refine ⟨?_, ?_, ?_, ?_, ?_⟩ <;> (first | omega | rfl | assumption | decide | exact Or.inl rfl | exact Or.inr rfl | (simp only; omega)))⟩⟩ rfl rfl hl.1 rfl (lv_room (Nat.le_of_ble_eq_true rfl)) dX0_quoted_113 ⟨by rw [hRc]; omega, by rw [hRs]; omega⟩) hh_26.1 (fun q _ h => h) (fun q h => h) (fun u_30 t_30 H_30 locs_30 ht_30 hvm_30 hr_31 hb_30 hz_30 hk_30 hS_30 => ?_)
            obtain ⟨qc_30, qa_30, m_qa_30, G_30⟩ := u_30
            rw [ht_30] at hb_30
            simp only at hb_30
            obtain ⟨⟨hb_301, hb_302, hb_303, hb_304, hb_305, hb_306⟩, hgq_30_0, hN_30, hbO_30⟩ := hb_30
            have hh_30 : jSt (dC, dI) B base G0 G_30 EX0_quoted s.heap (zcx_12 + ((m_qa_30 - m_wr_12) / 16)) (zsx_12 + (2 * (m_qa_30 - m_wr_12))) [(r0, 2, 1, .int qc_30), (r0, 2, 0, .ref qa_30)] [] [] H_30 locs_30 := (hh_26.callG hb_301 hb_302 hb_303 hb_304 hb_305 hS_30 rfl (L1 := []) [] rfl rfl (M1 := []) [] rfl rfl (I1 := []) [] rfl rfl).more hb_306
            have hNn_30 : (jNk [0, 1, 2, 3, 4, 5, 6, 7, 8, 9, 10, 11, 12, 13, 14, 15, 16]) G0 G_30 := (hN_12).tr hN_30
            have hg_32 := hb_302 _ _ hg_13
            have hg_33 := hb_302 _ _ hg_14
            have hd_34 := jOw.tr (hh_26.iv 0 rfl) hh_26.2.2.2.2.1 hbO_30
            have hh_35 := hh_30.addI (jOw.ie (dC := dC) (dI := dI) (G0 := G0) (k := 2) (r := r0) (H0 := s.heap) (F := [(2, 0), (2, 1)]) (C := RX0) (T := TX0) (N := 2) rfl (by decide) hh_30.2.2.2.2.1 (hd_34))
            clear hh_30
            try simp only at hr_31
            obtain ⟨hr_31_0, hr_31_1, hr_31_2, hr_31_3, hr_31_4⟩ := hr_31
            refine lv_goto (tgt := 208) hx hb dX0_quoted_116 (by decide) ?_
            obtain ⟨z_36, ez_36⟩ : ∃ y : Int32, y = v5_12 + 1 := ⟨_, rfl⟩
            refine lv_iinc (v := z_36) (lv' := [(5, .int z_36), (0, .ref r0), (1, .ref r1), (2, .int a2), (3, .int a3), (4, .int z_10), (6, .int z_23)]) hx hb dX0_quoted_208 hl (k := 5) rfl (by rw [ez_36]; rfl) (by decide) rfl (fun ls hl => ?_)
            have hz_36 : z_36.toInt = v5_12.toInt + 1 := by rw [ez_36]; exact jb_iadd2 (rfl) (by decide) (by omega)
            refine lv_goto (tgt := 23) hx hb dX0_quoted_211 (by decide) ?_
            refine W.tight (c2 := (zcx_12 + ((m_qa_30 - m_wr_12) / 16))) (n2 := (zsx_12 + (2 * (m_qa_30 - m_wr_12)))) hh_35.2.2.2.2.2.1 hh_35.2.2.2.2.2.2.1 ?_
            exact L23 G_30 (zcx_12 + ((m_qa_30 - m_wr_12) / 16)) (zsx_12 + (2 * (m_qa_30 - m_wr_12))) z_36 qc_30 qa_30 m_qa_30 _ _ hh_35 (hNn_30) ((hle_12).tr hb_302) hgq_30_0 (by first | omega | (refine ⟨?_, ?_, ?_, ?_, ?_, ?_, ?_, ?_, ?_⟩ <;> (first | omega | rfl | assumption | decide | exact Or.inl rfl | exact Or.inr rfl | (simp only; omega)))) (by omega) _ (lv_sub hl [1, 2, 3, 4, 5, 0] rfl)
          · skip
            have c_29' : r_27.toInt = 0 := jb_ne_n (rfl) ((by decide)) c_29
            refine lv_iload hx hb dX0_quoted_102 (lv_at hl 6 rfl) ?_
            have hsz_38 := hh_26.2.2.2.2.2.1
            have htt_38 := hh_26.2.2.2.2.2.2.1
            refine W.room (fun hrc_38 hrs_38 => ?_)
            refine vp_callSi (W.runS (As := [.int z_23]) (rest := []) ⟨hx, hb, hml, hown, hts⟩ (wX0_isLow l dC dI ca base H_26 z_23) (va_cwS 1 hts (jgS (jWr_25 _ (List.mem_of_getElem? (i := 16) rfl)) (jWr_21 _ (List.mem_of_getElem? (i := 10) rfl)) (jWr_1 _ (List.mem_of_getElem? (i := 14) rfl)) (jWr_21 _ (List.mem_of_getElem? (i := 11) rfl))) rfl rfl rfl (by decide +kernel) ⟨by rw [← hR]; exact Nat.le_of_ble_eq_true rfl, by rw [← hR]; exact Nat.le_of_ble_eq_true rfl⟩) ⟨fun a U g mk q => by obtain ⟨q0, q1, qK, q9⟩ := q; exact ⟨q0, q1, jG.calling g mk a qK, q9⟩, fun U hU hW => ⟨rfl, hU, hG.step hW hU hh_26.1, by first | trivial | omega | (constructor <;> omega)⟩⟩ rfl rfl hl.1 rfl (lv_room (Nat.le_of_ble_eq_true rfl)) dX0_quoted_104 ⟨by rw [hRc]; show _ + 0 ≤ _; omega, by rw [hRs]; show _ + 0 ≤ _; omega⟩) (fun r_37 hr_37 => ?_)
            have hr_37' : r_37.toInt = 0 ∨ r_37.toInt = 1 := jb_01 hr_37
            refine lv_if_eq (tgt := 119) hx hb dX0_quoted_107 (by decide) (fun c_39 => ?_) (fun c_39 => ?_)
            · skip
              have c_39' : r_37.toInt = 0 := jb_eq (rfl) ((by decide)) c_39
              refine lv_iload hx hb dX0_quoted_119 (lv_at hl 6 rfl) ?_
              refine lv_bipush (v := 32) hx hb dX0_quoted_121 (by decide) ?_
              refine lv_icmp_ge (tgt := 182) hx hb dX0_quoted_123 (by decide) (fun c_40 => ?_) (fun c_40 => ?_)
              · skip
                have c_40' : z_23.toInt ≥ 32 := jb_ge (rfl) ((by decide)) c_40
                refine lv_iload hx hb dX0_quoted_182 (lv_at hl 6 rfl) ?_
                refine lv_bipush (v := 34) hx hb dX0_quoted_184 (by decide) ?_
                refine lv_icmp_eq (tgt := 196) hx hb dX0_quoted_186 (by decide) (fun c_41 => ?_) (fun c_41 => ?_)
                · skip
                  have c_41' : z_23.toInt = 34 := jb_eq (rfl) ((by decide)) c_41
                  refine lv_aload_n hx hb dX0_quoted_196 rfl (lv_at hl 0 rfl) ?_
                  refine lv_bipush (v := 92) hx hb dX0_quoted_197 (by decide) ?_
                  have hsz_42 := hh_26.2.2.2.2.2.1
                  have htt_42 := hh_26.2.2.2.2.2.2.1
                  refine W.room (fun hrc_42 hrs_42 => ?_)
                  refine va_callv (A0 := jA base) (H0 := s.heap) (va_runV (As := [.int 92]) (rest := []) ⟨hx, hb, hml, hown, hts⟩ (uX0_put l dC dI ca base B hB hAp hB2 hB196 Gx_12 H_26 r0 92 wc_12 wr_12 m_wr_12 LC LS) (cwV 1 hts (jgV (jWr_24 _ (List.mem_of_getElem? (i := 22) rfl)) (jWr_16 _ (List.mem_of_getElem? (i := 0) rfl)) (jWr_16 _ (List.mem_of_getElem? (i := 1) rfl)) (jWr_1 _ (List.mem_of_getElem? (i := 14) rfl)) (jWr_16 _ (List.mem_of_getElem? (i := 2) rfl))) rfl rfl rfl (by decide +kernel) ⟨by rw [← hR]; exact Nat.le_of_ble_eq_true rfl, by rw [← hR]; exact Nat.le_of_ble_eq_true rfl⟩) ⟨fun a U g mk q => by obtain ⟨q0, q1, q2, qK, q10, q11, q12, q13⟩ := q; exact ⟨q0, q1, q2, jG.calling g mk a qK, q10, q11, q12, q13⟩, hh_26.recv (C := RX0) (T := TX0) (N := 2) hB2 rfl (by decide) hg_13 hK, fun U hU hW => ⟨rfl, hU, hh_26.2.1, hG.step hW hU hh_26.1, hg_13, hg_wr_12, (hh_26.2.2.1.sub (L1 := [(r0, 2, 1, .int wc_12), (r0, 2, 0, .ref wr_12)]) [0, 1] rfl), (by omega), (by omega), by first | omega | (refine ⟨?_, ?_, ?_, ?_, ?_⟩ <;> (first | omega | rfl | assumption | decide | exact Or.inl rfl | exact Or.inr rfl | (simp only; omega)))⟩⟩ rfl rfl hl.1 rfl (lv_room (Nat.le_of_ble_eq_true rfl)) dX0_quoted_199 ⟨by rw [hRc]; omega, by rw [hRs]; omega⟩) hh_26.1 (fun q _ h => h) (fun q h => h) (fun u_42 t_42 H_42 locs_42 ht_42 hvm_42 hr_43 hb_42 hz_42 hk_42 hS_42 => ?_)
                  obtain ⟨qc_42, qa_42, m_qa_42, G_42⟩ := u_42
                  rw [ht_42] at hb_42
                  simp only at hb_42
                  obtain ⟨⟨hb_421, hb_422, hb_423, hb_424, hb_425, hb_426⟩, hgq_42_0, hN_42, hbO_42⟩ := hb_42
                  have hh_42 : jSt (dC, dI) B base G0 G_42 EX0_quoted s.heap (zcx_12 + ((m_qa_42 - m_wr_12) / 16)) (zsx_12 + (2 * (m_qa_42 - m_wr_12))) [(r0, 2, 1, .int qc_42), (r0, 2, 0, .ref qa_42)] [] [] H_42 locs_42 := (hh_26.callG hb_421 hb_422 hb_423 hb_424 hb_425 hS_42 rfl (L1 := []) [] rfl rfl (M1 := []) [] rfl rfl (I1 := []) [] rfl rfl).more hb_426
                  have hNn_42 : (jNk [0, 1, 2, 3, 4, 5, 6, 7, 8, 9, 10, 11, 12, 13, 14, 15, 16]) G0 G_42 := (hN_12).tr hN_42
                  have hg_44 := hb_422 _ _ hg_13
                  have hg_45 := hb_422 _ _ hg_14
                  have hd_46 := jOw.tr (hh_26.iv 0 rfl) hh_26.2.2.2.2.1 hbO_42
                  have hh_47 := hh_42.addI (jOw.ie (dC := dC) (dI := dI) (G0 := G0) (k := 2) (r := r0) (H0 := s.heap) (F := [(2, 0), (2, 1)]) (C := RX0) (T := TX0) (N := 2) rfl (by decide) hh_42.2.2.2.2.1 (hd_46))
                  clear hh_42
                  try simp only at hr_43
                  obtain ⟨hr_43_0, hr_43_1, hr_43_2, hr_43_3, hr_43_4⟩ := hr_43
                  refine lv_aload_n hx hb dX0_quoted_202 rfl (lv_at hl 0 rfl) ?_
                  refine lv_iload hx hb dX0_quoted_203 (lv_at hl 6 rfl) ?_
                  have hsz_48 := hh_47.2.2.2.2.2.1
                  have htt_48 := hh_47.2.2.2.2.2.2.1
                  refine W.room (fun hrc_48 hrs_48 => ?_)
                  refine va_callv (A0 := jA base) (H0 := s.heap) (va_runV (As := [.int z_23]) (rest := []) ⟨hx, hb, hml, hown, hts⟩ (uX0_character l dC dI ca base B hB hAp hB2 hB196 G_42 H_42 r0 z_23 qc_42 qa_42 m_qa_42 LC LS) (cwV 1 hts (jgV (jWr_25 _ (List.mem_of_getElem? (i := 17) rfl)) (jWr_25 _ (List.mem_of_getElem? (i := 18) rfl)) (jWr_25 _ (List.mem_of_getElem? (i := 19) rfl)) (jWr_1 _ (List.mem_of_getElem? (i := 14) rfl)) (jWr_25 _ (List.mem_of_getElem? (i := 20) rfl))) rfl rfl rfl (by decide +kernel) ⟨by rw [← hR]; exact Nat.le_of_ble_eq_true rfl, by rw [← hR]; exact Nat.le_of_ble_eq_true rfl⟩) ⟨fun a U g mk q => by obtain ⟨q0, q1, q2, qK, q10, q11, q12, q13⟩ := q; exact ⟨q0, q1, q2, jG.calling g mk a qK, q10, q11, q12, q13⟩, hh_47.recv (C := RX0) (T := TX0) (N := 2) hB2 rfl (by decide) hg_44 hK, fun U hU hW => ⟨rfl, hU, hh_47.2.1, hG.step hW hU hh_47.1, hg_44, hgq_42_0, (hh_47.2.2.1.sub (L1 := [(r0, 2, 1, .int qc_42), (r0, 2, 0, .ref qa_42)]) [0, 1] rfl), (by omega), (by omega), by first | omega | (refine ⟨?_, ?_, ?_, ?_, ?_⟩ <;> (first | omega | rfl | assumption | decide | exact Or.inl rfl | exact Or.inr rfl | (simp only; omega)))⟩⟩ rfl rfl hl.1 rfl (lv_room (Nat.le_of_ble_eq_true rfl)) dX0_quoted_205 ⟨by rw [hRc]; omega, by rw [hRs]; omega⟩) hh_47.1 (fun q _ h => h) (fun q h => h) (fun u_48 t_48 H_48 locs_48 ht_48 hvm_48 hr_49 hb_48 hz_48 hk_48 hS_48 => ?_)
                  obtain ⟨qc_48, qa_48, m_qa_48, G_48⟩ := u_48
                  rw [ht_48] at hb_48
                  simp only at hb_48
                  obtain ⟨⟨hb_481, hb_482, hb_483, hb_484, hb_485, hb_486⟩, hgq_48_0, hN_48, hbO_48⟩ := hb_48
                  have hh_48 : jSt (dC, dI) B base G0 G_48 EX0_quoted s.heap ((zcx_12 + ((m_qa_42 - m_wr_12) / 16)) + ((m_qa_48 - m_qa_42) / 16)) ((zsx_12 + (2 * (m_qa_42 - m_wr_12))) + (2 * (m_qa_48 - m_qa_42))) [(r0, 2, 1, .int qc_48), (r0, 2, 0, .ref qa_48)] [] [] H_48 locs_48 := (hh_47.callG hb_481 hb_482 hb_483 hb_484 hb_485 hS_48 rfl (L1 := []) [] rfl rfl (M1 := []) [] rfl rfl (I1 := []) [] rfl rfl).more hb_486
                  have hNn_48 : (jNk [0, 1, 2, 3, 4, 5, 6, 7, 8, 9, 10, 11, 12, 13, 14, 15, 16]) G0 G_48 := (hNn_42).tr hN_48
                  have hg_50 := hb_482 _ _ hg_44
                  have hg_51 := hb_482 _ _ hg_45
                  have hd_52 := jOw.tr (hh_47.iv 0 rfl) hh_47.2.2.2.2.1 hbO_48
                  have hh_53 := hh_48.addI (jOw.ie (dC := dC) (dI := dI) (G0 := G0) (k := 2) (r := r0) (H0 := s.heap) (F := [(2, 0), (2, 1)]) (C := RX0) (T := TX0) (N := 2) rfl (by decide) hh_48.2.2.2.2.1 (hd_52))
                  clear hh_48
                  try simp only at hr_49
                  obtain ⟨hr_49_0, hr_49_1, hr_49_2, hr_49_3, hr_49_4⟩ := hr_49
                  obtain ⟨z_54, ez_54⟩ : ∃ y : Int32, y = v5_12 + 1 := ⟨_, rfl⟩
                  refine lv_iinc (v := z_54) (lv' := [(5, .int z_54), (0, .ref r0), (1, .ref r1), (2, .int a2), (3, .int a3), (4, .int z_10), (6, .int z_23)]) hx hb dX0_quoted_208 hl (k := 5) rfl (by rw [ez_54]; rfl) (by decide) rfl (fun ls hl => ?_)
                  have hz_54 : z_54.toInt = v5_12.toInt + 1 := by rw [ez_54]; exact jb_iadd2 (rfl) (by decide) (by omega)
                  refine lv_goto (tgt := 23) hx hb dX0_quoted_211 (by decide) ?_
                  refine W.tight (c2 := ((zcx_12 + ((m_qa_42 - m_wr_12) / 16)) + ((m_qa_48 - m_qa_42) / 16))) (n2 := ((zsx_12 + (2 * (m_qa_42 - m_wr_12))) + (2 * (m_qa_48 - m_qa_42)))) hh_53.2.2.2.2.2.1 hh_53.2.2.2.2.2.2.1 ?_
                  exact L23 G_48 ((zcx_12 + ((m_qa_42 - m_wr_12) / 16)) + ((m_qa_48 - m_qa_42) / 16)) ((zsx_12 + (2 * (m_qa_42 - m_wr_12))) + (2 * (m_qa_48 - m_qa_42))) z_54 qc_48 qa_48 m_qa_48 _ _ hh_53 (hNn_48) (((hle_12).tr hb_422).tr hb_482) hgq_48_0 (by first | omega | (refine ⟨?_, ?_, ?_, ?_, ?_, ?_, ?_, ?_, ?_⟩ <;> (first | omega | rfl | assumption | decide | exact Or.inl rfl | exact Or.inr rfl | (simp only; omega)))) (by omega) _ (lv_sub hl [1, 2, 3, 4, 5, 0] rfl)
                · skip
                  have c_41' : z_23.toInt ≠ 34 := jb_eq_n (rfl) ((by decide)) c_41
                  refine lv_iload hx hb dX0_quoted_189 (lv_at hl 6 rfl) ?_
                  refine lv_bipush (v := 92) hx hb dX0_quoted_191 (by decide) ?_
                  refine lv_icmp_ne (tgt := 202) hx hb dX0_quoted_193 (by decide) (fun c_55 => ?_) (fun c_55 => ?_)
                  · skip
                    have c_55' : z_23.toInt ≠ 92 := jb_ne (rfl) ((by decide)) c_55
                    refine lv_aload_n hx hb dX0_quoted_202 rfl (lv_at hl 0 rfl) ?_
                    refine lv_iload hx hb dX0_quoted_203 (lv_at hl 6 rfl) ?_
                    have hsz_56 := hh_26.2.2.2.2.2.1
                    have htt_56 := hh_26.2.2.2.2.2.2.1
                    refine W.room (fun hrc_56 hrs_56 => ?_)
                    refine va_callv (A0 := jA base) (H0 := s.heap) (va_runV (As := [.int z_23]) (rest := []) ⟨hx, hb, hml, hown, hts⟩ (uX0_character l dC dI ca base B hB hAp hB2 hB196 Gx_12 H_26 r0 z_23 wc_12 wr_12 m_wr_12 LC LS) (cwV 1 hts (jgV (jWr_25 _ (List.mem_of_getElem? (i := 17) rfl)) (jWr_25 _ (List.mem_of_getElem? (i := 18) rfl)) (jWr_25 _ (List.mem_of_getElem? (i := 19) rfl)) (jWr_1 _ (List.mem_of_getElem? (i := 14) rfl)) (jWr_25 _ (List.mem_of_getElem? (i := 20) rfl))) rfl rfl rfl (by decide +kernel) ⟨by rw [← hR]; exact Nat.le_of_ble_eq_true rfl, by rw [← hR]; exact Nat.le_of_ble_eq_true rfl⟩) ⟨fun a U g mk q => by obtain ⟨q0, q1, q2, qK, q10, q11, q12, q13⟩ := q; exact ⟨q0, q1, q2, jG.calling g mk a qK, q10, q11, q12, q13⟩, hh_26.recv (C := RX0) (T := TX0) (N := 2) hB2 rfl (by decide) hg_13 hK, fun U hU hW => ⟨rfl, hU, hh_26.2.1, hG.step hW hU hh_26.1, hg_13, hg_wr_12, (hh_26.2.2.1.sub (L1 := [(r0, 2, 1, .int wc_12), (r0, 2, 0, .ref wr_12)]) [0, 1] rfl), (by omega), (by omega), by first | omega | (refine ⟨?_, ?_, ?_, ?_, ?_⟩ <;> (first | omega | rfl | assumption | decide | exact Or.inl rfl | exact Or.inr rfl | (simp only; omega)))⟩⟩ rfl rfl hl.1 rfl (lv_room (Nat.le_of_ble_eq_true rfl)) dX0_quoted_205 ⟨by rw [hRc]; omega, by rw [hRs]; omega⟩) hh_26.1 (fun q _ h => h) (fun q h => h) (fun u_56 t_56 H_56 locs_56 ht_56 hvm_56 hr_57 hb_56 hz_56 hk_56 hS_56 => ?_)
                    obtain ⟨qc_56, qa_56, m_qa_56, G_56⟩ := u_56
                    rw [ht_56] at hb_56
                    simp only at hb_56
                    obtain ⟨⟨hb_561, hb_562, hb_563, hb_564, hb_565, hb_566⟩, hgq_56_0, hN_56, hbO_56⟩ := hb_56
                    have hh_56 : jSt (dC, dI) B base G0 G_56 EX0_quoted s.heap (zcx_12 + ((m_qa_56 - m_wr_12) / 16)) (zsx_12 + (2 * (m_qa_56 - m_wr_12))) [(r0, 2, 1, .int qc_56), (r0, 2, 0, .ref qa_56)] [] [] H_56 locs_56 := (hh_26.callG hb_561 hb_562 hb_563 hb_564 hb_565 hS_56 rfl (L1 := []) [] rfl rfl (M1 := []) [] rfl rfl (I1 := []) [] rfl rfl).more hb_566
                    have hNn_56 : (jNk [0, 1, 2, 3, 4, 5, 6, 7, 8, 9, 10, 11, 12, 13, 14, 15, 16]) G0 G_56 := (hN_12).tr hN_56
                    have hg_58 := hb_562 _ _ hg_13
                    have hg_59 := hb_562 _ _ hg_14
                    have hd_60 := jOw.tr (hh_26.iv 0 rfl) hh_26.2.2.2.2.1 hbO_56
                    have hh_61 := hh_56.addI (jOw.ie (dC := dC) (dI := dI) (G0 := G0) (k := 2) (r := r0) (H0 := s.heap) (F := [(2, 0), (2, 1)]) (C := RX0) (T := TX0) (N := 2) rfl (by decide) hh_56.2.2.2.2.1 (hd_60))
                    clear hh_56
                    try simp only at hr_57
                    obtain ⟨hr_57_0, hr_57_1, hr_57_2, hr_57_3, hr_57_4⟩ := hr_57
                    obtain ⟨z_62, ez_62⟩ : ∃ y : Int32, y = v5_12 + 1 := ⟨_, rfl⟩
                    refine lv_iinc (v := z_62) (lv' := [(5, .int z_62), (0, .ref r0), (1, .ref r1), (2, .int a2), (3, .int a3), (4, .int z_10), (6, .int z_23)]) hx hb dX0_quoted_208 hl (k := 5) rfl (by rw [ez_62]; rfl) (by decide) rfl (fun ls hl => ?_)
                    have hz_62 : z_62.toInt = v5_12.toInt + 1 := by rw [ez_62]; exact jb_iadd2 (rfl) (by decide) (by omega)
                    refine lv_goto (tgt := 23) hx hb dX0_quoted_211 (by decide) ?_
                    refine W.tight (c2 := (zcx_12 + ((m_qa_56 - m_wr_12) / 16))) (n2 := (zsx_12 + (2 * (m_qa_56 - m_wr_12)))) hh_61.2.2.2.2.2.1 hh_61.2.2.2.2.2.2.1 ?_
                    exact L23 G_56 (zcx_12 + ((m_qa_56 - m_wr_12) / 16)) (zsx_12 + (2 * (m_qa_56 - m_wr_12))) z_62 qc_56 qa_56 m_qa_56 _ _ hh_61 (hNn_56) ((hle_12).tr hb_562) hgq_56_0 (by first | omega | (refine ⟨?_, ?_, ?_, ?_, ?_, ?_, ?_, ?_, ?_⟩ <;> (first | omega | rfl | assumption | decide | exact Or.inl rfl | exact Or.inr rfl | (simp only; omega)))) (by omega) _ (lv_sub hl [1, 2, 3, 4, 5, 0] rfl)
                  · skip
                    have c_55' : z_23.toInt = 92 := jb_ne_n (rfl) ((by decide)) c_55
                    refine lv_aload_n hx hb dX0_quoted_196 rfl (lv_at hl 0 rfl) ?_
                    refine lv_bipush (v := 92) hx hb dX0_quoted_197 (by decide) ?_
                    have hsz_63 := hh_26.2.2.2.2.2.1
                    have htt_63 := hh_26.2.2.2.2.2.2.1
                    refine W.room (fun hrc_63 hrs_63 => ?_)
                    refine va_callv (A0 := jA base) (H0 := s.heap) (va_runV (As := [.int 92]) (rest := []) ⟨hx, hb, hml, hown, hts⟩ (uX0_put l dC dI ca base B hB hAp hB2 hB196 Gx_12 H_26 r0 92 wc_12 wr_12 m_wr_12 LC LS) (cwV 1 hts (jgV (jWr_24 _ (List.mem_of_getElem? (i := 22) rfl)) (jWr_16 _ (List.mem_of_getElem? (i := 0) rfl)) (jWr_16 _ (List.mem_of_getElem? (i := 1) rfl)) (jWr_1 _ (List.mem_of_getElem? (i := 14) rfl)) (jWr_16 _ (List.mem_of_getElem? (i := 2) rfl))) rfl rfl rfl (by decide +kernel) ⟨by rw [← hR]; exact Nat.le_of_ble_eq_true rfl, by rw [← hR]; exact Nat.le_of_ble_eq_true rfl⟩) ⟨fun a U g mk q => by obtain ⟨q0, q1, q2, qK, q10, q11, q12, q13⟩ := q; exact ⟨q0, q1, q2, jG.calling g mk a qK, q10, q11, q12, q13⟩, hh_26.recv (C := RX0) (T := TX0) (N := 2) hB2 rfl (by decide) hg_13 hK, fun U hU hW => ⟨rfl, hU, hh_26.2.1, hG.step hW hU hh_26.1, hg_13, hg_wr_12, (hh_26.2.2.1.sub (L1 := [(r0, 2, 1, .int wc_12), (r0, 2, 0, .ref wr_12)]) [0, 1] rfl), (by omega), (by omega), by first | omega | (refine ⟨?_, ?_, ?_, ?_, ?_⟩ <;> (first | omega | rfl | assumption | decide | exact Or.inl rfl | exact Or.inr rfl | (simp only; omega)))⟩⟩ rfl rfl hl.1 rfl (lv_room (Nat.le_of_ble_eq_true rfl)) dX0_quoted_199 ⟨by rw [hRc]; omega, by rw [hRs]; omega⟩) hh_26.1 (fun q _ h => h) (fun q h => h) (fun u_63 t_63 H_63 locs_63 ht_63 hvm_63 hr_64 hb_63 hz_63 hk_63 hS_63 => ?_)
                    obtain ⟨qc_63, qa_63, m_qa_63, G_63⟩ := u_63
                    rw [ht_63] at hb_63
                    simp only at hb_63
                    obtain ⟨⟨hb_631, hb_632, hb_633, hb_634, hb_635, hb_636⟩, hgq_63_0, hN_63, hbO_63⟩ := hb_63
                    have hh_63 : jSt (dC, dI) B base G0 G_63 EX0_quoted s.heap (zcx_12 + ((m_qa_63 - m_wr_12) / 16)) (zsx_12 + (2 * (m_qa_63 - m_wr_12))) [(r0, 2, 1, .int qc_63), (r0, 2, 0, .ref qa_63)] [] [] H_63 locs_63 := (hh_26.callG hb_631 hb_632 hb_633 hb_634 hb_635 hS_63 rfl (L1 := []) [] rfl rfl (M1 := []) [] rfl rfl (I1 := []) [] rfl rfl).more hb_636
                    have hNn_63 : (jNk [0, 1, 2, 3, 4, 5, 6, 7, 8, 9, 10, 11, 12, 13, 14, 15, 16]) G0 G_63 := (hN_12).tr hN_63
                    have hg_65 := hb_632 _ _ hg_13
                    have hg_66 := hb_632 _ _ hg_14
                    have hd_67 := jOw.tr (hh_26.iv 0 rfl) hh_26.2.2.2.2.1 hbO_63
                    have hh_68 := hh_63.addI (jOw.ie (dC := dC) (dI := dI) (G0 := G0) (k := 2) (r := r0) (H0 := s.heap) (F := [(2, 0), (2, 1)]) (C := RX0) (T := TX0) (N := 2) rfl (by decide) hh_63.2.2.2.2.1 (hd_67))
                    clear hh_63
                    try simp only at hr_64
                    obtain ⟨hr_64_0, hr_64_1, hr_64_2, hr_64_3, hr_64_4⟩ := hr_64
                    refine lv_aload_n hx hb dX0_quoted_202 rfl (lv_at hl 0 rfl) ?_
                    refine lv_iload hx hb dX0_quoted_203 (lv_at hl 6 rfl) ?_
                    have hsz_69 := hh_68.2.2.2.2.2.1
                    have htt_69 := hh_68.2.2.2.2.2.2.1
                    refine W.room (fun hrc_69 hrs_69 => ?_)
                    refine va_callv (A0 := jA base) (H0 := s.heap) (va_runV (As := [.int z_23]) (rest := []) ⟨hx, hb, hml, hown, hts⟩ (uX0_character l dC dI ca base B hB hAp hB2 hB196 G_63 H_63 r0 z_23 qc_63 qa_63 m_qa_63 LC LS) (cwV 1 hts (jgV (jWr_25 _ (List.mem_of_getElem? (i := 17) rfl)) (jWr_25 _ (List.mem_of_getElem? (i := 18) rfl)) (jWr_25 _ (List.mem_of_getElem? (i := 19) rfl)) (jWr_1 _ (List.mem_of_getElem? (i := 14) rfl)) (jWr_25 _ (List.mem_of_getElem? (i := 20) rfl))) rfl rfl rfl (by decide +kernel) ⟨by rw [← hR]; exact Nat.le_of_ble_eq_true rfl, by rw [← hR]; exact Nat.le_of_ble_eq_true rfl⟩) ⟨fun a U g mk q => by obtain ⟨q0, q1, q2, qK, q10, q11, q12, q13⟩ := q; exact ⟨q0, q1, q2, jG.calling g mk a qK, q10, q11, q12, q13⟩, hh_68.recv (C := RX0) (T := TX0) (N := 2) hB2 rfl (by decide) hg_65 hK, fun U hU hW => ⟨rfl, hU, hh_68.2.1, hG.step hW hU hh_68.1, hg_65, hgq_63_0, (hh_68.2.2.1.sub (L1 := [(r0, 2, 1, .int qc_63), (r0, 2, 0, .ref qa_63)]) [0, 1] rfl), (by omega), (by omega), by first | omega | (refine ⟨?_, ?_, ?_, ?_, ?_⟩ <;> (first | omega | rfl | assumption | decide | exact Or.inl rfl | exact Or.inr rfl | (simp only; omega)))⟩⟩ rfl rfl hl.1 rfl (lv_room (Nat.le_of_ble_eq_true rfl)) dX0_quoted_205 ⟨by rw [hRc]; omega, by rw [hRs]; omega⟩) hh_68.1 (fun q _ h => h) (fun q h => h) (fun u_69 t_69 H_69 locs_69 ht_69 hvm_69 hr_70 hb_69 hz_69 hk_69 hS_69 => ?_)
                    obtain ⟨qc_69, qa_69, m_qa_69, G_69⟩ := u_69
                    rw [ht_69] at hb_69
                    simp only at hb_69
                    obtain ⟨⟨hb_691, hb_692, hb_693, hb_694, hb_695, hb_696⟩, hgq_69_0, hN_69, hbO_69⟩ := hb_69
                    have hh_69 : jSt (dC, dI) B base G0 G_69 EX0_quoted s.heap ((zcx_12 + ((m_qa_63 - m_wr_12) / 16)) + ((m_qa_69 - m_qa_63) / 16)) ((zsx_12 + (2 * (m_qa_63 - m_wr_12))) + (2 * (m_qa_69 - m_qa_63))) [(r0, 2, 1, .int qc_69), (r0, 2, 0, .ref qa_69)] [] [] H_69 locs_69 := (hh_68.callG hb_691 hb_692 hb_693 hb_694 hb_695 hS_69 rfl (L1 := []) [] rfl rfl (M1 := []) [] rfl rfl (I1 := []) [] rfl rfl).more hb_696
                    have hNn_69 : (jNk [0, 1, 2, 3, 4, 5, 6, 7, 8, 9, 10, 11, 12, 13, 14, 15, 16]) G0 G_69 := (hNn_63).tr hN_69
                    have hg_71 := hb_692 _ _ hg_65
                    have hg_72 := hb_692 _ _ hg_66
                    have hd_73 := jOw.tr (hh_68.iv 0 rfl) hh_68.2.2.2.2.1 hbO_69
                    have hh_74 := hh_69.addI (jOw.ie (dC := dC) (dI := dI) (G0 := G0) (k := 2) (r := r0) (H0 := s.heap) (F := [(2, 0), (2, 1)]) (C := RX0) (T := TX0) (N := 2) rfl (by decide) hh_69.2.2.2.2.1 (hd_73))
                    clear hh_69
                    try simp only at hr_70
                    obtain ⟨hr_70_0, hr_70_1, hr_70_2, hr_70_3, hr_70_4⟩ := hr_70
                    obtain ⟨z_75, ez_75⟩ : ∃ y : Int32, y = v5_12 + 1 := ⟨_, rfl⟩
                    refine lv_iinc (v := z_75) (lv' := [(5, .int z_75), (0, .ref r0), (1, .ref r1), (2, .int a2), (3, .int a3), (4, .int z_10), (6, .int z_23)]) hx hb dX0_quoted_208 hl (k := 5) rfl (by rw [ez_75]; rfl) (by decide) rfl (fun ls hl => ?_)
                    have hz_75 : z_75.toInt = v5_12.toInt + 1 := by rw [ez_75]; exact jb_iadd2 (rfl) (by decide) (by omega)
                    refine lv_goto (tgt := 23) hx hb dX0_quoted_211 (by decide) ?_
                    refine W.tight (c2 := ((zcx_12 + ((m_qa_63 - m_wr_12) / 16)) + ((m_qa_69 - m_qa_63) / 16))) (n2 := ((zsx_12 + (2 * (m_qa_63 - m_wr_12))) + (2 * (m_qa_69 - m_qa_63)))) hh_74.2.2.2.2.2.1 hh_74.2.2.2.2.2.2.1 ?_
                    exact L23 G_69 ((zcx_12 + ((m_qa_63 - m_wr_12) / 16)) + ((m_qa_69 - m_qa_63) / 16)) ((zsx_12 + (2 * (m_qa_63 - m_wr_12))) + (2 * (m_qa_69 - m_qa_63))) z_75 qc_69 qa_69 m_qa_69 _ _ hh_74 (hNn_69) (((hle_12).tr hb_632).tr hb_692) hgq_69_0 (by first | omega | (refine ⟨?_, ?_, ?_, ?_, ?_, ?_, ?_, ?_, ?_⟩ <;> (first | omega | rfl | assumption | decide | exact Or.inl rfl | exact Or.inr rfl | (simp only; omega)))) (by omega) _ (lv_sub hl [1, 2, 3, 4, 5, 0] rfl)
              · skip
                have c_40' : z_23.toInt < 32 := jb_ge_n (rfl) ((by decide)) c_40
                refine lv_aload_n hx hb dX0_quoted_126 rfl (lv_at hl 0 rfl) ?_
                refine va_ldcS hx hb hown rstr67 dX0_quoted_127 ?_
                have hsz_76 := hh_26.2.2.2.2.2.1
                have htt_76 := hh_26.2.2.2.2.2.2.1
                refine W.room (fun hrc_76 hrs_76 => ?_)
                refine va_callv (A0 := jA base) (H0 := s.heap) (va_runV (As := [.ref str67]) (rest := []) ⟨hx, hb, hml, hown, hts⟩ (uX0_text l dC dI ca base B hB hAp hB2 hB196 Gx_12 H_26 r0 str67 4 wc_12 wr_12 m_wr_12 LC LS) (cwV 1 hts (jgV (jWr_25 _ (List.mem_of_getElem? (i := 21) rfl)) (jWr_25 _ (List.mem_of_getElem? (i := 22) rfl)) (jWr_25 _ (List.mem_of_getElem? (i := 23) rfl)) (jWr_1 _ (List.mem_of_getElem? (i := 14) rfl)) (jWr_26 _ (List.mem_of_getElem? (i := 0) rfl))) rfl rfl rfl (by decide +kernel) ⟨by rw [← hR]; exact Nat.le_of_ble_eq_true rfl, by rw [← hR]; exact Nat.le_of_ble_eq_true rfl⟩) ⟨fun a U g mk q => by obtain ⟨q0, q1, q2, qK, q10, q11, q12, q13, q14⟩ := q; exact ⟨q0, q1, q2, jG.calling g mk a qK, (q10.moved (Vm.Alike.refl U.vm)), q11, q12, q13, q14⟩, hh_26.recv (C := RX0) (T := TX0) (N := 2) hB2 rfl (by decide) hg_13 hK, fun U hU hW => ⟨rfl, hU, hh_26.2.1, hG.step hW hU hh_26.1, (hstr67.moved hW.alike).kept hh_26.1.2.1, hg_13, hg_wr_12, (hh_26.2.2.1.sub (L1 := [(r0, 2, 1, .int wc_12), (r0, 2, 0, .ref wr_12)]) [0, 1] rfl), (by omega), (by omega), by first | omega | (refine ⟨?_, ?_, ?_, ?_, ?_, ?_⟩ <;> (first | omega | rfl | assumption | decide | exact Or.inl rfl | exact Or.inr rfl | (simp only; omega)))⟩⟩ rfl rfl hl.1 rfl (lv_room (Nat.le_of_ble_eq_true rfl)) dX0_quoted_129 ⟨by rw [hRc]; omega, by rw [hRs]; omega⟩) hh_26.1 (fun q _ h => h) (fun q h => h) (fun u_76 t_76 H_76 locs_76 ht_76 hvm_76 hr_77 hb_76 hz_76 hk_76 hS_76 => ?_)
                obtain ⟨qc_76, qa_76, m_qa_76, G_76⟩ := u_76
                rw [ht_76] at hb_76
                simp only at hb_76
                obtain ⟨⟨hb_761, hb_762, hb_763, hb_764, hb_765, hb_766⟩, hgq_76_0, hN_76, hbO_76⟩ := hb_76
                have hh_76 : jSt (dC, dI) B base G0 G_76 EX0_quoted s.heap (zcx_12 + ((m_qa_76 - m_wr_12) / 16)) (zsx_12 + (2 * (m_qa_76 - m_wr_12))) [(r0, 2, 1, .int qc_76), (r0, 2, 0, .ref qa_76)] [] [] H_76 locs_76 := (hh_26.callG hb_761 hb_762 hb_763 hb_764 hb_765 hS_76 rfl (L1 := []) [] rfl rfl (M1 := []) [] rfl rfl (I1 := []) [] rfl rfl).more hb_766
                have hNn_76 : (jNk [0, 1, 2, 3, 4, 5, 6, 7, 8, 9, 10, 11, 12, 13, 14, 15, 16]) G0 G_76 := (hN_12).tr hN_76
                have hg_78 := hb_762 _ _ hg_13
                have hg_79 := hb_762 _ _ hg_14
                have hd_80 := jOw.tr (hh_26.iv 0 rfl) hh_26.2.2.2.2.1 hbO_76
                have hh_81 := hh_76.addI (jOw.ie (dC := dC) (dI := dI) (G0 := G0) (k := 2) (r := r0) (H0 := s.heap) (F := [(2, 0), (2, 1)]) (C := RX0) (T := TX0) (N := 2) rfl (by decide) hh_76.2.2.2.2.1 (hd_80))
                clear hh_76
                try simp only at hr_77
                obtain ⟨hr_77_0, hr_77_1, hr_77_2, hr_77_3, hr_77_4⟩ := hr_77
                refine lv_aload_n hx hb dX0_quoted_132 rfl (lv_at hl 0 rfl) ?_
                refine lv_bipush (v := 48) hx hb dX0_quoted_133 (by decide) ?_
                refine lv_iload hx hb dX0_quoted_135 (lv_at hl 6 rfl) ?_
                refine lv_iconst (v := 4) hx hb dX0_quoted_137 (by decide) ?_
                refine lv_ishr hx hb dX0_quoted_138 ?_
                refine lv_topi (fun z_82 ez_82 => ?_)
                have hz_82 : z_82.toInt = z_23.toInt / 2 ^ 4 := by rw [ez_82]; exact jb_ishr 4 (rfl) (by decide)
                refine lv_iadd hx hb dX0_quoted_139 ?_
                refine lv_topi (fun z_83 ez_83 => ?_)
                have hsz_84 := hh_81.2.2.2.2.2.1
                have htt_84 := hh_81.2.2.2.2.2.2.1
                refine W.room (fun hrc_84 hrs_84 => ?_)
                refine va_callv (A0 := jA base) (H0 := s.heap) (va_runV (As := [.int z_83]) (rest := []) ⟨hx, hb, hml, hown, hts⟩ (uX0_put l dC dI ca base B hB hAp hB2 hB196 G_76 H_76 r0 z_83 qc_76 qa_76 m_qa_76 LC LS) (cwV 1 hts (jgV (jWr_24 _ (List.mem_of_getElem? (i := 22) rfl)) (jWr_16 _ (List.mem_of_getElem? (i := 0) rfl)) (jWr_16 _ (List.mem_of_getElem? (i := 1) rfl)) (jWr_1 _ (List.mem_of_getElem? (i := 14) rfl)) (jWr_16 _ (List.mem_of_getElem? (i := 2) rfl))) rfl rfl rfl (by decide +kernel) ⟨by rw [← hR]; exact Nat.le_of_ble_eq_true rfl, by rw [← hR]; exact Nat.le_of_ble_eq_true rfl⟩) ⟨fun a U g mk q => by obtain ⟨q0, q1, q2, qK, q10, q11, q12, q13⟩ := q; exact ⟨q0, q1, q2, jG.calling g mk a qK, q10, q11, q12, q13⟩, hh_81.recv (C := RX0) (T := TX0) (N := 2) hB2 rfl (by decide) hg_78 hK, fun U hU hW => ⟨rfl, hU, hh_81.2.1, hG.step hW hU hh_81.1, hg_78, hgq_76_0, (hh_81.2.2.1.sub (L1 := [(r0, 2, 1, .int qc_76), (r0, 2, 0, .ref qa_76)]) [0, 1] rfl), (by omega), (by omega), by first | omega | (refine ⟨?_, ?_, ?_, ?_, ?_⟩ <;> (first | omega | rfl | assumption | decide | exact Or.inl rfl | exact Or.inr rfl | (simp only; omega)))⟩⟩ rfl rfl hl.1 rfl (lv_room (Nat.le_of_ble_eq_true rfl)) dX0_quoted_140 ⟨by rw [hRc]; omega, by rw [hRs]; omega⟩) hh_81.1 (fun q _ h => h) (fun q h => h) (fun u_84 t_84 H_84 locs_84 ht_84 hvm_84 hr_85 hb_84 hz_84 hk_84 hS_84 => ?_)
                obtain ⟨qc_84, qa_84, m_qa_84, G_84⟩ := u_84
                rw [ht_84] at hb_84
                simp only at hb_84
                obtain ⟨⟨hb_841, hb_842, hb_843, hb_844, hb_845, hb_846⟩, hgq_84_0, hN_84, hbO_84⟩ := hb_84
                have hh_84 : jSt (dC, dI) B base G0 G_84 EX0_quoted s.heap ((zcx_12 + ((m_qa_76 - m_wr_12) / 16)) + ((m_qa_84 - m_qa_76) / 16)) ((zsx_12 + (2 * (m_qa_76 - m_wr_12))) + (2 * (m_qa_84 - m_qa_76))) [(r0, 2, 1, .int qc_84), (r0, 2, 0, .ref qa_84)] [] [] H_84 locs_84 := (hh_81.callG hb_841 hb_842 hb_843 hb_844 hb_845 hS_84 rfl (L1 := []) [] rfl rfl (M1 := []) [] rfl rfl (I1 := []) [] rfl rfl).more hb_846
                have hNn_84 : (jNk [0, 1, 2, 3, 4, 5, 6, 7, 8, 9, 10, 11, 12, 13, 14, 15, 16]) G0 G_84 := (hNn_76).tr hN_84
                have hg_86 := hb_842 _ _ hg_78
                have hg_87 := hb_842 _ _ hg_79
                have hd_88 := jOw.tr (hh_81.iv 0 rfl) hh_81.2.2.2.2.1 hbO_84
                have hh_89 := hh_84.addI (jOw.ie (dC := dC) (dI := dI) (G0 := G0) (k := 2) (r := r0) (H0 := s.heap) (F := [(2, 0), (2, 1)]) (C := RX0) (T := TX0) (N := 2) rfl (by decide) hh_84.2.2.2.2.1 (hd_88))
                clear hh_84
                try simp only at hr_85
                obtain ⟨hr_85_0, hr_85_1, hr_85_2, hr_85_3, hr_85_4⟩ := hr_85
                refine lv_aload_n hx hb dX0_quoted_143 rfl (lv_at hl 0 rfl) ?_
                refine lv_iload hx hb dX0_quoted_144 (lv_at hl 6 rfl) ?_
                refine lv_bipush (v := 15) hx hb dX0_quoted_146 (by decide) ?_
                refine lv_iand hx hb dX0_quoted_148 ?_
                refine lv_topi (fun z_90 ez_90 => ?_)
                have hz_90 : 0 ≤ z_90.toInt ∧ z_90.toInt ≤ 15 := by rw [ez_90]; exact jb_and z_23 (m := 15) (k := 4) (by decide) (by decide)
                refine lv_bipush (v := 10) hx hb dX0_quoted_149 (by decide) ?_
                refine lv_icmp_ge (tgt := 165) hx hb dX0_quoted_151 (by decide) (fun c_91 => ?_) (fun c_91 => ?_)
                · skip
                  have c_91' : z_90.toInt ≥ 10 := jb_ge (rfl) ((by decide)) c_91
                  refine lv_bipush (v := 97) hx hb dX0_quoted_165 (by decide) ?_
                  refine lv_iload hx hb dX0_quoted_167 (lv_at hl 6 rfl) ?_
                  refine lv_bipush (v := 15) hx hb dX0_quoted_169 (by decide) ?_
                  refine lv_iand hx hb dX0_quoted_171 ?_
                  refine lv_topi (fun z_92 ez_92 => ?_)
                  have hz_92 : 0 ≤ z_92.toInt ∧ z_92.toInt ≤ 15 := by rw [ez_92]; exact jb_and z_23 (m := 15) (k := 4) (by decide) (by decide)
                  refine lv_iadd hx hb dX0_quoted_172 ?_
                  refine lv_topi (fun z_93 ez_93 => ?_)
                  refine lv_bipush (v := 10) hx hb dX0_quoted_173 (by decide) ?_
                  refine lv_isub hx hb dX0_quoted_175 ?_
                  refine lv_topi (fun z_94 ez_94 => ?_)
                  have hsz_95 := hh_89.2.2.2.2.2.1
                  have htt_95 := hh_89.2.2.2.2.2.2.1
                  refine W.room (fun hrc_95 hrs_95 => ?_)
                  refine va_callv (A0 := jA base) (H0 := s.heap) (va_runV (As := [.int z_94]) (rest := []) ⟨hx, hb, hml, hown, hts⟩ (uX0_put l dC dI ca base B hB hAp hB2 hB196 G_84 H_84 r0 z_94 qc_84 qa_84 m_qa_84 LC LS) (cwV 1 hts (jgV (jWr_24 _ (List.mem_of_getElem? (i := 22) rfl)) (jWr_16 _ (List.mem_of_getElem? (i := 0) rfl)) (jWr_16 _ (List.mem_of_getElem? (i := 1) rfl)) (jWr_1 _ (List.mem_of_getElem? (i := 14) rfl)) (jWr_16 _ (List.mem_of_getElem? (i := 2) rfl))) rfl rfl rfl (by decide +kernel) ⟨by rw [← hR]; exact Nat.le_of_ble_eq_true rfl, by rw [← hR]; exact Nat.le_of_ble_eq_true rfl⟩) ⟨fun a U g mk q => by obtain ⟨q0, q1, q2, qK, q10, q11, q12, q13⟩ := q; exact ⟨q0, q1, q2, jG.calling g mk a qK, q10, q11, q12, q13⟩, hh_89.recv (C := RX0) (T := TX0) (N := 2) hB2 rfl (by decide) hg_86 hK, fun U hU hW => ⟨rfl, hU, hh_89.2.1, hG.step hW hU hh_89.1, hg_86, hgq_84_0, (hh_89.2.2.1.sub (L1 := [(r0, 2, 1, .int qc_84), (r0, 2, 0, .ref qa_84)]) [0, 1] rfl), (by omega), (by omega), by first | omega | (refine ⟨?_, ?_, ?_, ?_, ?_⟩ <;> (first | omega | rfl | assumption | decide | exact Or.inl rfl | exact Or.inr rfl | (simp only; omega)))⟩⟩ rfl rfl hl.1 rfl (lv_room (Nat.le_of_ble_eq_true rfl)) dX0_quoted_176 ⟨by rw [hRc]; omega, by rw [hRs]; omega⟩) hh_89.1 (fun q _ h => h) (fun q h => h) (fun u_95 t_95 H_95 locs_95 ht_95 hvm_95 hr_96 hb_95 hz_95 hk_95 hS_95 => ?_)
                  obtain ⟨qc_95, qa_95, m_qa_95, G_95⟩ := u_95
                  rw [ht_95] at hb_95
                  simp only at hb_95
                  obtain ⟨⟨hb_951, hb_952, hb_953, hb_954, hb_955, hb_956⟩, hgq_95_0, hN_95, hbO_95⟩ := hb_95
                  have hh_95 : jSt (dC, dI) B base G0 G_95 EX0_quoted s.heap (((zcx_12 + ((m_qa_76 - m_wr_12) / 16)) + ((m_qa_84 - m_qa_76) / 16)) + ((m_qa_95 - m_qa_84) / 16)) (((zsx_12 + (2 * (m_qa_76 - m_wr_12))) + (2 * (m_qa_84 - m_qa_76))) + (2 * (m_qa_95 - m_qa_84))) [(r0, 2, 1, .int qc_95), (r0, 2, 0, .ref qa_95)] [] [] H_95 locs_95 := (hh_89.callG hb_951 hb_952 hb_953 hb_954 hb_955 hS_95 rfl (L1 := []) [] rfl rfl (M1 := []) [] rfl rfl (I1 := []) [] rfl rfl).more hb_956
                  have hNn_95 : (jNk [0, 1, 2, 3, 4, 5, 6, 7, 8, 9, 10, 11, 12, 13, 14, 15, 16]) G0 G_95 := (hNn_84).tr hN_95
                  have hg_97 := hb_952 _ _ hg_86
                  have hg_98 := hb_952 _ _ hg_87
                  have hd_99 := jOw.tr (hh_89.iv 0 rfl) hh_89.2.2.2.2.1 hbO_95
                  have hh_100 := hh_95.addI (jOw.ie (dC := dC) (dI := dI) (G0 := G0) (k := 2) (r := r0) (H0 := s.heap) (F := [(2, 0), (2, 1)]) (C := RX0) (T := TX0) (N := 2) rfl (by decide) hh_95.2.2.2.2.1 (hd_99))
                  clear hh_95
                  try simp only at hr_96
                  obtain ⟨hr_96_0, hr_96_1, hr_96_2, hr_96_3, hr_96_4⟩ := hr_96
                  refine lv_goto (tgt := 208) hx hb dX0_quoted_179 (by decide) ?_
                  obtain ⟨z_101, ez_101⟩ : ∃ y : Int32, y = v5_12 + 1 := ⟨_, rfl⟩
                  refine lv_iinc (v := z_101) (lv' := [(5, .int z_101), (0, .ref r0), (1, .ref r1), (2, .int a2), (3, .int a3), (4, .int z_10), (6, .int z_23)]) hx hb dX0_quoted_208 hl (k := 5) rfl (by rw [ez_101]; rfl) (by decide) rfl (fun ls hl => ?_)
                  have hz_101 : z_101.toInt = v5_12.toInt + 1 := by rw [ez_101]; exact jb_iadd2 (rfl) (by decide) (by omega)
                  refine lv_goto (tgt := 23) hx hb dX0_quoted_211 (by decide) ?_
                  refine W.tight (c2 := (((zcx_12 + ((m_qa_76 - m_wr_12) / 16)) + ((m_qa_84 - m_qa_76) / 16)) + ((m_qa_95 - m_qa_84) / 16))) (n2 := (((zsx_12 + (2 * (m_qa_76 - m_wr_12))) + (2 * (m_qa_84 - m_qa_76))) + (2 * (m_qa_95 - m_qa_84)))) hh_100.2.2.2.2.2.1 hh_100.2.2.2.2.2.2.1 ?_
                  exact L23 G_95 (((zcx_12 + ((m_qa_76 - m_wr_12) / 16)) + ((m_qa_84 - m_qa_76) / 16)) + ((m_qa_95 - m_qa_84) / 16)) (((zsx_12 + (2 * (m_qa_76 - m_wr_12))) + (2 * (m_qa_84 - m_qa_76))) + (2 * (m_qa_95 - m_qa_84))) z_101 qc_95 qa_95 m_qa_95 _ _ hh_100 (hNn_95) ((((hle_12).tr hb_762).tr hb_842).tr hb_952) hgq_95_0 (by first | omega | (refine ⟨?_, ?_, ?_, ?_, ?_, ?_, ?_, ?_, ?_⟩ <;> (first | omega | rfl | assumption | decide | exact Or.inl rfl | exact Or.inr rfl | (simp only; omega)))) (by omega) _ (lv_sub hl [1, 2, 3, 4, 5, 0] rfl)
                · skip
                  have c_91' : z_90.toInt < 10 := jb_ge_n (rfl) ((by decide)) c_91
                  refine lv_bipush (v := 48) hx hb dX0_quoted_154 (by decide) ?_
                  refine lv_iload hx hb dX0_quoted_156 (lv_at hl 6 rfl) ?_
                  refine lv_bipush (v := 15) hx hb dX0_quoted_158 (by decide) ?_
                  refine lv_iand hx hb dX0_quoted_160 ?_
                  refine lv_topi (fun z_102 ez_102 => ?_)
                  have hz_102 : 0 ≤ z_102.toInt ∧ z_102.toInt ≤ 15 := by rw [ez_102]; exact jb_and z_23 (m := 15) (k := 4) (by decide) (by decide)
                  refine lv_iadd hx hb dX0_quoted_161 ?_
                  refine lv_topi (fun z_103 ez_103 => ?_)
                  refine lv_goto (tgt := 176) hx hb dX0_quoted_162 (by decide) ?_
                  have hsz_104 := hh_89.2.2.2.2.2.1
                  have htt_104 := hh_89.2.2.2.2.2.2.1
                  refine W.room (fun hrc_104 hrs_104 => ?_)
                  refine va_callv (A0 := jA base) (H0 := s.heap) (va_runV (As := [.int z_103]) (rest := []) ⟨hx, hb, hml, hown, hts⟩ (uX0_put l dC dI ca base B hB hAp hB2 hB196 G_84 H_84 r0 z_103 qc_84 qa_84 m_qa_84 LC LS) (cwV 1 hts (jgV (jWr_24 _ (List.mem_of_getElem? (i := 22) rfl)) (jWr_16 _ (List.mem_of_getElem? (i := 0) rfl)) (jWr_16 _ (List.mem_of_getElem? (i := 1) rfl)) (jWr_1 _ (List.mem_of_getElem? (i := 14) rfl)) (jWr_16 _ (List.mem_of_getElem? (i := 2) rfl))) rfl rfl rfl (by decide +kernel) ⟨by rw [← hR]; exact Nat.le_of_ble_eq_true rfl, by rw [← hR]; exact Nat.le_of_ble_eq_true rfl⟩) ⟨fun a U g mk q => by obtain ⟨q0, q1, q2, qK, q10, q11, q12, q13⟩ := q; exact ⟨q0, q1, q2, jG.calling g mk a qK, q10, q11, q12, q13⟩, hh_89.recv (C := RX0) (T := TX0) (N := 2) hB2 rfl (by decide) hg_86 hK, fun U hU hW => ⟨rfl, hU, hh_89.2.1, hG.step hW hU hh_89.1, hg_86, hgq_84_0, (hh_89.2.2.1.sub (L1 := [(r0, 2, 1, .int qc_84), (r0, 2, 0, .ref qa_84)]) [0, 1] rfl), (by omega), (by omega), by first | omega | (refine ⟨?_, ?_, ?_, ?_, ?_⟩ <;> (first | omega | rfl | assumption | decide | exact Or.inl rfl | exact Or.inr rfl | (simp only; omega)))⟩⟩ rfl rfl hl.1 rfl (lv_room (Nat.le_of_ble_eq_true rfl)) dX0_quoted_176 ⟨by rw [hRc]; omega, by rw [hRs]; omega⟩) hh_89.1 (fun q _ h => h) (fun q h => h) (fun u_104 t_104 H_104 locs_104 ht_104 hvm_104 hr_105 hb_104 hz_104 hk_104 hS_104 => ?_)
                  obtain ⟨qc_104, qa_104, m_qa_104, G_104⟩ := u_104
                  rw [ht_104] at hb_104
                  simp only at hb_104
                  obtain ⟨⟨hb_1041, hb_1042, hb_1043, hb_1044, hb_1045, hb_1046⟩, hgq_104_0, hN_104, hbO_104⟩ := hb_104
                  have hh_104 : jSt (dC, dI) B base G0 G_104 EX0_quoted s.heap (((zcx_12 + ((m_qa_76 - m_wr_12) / 16)) + ((m_qa_84 - m_qa_76) / 16)) + ((m_qa_104 - m_qa_84) / 16)) (((zsx_12 + (2 * (m_qa_76 - m_wr_12))) + (2 * (m_qa_84 - m_qa_76))) + (2 * (m_qa_104 - m_qa_84))) [(r0, 2, 1, .int qc_104), (r0, 2, 0, .ref qa_104)] [] [] H_104 locs_104 := (hh_89.callG hb_1041 hb_1042 hb_1043 hb_1044 hb_1045 hS_104 rfl (L1 := []) [] rfl rfl (M1 := []) [] rfl rfl (I1 := []) [] rfl rfl).more hb_1046
                  have hNn_104 : (jNk [0, 1, 2, 3, 4, 5, 6, 7, 8, 9, 10, 11, 12, 13, 14, 15, 16]) G0 G_104 := (hNn_84).tr hN_104
                  have hg_106 := hb_1042 _ _ hg_86
                  have hg_107 := hb_1042 _ _ hg_87
                  have hd_108 := jOw.tr (hh_89.iv 0 rfl) hh_89.2.2.2.2.1 hbO_104
                  have hh_109 := hh_104.addI (jOw.ie (dC := dC) (dI := dI) (G0 := G0) (k := 2) (r := r0) (H0 := s.heap) (F := [(2, 0), (2, 1)]) (C := RX0) (T := TX0) (N := 2) rfl (by decide) hh_104.2.2.2.2.1 (hd_108))
                  clear hh_104
                  try simp only at hr_105
                  obtain ⟨hr_105_0, hr_105_1, hr_105_2, hr_105_3, hr_105_4⟩ := hr_105
                  refine lv_goto (tgt := 208) hx hb dX0_quoted_179 (by decide) ?_
                  obtain ⟨z_110, ez_110⟩ : ∃ y : Int32, y = v5_12 + 1 := ⟨_, rfl⟩
                  refine lv_iinc (v := z_110) (lv' := [(5, .int z_110), (0, .ref r0), (1, .ref r1), (2, .int a2), (3, .int a3), (4, .int z_10), (6, .int z_23)]) hx hb dX0_quoted_208 hl (k := 5) rfl (by rw [ez_110]; rfl) (by decide) rfl (fun ls hl => ?_)
                  have hz_110 : z_110.toInt = v5_12.toInt + 1 := by rw [ez_110]; exact jb_iadd2 (rfl) (by decide) (by omega)
                  refine lv_goto (tgt := 23) hx hb dX0_quoted_211 (by decide) ?_
                  refine W.tight (c2 := (((zcx_12 + ((m_qa_76 - m_wr_12) / 16)) + ((m_qa_84 - m_qa_76) / 16)) + ((m_qa_104 - m_qa_84) / 16))) (n2 := (((zsx_12 + (2 * (m_qa_76 - m_wr_12))) + (2 * (m_qa_84 - m_qa_76))) + (2 * (m_qa_104 - m_qa_84)))) hh_109.2.2.2.2.2.1 hh_109.2.2.2.2.2.2.1 ?_
                  exact L23 G_104 (((zcx_12 + ((m_qa_76 - m_wr_12) / 16)) + ((m_qa_84 - m_qa_76) / 16)) + ((m_qa_104 - m_qa_84) / 16)) (((zsx_12 + (2 * (m_qa_76 - m_wr_12))) + (2 * (m_qa_84 - m_qa_76))) + (2 * (m_qa_104 - m_qa_84))) z_110 qc_104 qa_104 m_qa_104 _ _ hh_109 (hNn_104) ((((hle_12).tr hb_762).tr hb_842).tr hb_1042) hgq_104_0 (by first | omega | (refine ⟨?_, ?_, ?_, ?_, ?_, ?_, ?_, ?_, ?_⟩ <;> (first | omega | rfl | assumption | decide | exact Or.inl rfl | exact Or.inr rfl | (simp only; omega)))) (by omega) _ (lv_sub hl [1, 2, 3, 4, 5, 0] rfl)
            · skip
              have c_39' : r_37.toInt ≠ 0 := jb_eq_n (rfl) ((by decide)) c_39
              refine lv_aload_n hx hb dX0_quoted_110 rfl (lv_at hl 0 rfl) ?_
              refine lv_ldc hx hb hown hcs_66 dX0_quoted_111 ?_
              have hsz_111 := hh_26.2.2.2.2.2.1
              have htt_111 := hh_26.2.2.2.2.2.2.1
              refine W.room (fun hrc_111 hrs_111 => ?_)
              refine va_callv (A0 := jA base) (H0 := s.heap) (va_runV (As := [.int 65533]) (rest := []) ⟨hx, hb, hml, hown, hts⟩ (uX0_character l dC dI ca base B hB hAp hB2 hB196 Gx_12 H_26 r0 65533 wc_12 wr_12 m_wr_12 LC LS) (cwV 1 hts (jgV (jWr_25 _ (List.mem_of_getElem? (i := 17) rfl)) (jWr_25 _ (List.mem_of_getElem? (i := 18) rfl)) (jWr_25 _ (List.mem_of_getElem? (i := 19) rfl)) (jWr_1 _ (List.mem_of_getElem? (i := 14) rfl)) (jWr_25 _ (List.mem_of_getElem? (i := 20) rfl))) rfl rfl rfl (by decide +kernel) ⟨by rw [← hR]; exact Nat.le_of_ble_eq_true rfl, by rw [← hR]; exact Nat.le_of_ble_eq_true rfl⟩) ⟨fun a U g mk q => by obtain ⟨q0, q1, q2, qK, q10, q11, q12, q13⟩ := q; exact ⟨q0, q1, q2, jG.calling g mk a qK, q10, q11, q12, q13⟩, hh_26.recv (C := RX0) (T := TX0) (N := 2) hB2 rfl (by decide) hg_13 hK, fun U hU hW => ⟨rfl, hU, hh_26.2.1, hG.step hW hU hh_26.1, hg_13, hg_wr_12, (hh_26.2.2.1.sub (L1 := [(r0, 2, 1, .int wc_12), (r0, 2, 0, .ref wr_12)]) [0, 1] rfl), (by omega), (by omega), by first | omega | (refine ⟨?_, ?_, ?_, ?_, ?_⟩ <;> (first | omega | rfl | assumption | decide | exact Or.inl rfl | exact Or.inr rfl | (simp only; omega)))⟩⟩ rfl rfl hl.1 rfl (lv_room (Nat.le_of_ble_eq_true rfl)) dX0_quoted_113 ⟨by rw [hRc]; omega, by rw [hRs]; omega⟩) hh_26.1 (fun q _ h => h) (fun q h => h) (fun u_111 t_111 H_111 locs_111 ht_111 hvm_111 hr_112 hb_111 hz_111 hk_111 hS_111 => ?_)
              obtain ⟨qc_111, qa_111, m_qa_111, G_111⟩ := u_111
              rw [ht_111] at hb_111
              simp only at hb_111
              obtain ⟨⟨hb_1111, hb_1112, hb_1113, hb_1114, hb_1115, hb_1116⟩, hgq_111_0, hN_111, hbO_111⟩ := hb_111
              have hh_111 : jSt (dC, dI) B base G0 G_111 EX0_quoted s.heap (zcx_12 + ((m_qa_111 - m_wr_12) / 16)) (zsx_12 + (2 * (m_qa_111 - m_wr_12))) [(r0, 2, 1, .int qc_111), (r0, 2, 0, .ref qa_111)] [] [] H_111 locs_111 := (hh_26.callG hb_1111 hb_1112 hb_1113 hb_1114 hb_1115 hS_111 rfl (L1 := []) [] rfl rfl (M1 := []) [] rfl rfl (I1 := []) [] rfl rfl).more hb_1116
              have hNn_111 : (jNk [0, 1, 2, 3, 4, 5, 6, 7, 8, 9, 10, 11, 12, 13, 14, 15, 16]) G0 G_111 := (hN_12).tr hN_111
              have hg_113 := hb_1112 _ _ hg_13
              have hg_114 := hb_1112 _ _ hg_14
              have hd_115 := jOw.tr (hh_26.iv 0 rfl) hh_26.2.2.2.2.1 hbO_111
              have hh_116 := hh_111.addI (jOw.ie (dC := dC) (dI := dI) (G0 := G0) (k := 2) (r := r0) (H0 := s.heap) (F := [(2, 0), (2, 1)]) (C := RX0) (T := TX0) (N := 2) rfl (by decide) hh_111.2.2.2.2.1 (hd_115))
              clear hh_111
              try simp only at hr_112
              obtain ⟨hr_112_0, hr_112_1, hr_112_2, hr_112_3, hr_112_4⟩ := hr_112
              refine lv_goto (tgt := 208) hx hb dX0_quoted_116 (by decide) ?_
              obtain ⟨z_117, ez_117⟩ : ∃ y : Int32, y = v5_12 + 1 := ⟨_, rfl⟩
              refine lv_iinc (v := z_117) (lv' := [(5, .int z_117), (0, .ref r0), (1, .ref r1), (2, .int a2), (3, .int a3), (4, .int z_10), (6, .int z_23)]) hx hb dX0_quoted_208 hl (k := 5) rfl (by rw [ez_117]; rfl) (by decide) rfl (fun ls hl => ?_)
              have hz_117 : z_117.toInt = v5_12.toInt + 1 := by rw [ez_117]; exact jb_iadd2 (rfl) (by decide) (by omega)
              refine lv_goto (tgt := 23) hx hb dX0_quoted_211 (by decide) ?_
              refine W.tight (c2 := (zcx_12 + ((m_qa_111 - m_wr_12) / 16))) (n2 := (zsx_12 + (2 * (m_qa_111 - m_wr_12)))) hh_116.2.2.2.2.2.1 hh_116.2.2.2.2.2.2.1 ?_
              exact L23 G_111 (zcx_12 + ((m_qa_111 - m_wr_12) / 16)) (zsx_12 + (2 * (m_qa_111 - m_wr_12))) z_117 qc_111 qa_111 m_qa_111 _ _ hh_116 (hNn_111) ((hle_12).tr hb_1112) hgq_111_0 (by first | omega | (refine ⟨?_, ?_, ?_, ?_, ?_, ?_, ?_, ?_, ?_⟩ <;> (first | omega | rfl | assumption | decide | exact Or.inl rfl | exact Or.inr rfl | (simp only; omega)))) (by omega) _ (lv_sub hl [1, 2, 3, 4, 5, 0] rfl)
        refine lv_if_eq (tgt := 94) hx hb dX0_quoted_41 (by decide) (fun c_118 => ?_) (fun c_118 => ?_)
        · skip
          have c_118' : r_24.toInt = 0 := jb_eq (rfl) ((by decide)) c_118
          refine W.tight (c2 := zcx_12) (n2 := zsx_12) hh_12.2.2.2.2.2.1 hh_12.2.2.2.2.2.2.1 ?_
          exact C94  _ _ hh_12 (trivial) _ (lv_sub hl [1, 2, 3, 4, 5, 6, 0] rfl)
        · skip
          have c_118' : r_24.toInt ≠ 0 := jb_eq_n (rfl) ((by decide)) c_118
          refine lv_iload hx hb dX0_quoted_44 (lv_at hl 6 rfl) ?_
          refine lv_iconst (v := 1) hx hb dX0_quoted_46 (by decide) ?_
          refine lv_iadd hx hb dX0_quoted_47 ?_
          refine lv_topi (fun z_119 ez_119 => ?_)
          have hz_119 : z_119.toInt = v5_12.toInt + 1 := by rw [ez_119]; exact jb_iadd2 (rfl) ((by decide)) (by omega)
          refine lv_iload hx hb dX0_quoted_48 (lv_at hl 5 rfl) ?_
          refine lv_icmp_ge (tgt := 94) hx hb dX0_quoted_50 (by decide) (fun c_120 => ?_) (fun c_120 => ?_)
          · skip
            have c_120' : z_119.toInt ≥ z_10.toInt := jb_ge (rfl) (rfl) c_120
            refine W.tight (c2 := zcx_12) (n2 := zsx_12) hh_12.2.2.2.2.2.1 hh_12.2.2.2.2.2.2.1 ?_
            exact C94  _ _ hh_12 (trivial) _ (lv_sub hl [1, 2, 3, 4, 5, 6, 0] rfl)
          · skip
            have c_120' : z_119.toInt < z_10.toInt := jb_ge_n (rfl) (rfl) c_120
            refine lv_aload_n hx hb dX0_quoted_53 rfl (lv_at hl 2 rfl) ?_
            refine lv_iload hx hb dX0_quoted_54 (lv_at hl 6 rfl) ?_
            refine lv_iconst (v := 1) hx hb dX0_quoted_56 (by decide) ?_
            refine lv_iadd hx hb dX0_quoted_57 ?_
            refine lv_topi (fun z_121 ez_121 => ?_)
            have hz_121 : z_121.toInt = v5_12.toInt + 1 := by rw [ez_121]; exact jb_iadd2 (rfl) ((by decide)) (by omega)
            refine j7_iald hx hb hK hh_12 hB101 1 rfl (by decide) hg_14 (x := z_121.toInt) (rfl) (by omega) dX0_quoted_58 (fun z_122 (hz_122 : True) => ?_)
            have hsz_124 := hh_12.2.2.2.2.2.1
            have htt_124 := hh_12.2.2.2.2.2.2.1
            refine W.room (fun hrc_124 hrs_124 => ?_)
            refine vp_callSi (W.runS (As := [.int z_122]) (rest := []) ⟨hx, hb, hml, hown, hts⟩ (wX0_isLow l dC dI ca base H_12 z_122) (va_cwS 1 hts (jgS (jWr_25 _ (List.mem_of_getElem? (i := 16) rfl)) (jWr_21 _ (List.mem_of_getElem? (i := 10) rfl)) (jWr_1 _ (List.mem_of_getElem? (i := 14) rfl)) (jWr_21 _ (List.mem_of_getElem? (i := 11) rfl))) rfl rfl rfl (by decide +kernel) ⟨by rw [← hR]; exact Nat.le_of_ble_eq_true rfl, by rw [← hR]; exact Nat.le_of_ble_eq_true rfl⟩) ⟨fun a U g mk q => by obtain ⟨q0, q1, qK, q9⟩ := q; exact ⟨q0, q1, jG.calling g mk a qK, q9⟩, fun U hU hW => ⟨rfl, hU, hG.step hW hU hh_12.1, by first | trivial | omega | (constructor <;> omega)⟩⟩ rfl rfl hl.1 rfl (lv_room (Nat.le_of_ble_eq_true rfl)) dX0_quoted_59 ⟨by rw [hRc]; show _ + 0 ≤ _; omega, by rw [hRs]; show _ + 0 ≤ _; omega⟩) (fun r_123 hr_123 => ?_)
            have hr_123' : r_123.toInt = 0 ∨ r_123.toInt = 1 := jb_01 hr_123
            refine lv_if_eq (tgt := 94) hx hb dX0_quoted_62 (by decide) (fun c_125 => ?_) (fun c_125 => ?_)
            · skip
              have c_125' : r_123.toInt = 0 := jb_eq (rfl) ((by decide)) c_125
              refine W.tight (c2 := zcx_12) (n2 := zsx_12) hh_12.2.2.2.2.2.1 hh_12.2.2.2.2.2.2.1 ?_
              exact C94  _ _ hh_12 (trivial) _ (lv_sub hl [1, 2, 3, 4, 5, 6, 0] rfl)
            · skip
              have c_125' : r_123.toInt ≠ 0 := jb_eq_n (rfl) ((by decide)) c_125
              obtain ⟨z_126, ez_126⟩ : ∃ y : Int32, y = v5_12 + 1 := ⟨_, rfl⟩
              refine lv_iinc (v := z_126) (lv' := [(5, .int z_126), (6, .int z_23), (0, .ref r0), (1, .ref r1), (2, .int a2), (3, .int a3), (4, .int z_10)]) hx hb dX0_quoted_65 hl (k := 6) rfl (by rw [ez_126]; rfl) (by decide) rfl (fun ls hl => ?_)
              have hz_126 : z_126.toInt = v5_12.toInt + 1 := by rw [ez_126]; exact jb_iadd2 (rfl) (by decide) (by omega)
              refine lv_aload_n hx hb dX0_quoted_68 rfl (lv_at hl 2 rfl) ?_
              refine lv_ldc hx hb hown hcs_60 dX0_quoted_69 ?_
              refine lv_iload hx hb dX0_quoted_71 (lv_at hl 1 rfl) ?_
              refine lv_ldc hx hb hown hcs_61 dX0_quoted_73 ?_
              refine lv_isub hx hb dX0_quoted_75 ?_
              refine lv_topi (fun z_127 ez_127 => ?_)
              refine lv_bipush (v := 10) hx hb dX0_quoted_76 (by decide) ?_
              refine lv_ishl hx hb dX0_quoted_78 ?_
              refine lv_topi (fun z_128 ez_128 => ?_)
              refine lv_iadd hx hb dX0_quoted_79 ?_
              refine lv_topi (fun z_129 ez_129 => ?_)
              refine lv_aload_n hx hb dX0_quoted_80 rfl (lv_at hl 3 rfl) ?_
              refine lv_iload hx hb dX0_quoted_81 (lv_at hl 0 rfl) ?_
              refine j7_iald hx hb hK hh_12 hB101 1 rfl (by decide) hg_14 (x := z_126.toInt) (rfl) (by omega) dX0_quoted_83 (fun z_130 (hz_130 : True) => ?_)
              refine lv_iadd hx hb dX0_quoted_84 ?_
              refine lv_topi (fun z_131 ez_131 => ?_)
              refine lv_ldc hx hb hown hcs_62 dX0_quoted_85 ?_
              refine lv_isub hx hb dX0_quoted_87 ?_
              refine lv_topi (fun z_132 ez_132 => ?_)
              have hsz_133 := hh_12.2.2.2.2.2.1
              have htt_133 := hh_12.2.2.2.2.2.2.1
              refine W.room (fun hrc_133 hrs_133 => ?_)
              refine va_callv (A0 := jA base) (H0 := s.heap) (va_runV (As := [.int z_132]) (rest := []) ⟨hx, hb, hml, hown, hts⟩ (uX0_character l dC dI ca base B hB hAp hB2 hB196 Gx_12 H_12 r0 z_132 wc_12 wr_12 m_wr_12 LC LS) (cwV 1 hts (jgV (jWr_25 _ (List.mem_of_getElem? (i := 17) rfl)) (jWr_25 _ (List.mem_of_getElem? (i := 18) rfl)) (jWr_25 _ (List.mem_of_getElem? (i := 19) rfl)) (jWr_1 _ (List.mem_of_getElem? (i := 14) rfl)) (jWr_25 _ (List.mem_of_getElem? (i := 20) rfl))) rfl rfl rfl (by decide +kernel) ⟨by rw [← hR]; exact Nat.le_of_ble_eq_true rfl, by rw [← hR]; exact Nat.le_of_ble_eq_true rfl⟩) ⟨fun a U g mk q => by obtain ⟨q0, q1, q2, qK, q10, q11, q12, q13⟩ := q; exact ⟨q0, q1, q2, jG.calling g mk a qK, q10, q11, q12, q13⟩, hh_12.recv (C := RX0) (T := TX0) (N := 2) hB2 rfl (by decide) hg_13 hK, fun U hU hW => ⟨rfl, hU, hh_12.2.1, hG.step hW hU hh_12.1, hg_13, hg_wr_12, (hh_12.2.2.1.sub (L1 := [(r0, 2, 1, .int wc_12), (r0, 2, 0, .ref wr_12)]) [0, 1] rfl), (by omega), (by omega), by first | omega | (refine ⟨?_, ?_, ?_, ?_, ?_⟩ <;> (first | omega | rfl | assumption | decide | exact Or.inl rfl | exact Or.inr rfl | (simp only; omega)))⟩⟩ rfl rfl hl.1 rfl (lv_room (Nat.le_of_ble_eq_true rfl)) dX0_quoted_88 ⟨by rw [hRc]; omega, by rw [hRs]; omega⟩) hh_12.1 (fun q _ h => h) (fun q h => h) (fun u_133 t_133 H_133 locs_133 ht_133 hvm_133 hr_134 hb_133 hz_133 hk_133 hS_133 => ?_)
              obtain ⟨qc_133, qa_133, m_qa_133, G_133⟩ := u_133
              rw [ht_133] at hb_133
              simp only at hb_133
              obtain ⟨⟨hb_1331, hb_1332, hb_1333, hb_1334, hb_1335, hb_1336⟩, hgq_133_0, hN_133, hbO_133⟩ := hb_133
              have hh_133 : jSt (dC, dI) B base G0 G_133 EX0_quoted s.heap (zcx_12 + ((m_qa_133 - m_wr_12) / 16)) (zsx_12 + (2 * (m_qa_133 - m_wr_12))) [(r0, 2, 1, .int qc_133), (r0, 2, 0, .ref qa_133)] [] [] H_133 locs_133 := (hh_12.callG hb_1331 hb_1332 hb_1333 hb_1334 hb_1335 hS_133 rfl (L1 := []) [] rfl rfl (M1 := []) [] rfl rfl (I1 := []) [] rfl rfl).more hb_1336
              have hNn_133 : (jNk [0, 1, 2, 3, 4, 5, 6, 7, 8, 9, 10, 11, 12, 13, 14, 15, 16]) G0 G_133 := (hN_12).tr hN_133
              have hg_135 := hb_1332 _ _ hg_13
              have hg_136 := hb_1332 _ _ hg_14
              have hd_137 := jOw.tr (hh_12.iv 0 rfl) hh_12.2.2.2.2.1 hbO_133
              have hh_138 := hh_133.addI (jOw.ie (dC := dC) (dI := dI) (G0 := G0) (k := 2) (r := r0) (H0 := s.heap) (F := [(2, 0), (2, 1)]) (C := RX0) (T := TX0) (N := 2) rfl (by decide) hh_133.2.2.2.2.1 (hd_137))
              clear hh_133
              try simp only at hr_134
              obtain ⟨hr_134_0, hr_134_1, hr_134_2, hr_134_3, hr_134_4⟩ := hr_134
              refine lv_goto (tgt := 208) hx hb dX0_quoted_91 (by decide) ?_
              obtain ⟨z_139, ez_139⟩ : ∃ y : Int32, y = z_126 + 1 := ⟨_, rfl⟩
              refine lv_iinc (v := z_139) (lv' := [(5, .int z_139), (6, .int z_23), (0, .ref r0), (1, .ref r1), (2, .int a2), (3, .int a3), (4, .int z_10)]) hx hb dX0_quoted_208 hl (k := 0) rfl (by rw [ez_139]; rfl) (by decide) rfl (fun ls hl => ?_)
              have hz_139 : z_139.toInt = z_126.toInt + 1 := by rw [ez_139]; exact jb_iadd2 (rfl) (by decide) (by omega)
              refine lv_goto (tgt := 23) hx hb dX0_quoted_211 (by decide) ?_
              refine W.tight (c2 := (zcx_12 + ((m_qa_133 - m_wr_12) / 16))) (n2 := (zsx_12 + (2 * (m_qa_133 - m_wr_12)))) hh_138.2.2.2.2.2.1 hh_138.2.2.2.2.2.2.1 ?_
              exact L23 G_133 (zcx_12 + ((m_qa_133 - m_wr_12) / 16)) (zsx_12 + (2 * (m_qa_133 - m_wr_12))) z_139 qc_133 qa_133 m_qa_133 _ _ hh_138 (hNn_133) ((hle_12).tr hb_1332) hgq_133_0 (by first | omega | (refine ⟨?_, ?_, ?_, ?_, ?_, ?_, ?_, ?_, ?_⟩ <;> (first | omega | rfl | assumption | decide | exact Or.inl rfl | exact Or.inr rfl | (simp only; omega)))) (by omega) _ (lv_sub hl [2, 3, 4, 5, 6, 0] rfl)
  refine W.tight (c2 := (0 + ((m_qa_2 - n_pa) / 16))) (n2 := (0 + (2 * (m_qa_2 - n_pa)))) hh_7.2.2.2.2.2.1 hh_7.2.2.2.2.2.2.1 ?_
  exact L23 (((z_10.toInt - (z_11 : Int32).toInt).toNat : Int) : Int).toNat.succ G_2 (0 + ((m_qa_2 - n_pa) / 16)) (0 + (2 * (m_qa_2 - n_pa))) z_11 qc_2 qa_2 m_qa_2 _ _ hh_7 (hNn_2) (jLe.rf) hgq_2_0 (by first | omega | (refine ⟨?_, ?_, ?_, ?_, ?_, ?_, ?_, ?_, ?_⟩ <;> (first | omega | rfl | assumption | decide | exact Or.inl rfl | exact Or.inr rfl | (simp only; omega)))) (by omega) _ (lv_sub hl [2, 3, 4, 5, 1, 0] rfl)
