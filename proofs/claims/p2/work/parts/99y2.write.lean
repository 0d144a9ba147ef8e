theorem dX6_write_0 : decode cX6_write 0 = .ok (.iload_n 1, 1) := by decide +kernel
theorem dX6_write_1 : decode cX6_write 1 = .ok (.ifCond .lt 11, 3) := by decide +kernel
theorem dX6_write_4 : decode cX6_write 4 = .ok (.iload_n 1, 1) := by decide +kernel
theorem dX6_write_5 : decode cX6_write 5 = .ok (.aload_n 0, 1) := by decide +kernel
theorem dX6_write_6 : decode cX6_write 6 = .ok (.getfield 52, 3) := by decide +kernel
theorem dX6_write_9 : decode cX6_write 9 = .ok (.if_icmp .lt 4, 3) := by decide +kernel
theorem dX6_write_12 : decode cX6_write 12 = .ok (.return_, 1) := by decide +kernel
theorem dX6_write_13 : decode cX6_write 13 = .ok (.aload_n 0, 1) := by decide +kernel
theorem dX6_write_14 : decode cX6_write 14 = .ok (.getfield 11, 3) := by decide +kernel
theorem dX6_write_17 : decode cX6_write 17 = .ok (.iload_n 1, 1) := by decide +kernel
theorem dX6_write_18 : decode cX6_write 18 = .ok (.laload, 1) := by decide +kernel
theorem dX6_write_19 : decode cX6_write 19 = .ok (.lstore 4, 2) := by decide +kernel
theorem dX6_write_21 : decode cX6_write 21 = .ok (.lload 4, 2) := by decide +kernel
theorem dX6_write_23 : decode cX6_write 23 = .ok (.lconst 1, 1) := by decide +kernel
theorem dX6_write_24 : decode cX6_write 24 = .ok (.lcmp, 1) := by decide +kernel
theorem dX6_write_25 : decode cX6_write 25 = .ok (.ifCond .le 29, 3) := by decide +kernel
theorem dX6_write_28 : decode cX6_write 28 = .ok (.aload_n 3, 1) := by decide +kernel
theorem dX6_write_29 : decode cX6_write 29 = .ok (.ldc 56, 2) := by decide +kernel
theorem dX6_write_31 : decode cX6_write 31 = .ok (.lload 4, 2) := by decide +kernel
theorem dX6_write_33 : decode cX6_write 33 = .ok (.ldc2_w 58, 3) := by decide +kernel
theorem dX6_write_36 : decode cX6_write 36 = .ok (.land, 1) := by decide +kernel
theorem dX6_write_37 : decode cX6_write 37 = .ok (.l2i, 1) := by decide +kernel
theorem dX6_write_38 : decode cX6_write 38 = .ok (.invokevirtual 30, 3) := by decide +kernel
theorem dX6_write_41 : decode cX6_write 41 = .ok (.invokevirtual 60, 3) := by decide +kernel
theorem dX6_write_44 : decode cX6_write 44 = .ok (.lload 4, 2) := by decide +kernel
theorem dX6_write_46 : decode cX6_write 46 = .ok (.bipush 6, 2) := by decide +kernel
theorem dX6_write_48 : decode cX6_write 48 = .ok (.lushr, 1) := by decide +kernel
theorem dX6_write_49 : decode cX6_write 49 = .ok (.lstore 4, 2) := by decide +kernel
theorem dX6_write_51 : decode cX6_write 51 = .ok (.goto (-30), 3) := by decide +kernel
theorem dX6_write_54 : decode cX6_write 54 = .ok (.iconst 0, 1) := by decide +kernel
theorem dX6_write_55 : decode cX6_write 55 = .ok (.istore 4, 2) := by decide +kernel
theorem dX6_write_57 : decode cX6_write 57 = .ok (.iload 4, 2) := by decide +kernel
theorem dX6_write_59 : decode cX6_write 59 = .ok (.aload_n 0, 1) := by decide +kernel
theorem dX6_write_60 : decode cX6_write 60 = .ok (.getfield 15, 3) := by decide +kernel
theorem dX6_write_63 : decode cX6_write 63 = .ok (.iload_n 1, 1) := by decide +kernel
theorem dX6_write_64 : decode cX6_write 64 = .ok (.iaload, 1) := by decide +kernel
theorem dX6_write_65 : decode cX6_write 65 = .ok (.iload_n 2, 1) := by decide +kernel
theorem dX6_write_66 : decode cX6_write 66 = .ok (.iadd, 1) := by decide +kernel
theorem dX6_write_67 : decode cX6_write 67 = .ok (.if_icmp .ge 15, 3) := by decide +kernel
theorem dX6_write_70 : decode cX6_write 70 = .ok (.aload_n 3, 1) := by decide +kernel
theorem dX6_write_71 : decode cX6_write 71 = .ok (.bipush 39, 2) := by decide +kernel
theorem dX6_write_73 : decode cX6_write 73 = .ok (.invokevirtual 60, 3) := by decide +kernel
theorem dX6_write_76 : decode cX6_write 76 = .ok (.iinc 4 1, 3) := by decide +kernel
theorem dX6_write_79 : decode cX6_write 79 = .ok (.goto (-22), 3) := by decide +kernel
theorem dX6_write_82 : decode cX6_write 82 = .ok (.return_, 1) := by decide +kernel
def EX6_write : List (Nat × Nat) := [(2, 0), (2, 1), (196, 0)]
def EX0_quoted : List (Nat × Nat) := [(2, 0), (2, 1), (196, 0)]
set_option maxHeartbeats 4000000 in
set_option maxRecDepth 20000 in
theorem uX6_write (l : Launch) (dC : Nat → ClassId) (dI : Nat → Nat → Nat) (ca : Nat → ClassId) (base : Nat) (B : jF) (hB : jBok B) (hAp : jAp (dC, dI)) (hB2 : ∀ n G a H, B 2 n G a H ↔ jOb (dC, dI) 2 2 (F2 n G) a H) (hB8 : ∀ n G a H, B 8 n G a H ↔ jOb (dC, dI) 8 4 (F8 n G) a H) (hB102 : ∀ n G a H, B 102 n G a H ↔ jAl (dC, dI) (ca 2) n a H) (hB132 : ∀ n G a H, B 132 n G a H ↔ jAr (dC, dI) (ca 1) (fun j z => 0 ≤ z.toInt ∧ z.toInt ≤ 10) n a H) (hB196 : ∀ n G a H, B 196 n G a H ↔ jAr (dC, dI) (ca 0) (fun j z => jBf j z) n a H) (G0 : jT) (H0 : Heap) (r0 : Nat) (a1 : Int32) (a2 : Int32) (r3 : Nat) (pc : Int32) (pa : Nat) (n_pa : Nat) (LC LS : Nat) : Met l yX6_write (jw yX6_write cX6_write 6 none) ({ frames := 4, cells := LC - H0.size, slots := LS - jTot H0, locals := 141 }) (va_Pc [.ref r0, .int a1, .int a2, .ref r3] (fun U => U.heap = H0 ∧ jX B base G0 [] H0 ∧ jG dC dI ca base U ∧ G0 r3 = some (2, 0) ∧ G0 r0 = some (8, 0) ∧ G0 pa = some (196, n_pa) ∧ jP (dC, dI) G0 H0 [(r3, 2, 1, .int pc), (r3, 2, 0, .ref pa)] ∧ H0.size + (1048576 - n_pa) / 16 + 1 ≤ LC ∧ jTot H0 + 2 * (1048576 - n_pa) ≤ LS ∧ 0 ≤ pc.toInt ∧ pc.toInt ≤ n_pa ∧ 16 ≤ n_pa ∧ n_pa ≤ 1048576 ∧ jPw n_pa)) (va_Qv (S := Int32 × Nat × Nat × jT) (fun u => 0 ≤ u.1.toInt ∧ u.1.toInt ≤ u.2.2.1 ∧ n_pa ≤ u.2.2.1 ∧ u.2.2.1 ≤ 1048576 ∧ jPw u.2.2.1) (fun u t => jRa (dC, dI) B base G0 u.2.2.2 EX6_write H0 ((u.2.2.1 - n_pa) / 16) (2 * (u.2.2.1 - n_pa)) [(r3, 2, 1, .int u.1), (r3, 2, 0, .ref u.2.1)] t.heap ∧ u.2.2.2 u.2.1 = some (196, u.2.2.1) ∧ (jNk [0, 1, 2, 3, 4, 5, 6, 7, 8, 9, 10, 11, 12, 13, 14, 15, 16]) G0 u.2.2.2 ∧ jOw (dC, dI) G0 2 r3 H0 t.heap) (jA base)) (LC - H0.size) (LS - jTot H0) (jA base) := by
  refine Met.ofW (cc := cX6_write) (maxL := 6) (ret := none) (by decide) rfl ?_
  intro p e s m args below meth c s₁ Bd hml hv
  obtain ⟨rfl, hH0, hX, hG, hg_r3, hg_r0, hg_pa, hP0, hLC0, hLS0, hp0, hp1, hp2, hp3, hp4⟩ := hv
  have hK := hG.1
  have hx := Bd.exec
  have hb := Bd.bytes
  have hr := Bd.returns
  have hts := atoms_spec (ws := (jw yX6_write cX6_write 6 none)) Bd.pre
  have htw : ∀ w ∈ jWl, w.before _ s = true := fun w h => hts w (List.mem_cons_of_mem _ h)
  have hown : s.vm.findClass RX6 = some m.cls := findClass_of_methodNamed Bd.named
  have hlocks := Bd.notSynchronized
  obtain ⟨Q, hQ⟩ : ∃ Q, Q = MQ below (va_Qv (S := Int32 × Nat × Nat × jT) (fun u => 0 ≤ u.1.toInt ∧ u.1.toInt ≤ u.2.2.1 ∧ n_pa ≤ u.2.2.1 ∧ u.2.2.1 ≤ 1048576 ∧ jPw u.2.2.1) (fun u t => jRa (dC, dI) B base G0 u.2.2.2 EX6_write H0 ((u.2.2.1 - n_pa) / 16) (2 * (u.2.2.1 - n_pa)) [(r3, 2, 1, .int u.1), (r3, 2, 0, .ref u.2.1)] t.heap ∧ u.2.2.2 u.2.1 = some (196, u.2.2.1) ∧ (jNk [0, 1, 2, 3, 4, 5, 6, 7, 8, 9, 10, 11, 12, 13, 14, 15, 16]) G0 u.2.2.2 ∧ jOw (dC, dI) G0 2 r3 H0 t.heap) (jA base)) ([.ref r0, .int a1, .int a2, .ref r3] : List Value).toArray s (LC - H0.size) (LS - jTot H0) (jA base) := ⟨_, rfl⟩
  rw [← hQ]
  have hl := lv_entry ([.ref r0, .int a1, .int a2, .ref r3]) (n := 6) (Nat.le_of_ble_eq_true rfl)
  rw [lg_entry_eq]
  generalize (lg_sl ([.ref r0, .int a1, .int a2, .ref r3]) ++ List.replicate (6 - (lg_sl ([.ref r0, .int a1, .int a2, .ref r3])).length) Slot.unset).toArray = ls at hl ⊢
  have hl : lv_has ls 6 [(0, .ref r0), (1, .int a1), (2, .int a2), (3, .ref r3)] := hl
  generalize hR : (headSpec (jw yX6_write cX6_write 6 none) ({ frames := 4, cells := LC - H0.size, slots := LS - jTot H0, locals := 141 })).room = R
  subst hH0
  have hh : jSt (dC, dI) B base G0 G0 EX6_write s.heap 0 0 [(r3, 2, 1, .int pc), (r3, 2, 0, .ref pa)] [] [] s.heap [] := jSt.start hX hP0 jMc.nil jIs.nil
  clear hX hP0
  have hk0 : (0 : Int32).toInt = 0 := by decide
  have hk1 : (1 : Int32).toInt = 1 := by decide
  have hk6 : (6 : Int32).toInt = 6 := by decide
  have hk39 : (39 : Int32).toInt = 39 := by decide
  have hly_8_0 := htw (u_lay RX6 TX6 0) (jWc_wsX60 _ (u_in_lay (by decide)))
  have hly_8_1 := htw (u_lay RX6 TX6 1) (jWc_wsX60 _ (u_in_lay (by decide)))
  have hly_8_3 := htw (u_lay RX6 TX6 3) (jWc_wsX60 _ (u_in_lay (by decide)))
  have hlk_52 := (htw (.fieldLink RX6 52 "ProofServer$Names" "count" "I") (jWr_8 _ (List.mem_of_getElem? (i := 3) rfl)))
  have hlk_11 := (htw (.fieldLink RX6 11 "ProofServer$Names" "stems" "[J") (jWr_5 _ (List.mem_of_getElem? (i := 9) rfl)))
  obtain ⟨str56, rstr56, hstr560⟩ := hG.str (o := RX6) (k := 56) (tx := "abcdefghijklmnopqrstuvwxyzABCDEFGHIJKLMNOPQRSTUVWXYZ0123456789_'") (List.mem_of_getElem? (i := 987) (by decide +kernel))
  have hstr56 : jStr base str56 64 s s.heap := hstr560
  have hlk_15 := (htw (.fieldLink RX6 15 "ProofServer$Names" "primes" "[I") (jWr_5 _ (List.mem_of_getElem? (i := 10) rfl)))
  have hrg_a1 := jb_rng a1
  have hrg_a2 := jb_rng a2
  have hbs : base ≤ s.heap.size := Nat.le_of_lt (Nat.lt_of_le_of_lt (hh.ab hg_r0).1 (hh.ab hg_r0).2)
  have hRc : R.cells = LC - s.heap.size := by rw [← hR]; rfl
  have hRs : R.slots = LS - jTot s.heap := by rw [← hR]; rfl
  have hh_1 := hh.addI (jOw.ie (dC := dC) (dI := dI) (G0 := G0) (k := 2) (r := r3) (H0 := s.heap) (F := [(2, 0), (2, 1)]) (C := RX0) (T := TX0) (N := 2) rfl (by decide) hh.2.2.2.2.1 (jOw.rf))
  clear hh
  refine lv_iload_n hx hb dX6_write_0 rfl (lv_at hl 1 rfl) ?_
  refine lv_if_lt (tgt := 12) hx hb dX6_write_1 (by decide) (fun c_2 => ?_) (fun c_2 => ?_)
  · skip
    have c_2' : a1.toInt < 0 := jb_lt (rfl) ((by decide)) c_2
    have hsz_3 := hh_1.2.2.2.2.2.1
    have htt_3 := hh_1.2.2.2.2.2.2.1
    refine W.room (fun hrc_3 hrs_3 => ?_)
    refine W.widen (k := LC - s.heap.size) (n := LS - jTot s.heap) (by omega) (by omega) ?_
    rw [hQ]
    exact W.vret hx hb hr (fun t ht hW => ⟨⟨(pc, pa, n_pa, G0), rfl, by (try dsimp only); exact ⟨(by first | omega | rfl | assumption | fail), (by first | omega | rfl | assumption | fail), (by first | omega | rfl | assumption | fail), (by first | omega | rfl | assumption | fail), (by first | assumption | fail | omega)⟩, ⟨hh_1.ra (by first | omega | (simp only; omega)) (by first | omega | (simp only; omega)) (M1 := [(r3, 2, 1, .int pc), (r3, 2, 0, .ref pa)]) [0, 1] rfl ht, hg_pa, jNk.rf, by rw [ht]; exact hh_1.iv 0 rfl⟩⟩, by rw [ht]; try exact hh_1.1.1, fun q h9 hq => by rw [ht]; try exact hh_1.1.2.1 q h9 hq⟩) hh_1.1.2.2 dX6_write_12
  · skip
    have c_2' : a1.toInt ≥ 0 := jb_lt_n (rfl) ((by decide)) c_2
    refine lv_iload_n hx hb dX6_write_4 rfl (lv_at hl 1 rfl) ?_
    refine lv_aload_n hx hb dX6_write_5 rfl (lv_at hl 0 rfl) ?_
    obtain ⟨v_4, hv_4, hh_5⟩ := hh_1.pin (C := RX6) (T := TX6) (N := 4) hB8 rfl (by decide) hg_r0 (i := 3) (by decide) rfl
    clear hh_1
    obtain ⟨count_6, rfl, hlocount_6, hhicount_6⟩ := hv_4
    refine j7_read hx hb hown hK (C := RX6) (T := TX6) (N := 4) rfl hly_8_3 hlk_52 (hh_5.at 0 rfl) dX6_write_6 ?_
    refine lv_icmp_lt (tgt := 13) hx hb dX6_write_9 (by decide) (fun c_7 => ?_) (fun c_7 => ?_)
    · skip
      have c_7' : a1.toInt < count_6.toInt := jb_lt (rfl) (rfl) c_7
      refine lv_aload_n hx hb dX6_write_13 rfl (lv_at hl 0 rfl) ?_
      obtain ⟨v_8, hv_8, hh_9⟩ := hh_5.pin (C := RX6) (T := TX6) (N := 4) hB8 rfl (by decide) hg_r0 (i := 0) (by decide) rfl
      clear hh_5
      obtain ⟨stems_10, rfl, hg_stems_10⟩ := hv_8
      refine j7_read hx hb hown hK (C := RX6) (T := TX6) (N := 4) rfl hly_8_0 hlk_11 (hh_9.at 0 rfl) dX6_write_14 ?_
      refine lv_iload_n hx hb dX6_write_17 rfl (lv_at hl 1 rfl) ?_
      refine j7_lald hx hb hK hh_9 hB102 2 rfl (by decide) hg_stems_10 (x := a1.toInt) (rfl) (by omega) dX6_write_18 (fun z_11 => ?_)
      refine lv_lstore (lv' := [(4, .long z_11), (0, .ref r0), (1, .int a1), (2, .int a2), (3, .ref r3)]) hx hb dX6_write_19 hl (by decide) rfl (fun ls hl => ?_)
      have L21 : ∀ (N : Nat) (Gx_12 : jT) (zcx_12 : Nat) (zsx_12 : Nat) (v4_12 : Int64) (wc_12 : Int32) (wr_12 : Nat) (m_wr_12 : Nat) (H_12 : Heap) (locs_12 : List Loc), jSt (dC, dI) B base G0 Gx_12 EX6_write s.heap zcx_12 zsx_12 [(r3, 2, 1, .int wc_12), (r3, 2, 0, .ref wr_12), (r0, 8, 0, .ref stems_10), (r0, 8, 3, .int count_6)] [] [([(2, 0), (2, 1)], jOw (dC, dI) G0 2 r3 s.heap)] H_12 locs_12 → (jNk [0, 1, 2, 3, 4, 5, 6, 7, 8, 9, 10, 11, 12, 13, 14, 15, 16]) G0 Gx_12 → jLe G0 Gx_12 → Gx_12 wr_12 = some (196, m_wr_12) → (0 ≤ wc_12.toInt ∧ wc_12.toInt ≤ m_wr_12 ∧ n_pa ≤ m_wr_12 ∧ m_wr_12 ≤ 1048576 ∧ jPw m_wr_12 ∧ zcx_12 ≤ (m_wr_12 - n_pa) / 16 ∧ zsx_12 ≤ 2 * (m_wr_12 - n_pa)) → (((v4_12.toInt).toNat : Int) : Int) < N → ∀ ls : Array Slot, lv_has ls 6 [(0, .ref r0), (1, .int a1), (2, .int a2), (3, .ref r3), (4, .long v4_12)] → W p l e R s m ([.ref r0, .int a1, .int a2, .ref r3] : List Value).toArray below meth c H_12 locs_12 zcx_12 zsx_12 Q (F0 m 21 ls []) := by
        intro N
        induction N with
        | zero => intro Gx_12 zcx_12 zsx_12 v4_12 wc_12 wr_12 m_wr_12 H_12 locs_12 hh_12 hN_12 hle_12 hg_wr_12 hi_12 hm; exact absurd hm (by omega)
        | succ N L21 =>
          intro Gx_12 zcx_12 zsx_12 v4_12 wc_12 wr_12 m_wr_12 H_12 locs_12 hh_12 hN_12 hle_12 hg_wr_12 hi_12 hm_12 ls hl
          have hg_13 := hle_12 _ _ hg_r0
          have hg_14 := hle_12 _ _ hg_r3
          have hg_15 := hle_12 _ _ hg_stems_10
          obtain ⟨hi_12_0, hi_12_1, hi_12_2, hi_12_3, hi_12_4, hi_12_5, hi_12_6⟩ := hi_12
          refine lv_lload hx hb dX6_write_21 (lv_at hl 4 rfl) ?_
          refine lv_lconst (v := 1) hx hb dX6_write_23 (by decide) ?_
          refine W.lcmp hx hb dX6_write_24 ?_
          refine lv_topi (fun z_16 ez_16 => ?_)
          have hz_16 := jb_lcmp ez_16
          have hqz_16_1 : (1 : Int64).toInt = 1 := by decide
          refine lv_if_le (tgt := 54) hx hb dX6_write_25 (by decide) (fun c_17 => ?_) (fun c_17 => ?_)
          · skip
            have c_17' : z_16.toInt ≤ 0 := jb_le (rfl) ((by decide)) c_17
            refine lv_iconst (v := 0) hx hb dX6_write_54 (by decide) ?_
            refine lv_istore (lv' := [(4, .int 0), (0, .ref r0), (1, .int a1), (2, .int a2), (3, .ref r3)]) hx hb dX6_write_55 hl (by decide) rfl (fun ls hl => ?_)
            have L57 : ∀ (N : Nat) (Gx_18 : jT) (zcx_18 : Nat) (zsx_18 : Nat) (v4_18 : Int32) (wc_18 : Int32) (wr_18 : Nat) (m_wr_18 : Nat) (H_18 : Heap) (locs_18 : List Loc), jSt (dC, dI) B base G0 Gx_18 EX6_write s.heap zcx_18 zsx_18 [(r3, 2, 1, .int wc_18), (r3, 2, 0, .ref wr_18), (r0, 8, 0, .ref stems_10), (r0, 8, 3, .int count_6)] [] [([(2, 0), (2, 1)], jOw (dC, dI) G0 2 r3 s.heap)] H_18 locs_18 → (jNk [0, 1, 2, 3, 4, 5, 6, 7, 8, 9, 10, 11, 12, 13, 14, 15, 16]) G0 Gx_18 → jLe Gx_12 Gx_18 → Gx_18 wr_18 = some (196, m_wr_18) → (0 ≤ wc_18.toInt ∧ wc_18.toInt ≤ m_wr_18 ∧ n_pa ≤ m_wr_18 ∧ m_wr_18 ≤ 1048576 ∧ jPw m_wr_18 ∧ zcx_18 ≤ (m_wr_18 - n_pa) / 16 ∧ zsx_18 ≤ 2 * (m_wr_18 - n_pa) ∧ 0 ≤ v4_18.toInt ∧ v4_18.toInt ≤ 2147483647) → (2147483648 - v4_18.toInt : Int) < N → ∀ ls : Array Slot, lv_has ls 6 [(0, .ref r0), (1, .int a1), (2, .int a2), (3, .ref r3), (4, .int v4_18)] → W p l e R s m ([.ref r0, .int a1, .int a2, .ref r3] : List Value).toArray below meth c H_18 locs_18 zcx_18 zsx_18 Q (F0 m 57 ls []) := by
              intro N
              induction N with
              | zero => intro Gx_18 zcx_18 zsx_18 v4_18 wc_18 wr_18 m_wr_18 H_18 locs_18 hh_18 hN_18 hle_18 hg_wr_18 hi_18 hm; exact absurd hm (by omega)
              | succ N L57 =>
                intro Gx_18 zcx_18 zsx_18 v4_18 wc_18 wr_18 m_wr_18 H_18 locs_18 hh_18 hN_18 hle_18 hg_wr_18 hi_18 hm_18 ls hl
                have hg_19 := hle_18 _ _ hg_13
                have hg_20 := hle_18 _ _ hg_14
                have hg_21 := hle_18 _ _ hg_15
                obtain ⟨hi_18_0, hi_18_1, hi_18_2, hi_18_3, hi_18_4, hi_18_5, hi_18_6, hi_18_7, hi_18_8⟩ := hi_18
                refine lv_iload hx hb dX6_write_57 (lv_at hl 4 rfl) ?_
                refine lv_aload_n hx hb dX6_write_59 rfl (lv_at hl 0 rfl) ?_
                obtain ⟨v_22, hv_22, hh_23⟩ := hh_18.pin (C := RX6) (T := TX6) (N := 4) hB8 rfl (by decide) hg_19 (i := 1) (by decide) rfl
                clear hh_18
                obtain ⟨primes_24, rfl, hg_primes_24⟩ := hv_22
                refine j7_read hx hb hown hK (C := RX6) (T := TX6) (N := 4) rfl hly_8_1 hlk_15 (hh_23.at 0 rfl) dX6_write_60 ?_
                refine lv_iload_n hx hb dX6_write_63 rfl (lv_at hl 1 rfl) ?_
                refine j7_iald hx hb hK hh_23 hB132 1 rfl (by decide) hg_primes_24 (x := a1.toInt) (rfl) (by omega) dX6_write_64 (fun z_25 (hz_25 : 0 ≤ z_25.toInt ∧ z_25.toInt ≤ 10) => ?_)
                refine lv_iload_n hx hb dX6_write_65 rfl (lv_at hl 2 rfl) ?_
                refine lv_iadd hx hb dX6_write_66 ?_
                refine lv_topi (fun z_26 ez_26 => ?_)
                have hrgz_26 := jb_rng z_26
                refine lv_icmp_ge (tgt := 82) hx hb dX6_write_67 (by decide) (fun c_27 => ?_) (fun c_27 => ?_)
                · skip
                  have c_27' : v4_18.toInt ≥ z_26.toInt := jb_ge (rfl) (rfl) c_27
                  have hsz_28 := hh_23.2.2.2.2.2.1
                  have htt_28 := hh_23.2.2.2.2.2.2.1
                  refine W.room (fun hrc_28 hrs_28 => ?_)
                  refine W.widen (k := LC - s.heap.size) (n := LS - jTot s.heap) (by omega) (by omega) ?_
                  rw [hQ]
                  exact W.vret hx hb hr (fun t ht hW => ⟨⟨(wc_18, wr_18, m_wr_18, Gx_18), rfl, by (try dsimp only); exact ⟨(by first | omega | rfl | assumption | fail), (by first | omega | rfl | assumption | fail), (by first | omega | rfl | assumption | fail), (by first | omega | rfl | assumption | fail), (by first | assumption | fail | omega)⟩, ⟨hh_23.ra (by first | omega | (simp only; omega)) (by first | omega | (simp only; omega)) (M1 := [(r3, 2, 1, .int wc_18), (r3, 2, 0, .ref wr_18)]) [1, 2] rfl ht, hg_wr_18, hN_18, by rw [ht]; exact hh_23.iv 0 rfl⟩⟩, by rw [ht]; try exact hh_23.1.1, fun q h9 hq => by rw [ht]; try exact hh_23.1.2.1 q h9 hq⟩) hh_23.1.2.2 dX6_write_82
                · skip
                  have c_27' : v4_18.toInt < z_26.toInt := jb_ge_n (rfl) (rfl) c_27
                  refine lv_aload_n hx hb dX6_write_70 rfl (lv_at hl 3 rfl) ?_
                  refine lv_bipush (v := 39) hx hb dX6_write_71 (by decide) ?_
                  have hsz_29 := hh_23.2.2.2.2.2.1
                  have htt_29 := hh_23.2.2.2.2.2.2.1
                  refine W.room (fun hrc_29 hrs_29 => ?_)
                  refine va_callv (A0 := jA base) (H0 := s.heap) (va_runV (As := [.int 39]) (rest := []) ⟨hx, hb, hml, hown, hts⟩ (uX0_put l dC dI ca base B hB hAp hB2 hB196 Gx_18 H_18 r3 39 wc_18 wr_18 m_wr_18 LC LS) (cwV 1 hts (jgV (jWr_31 _ (List.mem_of_getElem? (i := 22) rfl)) (jWr_16 _ (List.mem_of_getElem? (i := 0) rfl)) (jWr_16 _ (List.mem_of_getElem? (i := 1) rfl)) (jWr_1 _ (List.mem_of_getElem? (i := 14) rfl)) (jWr_16 _ (List.mem_of_getElem? (i := 2) rfl))) rfl rfl rfl (by decide +kernel) ⟨by rw [← hR]; exact Nat.le_of_ble_eq_true rfl, by rw [← hR]; exact Nat.le_of_ble_eq_true rfl⟩) ⟨fun a U g mk q => by obtain ⟨q0, q1, q2, qK, q10, q11, q12, q13⟩ := q; exact ⟨q0, q1, q2, jG.calling g mk a qK, q10, q11, q12, q13⟩, hh_23.recv (C := RX0) (T := TX0) (N := 2) hB2 rfl (by decide) hg_20 hK, fun U hU hW => ⟨rfl, hU, hh_23.2.1, hG.step hW hU hh_23.1, hg_20, hg_wr_18, (hh_23.2.2.1.sub (L1 := [(r3, 2, 1, .int wc_18), (r3, 2, 0, .ref wr_18)]) [1, 2] rfl), (by omega), (by omega), by first | omega | (refine ⟨?_, ?_, ?_, ?_, ?_⟩ <;> (first | omega | rfl | assumption | decide | exact Or.inl rfl | exact Or.inr rfl | (simp only; omega)))⟩⟩ rfl rfl hl.1 rfl (lv_room (Nat.le_of_ble_eq_true rfl)) dX6_write_73 ⟨by rw [hRc]; omega, by rw [hRs]; omega⟩) hh_23.1 (fun q _ h => h) (fun q h => h) (fun u_29 t_29 H_29 locs_29 ht_29 hvm_29 hr_30 hb_29 hz_29 hk_29 hS_29 => ?_)
                  obtain ⟨qc_29, qa_29, m_qa_29, G_29⟩ := u_29
                  rw [ht_29] at hb_29
                  simp only at hb_29
                  obtain ⟨⟨hb_291, hb_292, hb_293, hb_294, hb_295, hb_296⟩, hgq_29_0, hN_29, hbO_29⟩ := hb_29
                  have hh_29 : jSt (dC, dI) B base G0 G_29 EX6_write s.heap (zcx_18 + ((m_qa_29 - m_wr_18) / 16)) (zsx_18 + (2 * (m_qa_29 - m_wr_18))) [(r3, 2, 1, .int qc_29), (r3, 2, 0, .ref qa_29), (r0, 8, 1, .ref primes_24), (r0, 8, 0, .ref stems_10), (r0, 8, 3, .int count_6)] [] [] H_29 locs_29 := (hh_23.callG hb_291 hb_292 hb_293 hb_294 hb_295 hS_29 rfl (L1 := [(r0, 8, 1, .ref primes_24), (r0, 8, 0, .ref stems_10), (r0, 8, 3, .int count_6)]) [0, 3, 4] rfl rfl (M1 := []) [] rfl rfl (I1 := []) [] rfl rfl).more hb_296
                  have hNn_29 : (jNk [0, 1, 2, 3, 4, 5, 6, 7, 8, 9, 10, 11, 12, 13, 14, 15, 16]) G0 G_29 := (hN_18).tr hN_29
                  have hg_31 := hb_292 _ _ hg_19
                  have hg_32 := hb_292 _ _ hg_20
                  have hg_33 := hb_292 _ _ hg_primes_24
                  have hg_34 := hb_292 _ _ hg_21
                  have hd_35 := jOw.tr (hh_23.iv 0 rfl) hh_23.2.2.2.2.1 hbO_29
                  have hh_36 := hh_29.addI (jOw.ie (dC := dC) (dI := dI) (G0 := G0) (k := 2) (r := r3) (H0 := s.heap) (F := [(2, 0), (2, 1)]) (C := RX0) (T := TX0) (N := 2) rfl (by decide) hh_29.2.2.2.2.1 (hd_35))
                  clear hh_29
                  try simp only at hr_30
                  obtain ⟨hr_30_0, hr_30_1, hr_30_2, hr_30_3, hr_30_4⟩ := hr_30
                  obtain ⟨z_37, ez_37⟩ : ∃ y : Int32, y = v4_18 + 1 := ⟨_, rfl⟩
                  refine lv_iinc (v := z_37) (lv' := [(4, .int z_37), (0, .ref r0), (1, .int a1), (2, .int a2), (3, .ref r3)]) hx hb dX6_write_76 hl (k := 4) rfl (by rw [ez_37]; rfl) (by decide) rfl (fun ls hl => ?_)
                  have hz_37 : z_37.toInt = v4_18.toInt + 1 := by rw [ez_37]; exact jb_iadd2 (rfl) (by decide) (by omega)
                  refine lv_goto (tgt := 57) hx hb dX6_write_79 (by decide) ?_
                  refine W.tight (c2 := (zcx_18 + ((m_qa_29 - m_wr_18) / 16))) (n2 := (zsx_18 + (2 * (m_qa_29 - m_wr_18)))) hh_36.2.2.2.2.2.1 hh_36.2.2.2.2.2.2.1 ?_
                  exact L57 G_29 (zcx_18 + ((m_qa_29 - m_wr_18) / 16)) (zsx_18 + (2 * (m_qa_29 - m_wr_18))) z_37 qc_29 qa_29 m_qa_29 _ _ (hh_36.sub (L1 := [(r3, 2, 1, .int qc_29), (r3, 2, 0, .ref qa_29), (r0, 8, 0, .ref stems_10), (r0, 8, 3, .int count_6)]) [0, 1, 3, 4] rfl (M1 := []) [] rfl (I1 := [([(2, 0), (2, 1)], jOw (dC, dI) G0 2 r3 s.heap)]) [0] rfl) (hNn_29) ((hle_18).tr hb_292) hgq_29_0 (by first | omega | (refine ⟨?_, ?_, ?_, ?_, ?_, ?_, ?_, ?_, ?_⟩ <;> (first | omega | rfl | assumption | decide | exact Or.inl rfl | exact Or.inr rfl | (simp only; omega)))) (by omega) _ (lv_sub hl [1, 2, 3, 4, 0] rfl)
            refine W.tight (c2 := zcx_12) (n2 := zsx_12) hh_12.2.2.2.2.2.1 hh_12.2.2.2.2.2.2.1 ?_
            exact L57 (2147483648 - (0 : Int32).toInt : Int).toNat.succ Gx_12 zcx_12 zsx_12 0 wc_12 wr_12 m_wr_12 _ _ hh_12 (hN_12) (jLe.rf) hg_wr_12 (by first | omega | (refine ⟨?_, ?_, ?_, ?_, ?_, ?_, ?_, ?_, ?_⟩ <;> (first | omega | rfl | assumption | decide | exact Or.inl rfl | exact Or.inr rfl | (simp only; omega)))) (by omega) _ (lv_sub hl [1, 2, 3, 4, 0] rfl)
          · skip
            have c_17' : z_16.toInt > 0 := jb_le_n (rfl) ((by decide)) c_17
            refine lv_aload_n hx hb dX6_write_28 rfl (lv_at hl 3 rfl) ?_
            refine va_ldcS hx hb hown rstr56 dX6_write_29 ?_
            refine lv_lload hx hb dX6_write_31 (lv_at hl 4 rfl) ?_
            refine lv_ldc2 hx hb hown (htw (.constantLong RX6 58 63) (jWr_31 _ (List.mem_of_getElem? (i := 21) rfl))) dX6_write_33 ?_
            refine lv_land hx hb dX6_write_36 ?_
            refine lv_topl (fun z_38 ez_38 => ?_)
            refine lv_l2i hx hb dX6_write_37 rfl ?_
            refine lv_topi (fun z_39 ez_39 => ?_)
            have hld := jb_land63 (by assumption) (by assumption)
            have hsz_42 := hh_12.2.2.2.2.2.1
            have htt_42 := hh_12.2.2.2.2.2.2.1
            refine W.room (fun hrc_42 hrs_42 => ?_)
            have hsz_41 := hh_12.2.2.2.2.2.1
            have htt_41 := hh_12.2.2.2.2.2.2.1
            refine W.room (fun hrc_41 hrs_41 => ?_)
            refine vp_callSi (W.runV (As := [.int z_39]) (rest := [.ref r3]) ⟨hx, hb, hml, hown, hts⟩ (wJ0_charAt_5068e l dC dI ca base H_12 str56 64 z_39) (cwV 1 hts (jgV (jWr_6 _ (List.mem_of_getElem? (i := 0) rfl)) (jWr_6 _ (List.mem_of_getElem? (i := 1) rfl)) (jWr_6 _ (List.mem_of_getElem? (i := 2) rfl)) (jWr_5 _ (List.mem_of_getElem? (i := 15) rfl)) (jWr_6 _ (List.mem_of_getElem? (i := 3) rfl))) rfl rfl rfl (by decide +kernel) ⟨by rw [← hR]; exact Nat.le_of_ble_eq_true rfl, by rw [← hR]; exact Nat.le_of_ble_eq_true rfl⟩) ⟨fun a U g mk q => by obtain ⟨q0, q1, q2, qK, q9⟩ := q; exact ⟨q0, q1, (q2.moved (Vm.Alike.refl U.vm)), jG.calling g mk a qK, q9⟩, jStr_recv hstr56 hh_12.1, fun U hU hW => ⟨rfl, hU, (hstr56.moved hW.alike).kept hh_12.1.2.1, hG.step hW hU hh_12.1, ⟨by omega, by omega, by omega⟩⟩⟩ rfl rfl hl.1 rfl (lv_room (Nat.le_of_ble_eq_true rfl)) dX6_write_38 ⟨by rw [hRc]; omega, by rw [hRs]; omega⟩) (fun r_40 hr_40 => ?_)
            have hsz_43 := hh_12.2.2.2.2.2.1
            have htt_43 := hh_12.2.2.2.2.2.2.1
            refine W.room (fun hrc_43 hrs_43 => ?_)
            refine va_callv (A0 := jA base) (H0 := s.heap) (va_runV (As := [.int r_40]) (rest := []) ⟨hx, hb, hml, hown, hts⟩ (uX0_put l dC dI ca base B hB hAp hB2 hB196 Gx_12 H_12 r3 r_40 wc_12 wr_12 m_wr_12 LC LS) (cwV 1 hts (jgV (jWr_31 _ (List.mem_of_getElem? (i := 22) rfl)) (jWr_16 _ (List.mem_of_getElem? (i := 0) rfl)) (jWr_16 _ (List.mem_of_getElem? (i := 1) rfl)) (jWr_1 _ (List.mem_of_getElem? (i := 14) rfl)) (jWr_16 _ (List.mem_of_getElem? (i := 2) rfl))) rfl rfl rfl (by decide +kernel) ⟨by rw [← hR]; exact Nat.le_of_ble_eq_true rfl, by rw [← hR]; exact Nat.le_of_ble_eq_true rfl⟩) ⟨fun a U g mk q => by obtain ⟨q0, q1, q2, qK, q10, q11, q12, q13⟩ := q; exact ⟨q0, q1, q2, jG.calling g mk a qK, q10, q11, q12, q13⟩, hh_12.recv (C := RX0) (T := TX0) (N := 2) hB2 rfl (by decide) hg_14 hK, fun U hU hW => ⟨rfl, hU, hh_12.2.1, hG.step hW hU hh_12.1, hg_14, hg_wr_12, (hh_12.2.2.1.sub (L1 := [(r3, 2, 1, .int wc_12), (r3, 2, 0, .ref wr_12)]) [0, 1] rfl), (by omega), (by omega), by first | omega | (refine ⟨?_, ?_, ?_, ?_, ?_⟩ <;> (first | omega | rfl | assumption | decide | exact Or.inl rfl | exact Or.inr rfl | (simp only; omega)))⟩⟩ rfl rfl hl.1 rfl (lv_room (Nat.le_of_ble_eq_true rfl)) dX6_write_41 ⟨by rw [hRc]; omega, by rw [hRs]; omega⟩) hh_12.1 (fun q _ h => h) (fun q h => h) (fun u_43 t_43 H_43 locs_43 ht_43 hvm_43 hr_44 hb_43 hz_43 hk_43 hS_43 => ?_)
            obtain ⟨qc_43, qa_43, m_qa_43, G_43⟩ := u_43
            rw [ht_43] at hb_43
            simp only at hb_43
            obtain ⟨⟨hb_431, hb_432, hb_433, hb_434, hb_435, hb_436⟩, hgq_43_0, hN_43, hbO_43⟩ := hb_43
            have hh_43 : jSt (dC, dI) B base G0 G_43 EX6_write s.heap (zcx_12 + ((m_qa_43 - m_wr_12) / 16)) (zsx_12 + (2 * (m_qa_43 - m_wr_12))) [(r3, 2, 1, .int qc_43), (r3, 2, 0, .ref qa_43), (r0, 8, 0, .ref stems_10), (r0, 8, 3, .int count_6)] [] [] H_43 locs_43 := (hh_12.callG hb_431 hb_432 hb_433 hb_434 hb_435 hS_43 rfl (L1 := [(r0, 8, 0, .ref stems_10), (r0, 8, 3, .int count_6)]) [2, 3] rfl rfl (M1 := []) [] rfl rfl (I1 := []) [] rfl rfl).more hb_436
            have hNn_43 : (jNk [0, 1, 2, 3, 4, 5, 6, 7, 8, 9, 10, 11, 12, 13, 14, 15, 16]) G0 G_43 := (hN_12).tr hN_43
            have hg_45 := hb_432 _ _ hg_13
            have hg_46 := hb_432 _ _ hg_14
            have hg_47 := hb_432 _ _ hg_15
            have hd_48 := jOw.tr (hh_12.iv 0 rfl) hh_12.2.2.2.2.1 hbO_43
            have hh_49 := hh_43.addI (jOw.ie (dC := dC) (dI := dI) (G0 := G0) (k := 2) (r := r3) (H0 := s.heap) (F := [(2, 0), (2, 1)]) (C := RX0) (T := TX0) (N := 2) rfl (by decide) hh_43.2.2.2.2.1 (hd_48))
            clear hh_43
            try simp only at hr_44
            obtain ⟨hr_44_0, hr_44_1, hr_44_2, hr_44_3, hr_44_4⟩ := hr_44
            refine lv_lload hx hb dX6_write_44 (lv_at hl 4 rfl) ?_
            refine lv_bipush (v := 6) hx hb dX6_write_46 (by decide) ?_
            refine lv_lushr hx hb dX6_write_48 rfl ?_
            refine lv_topl (fun z_50 ez_50 => ?_)
            have hls := jb_lush6 (by assumption) (by omega)
            refine lv_lstore (lv' := [(4, .long z_50), (0, .ref r0), (1, .int a1), (2, .int a2), (3, .ref r3)]) hx hb dX6_write_49 hl (by decide) rfl (fun ls hl => ?_)
            refine lv_goto (tgt := 21) hx hb dX6_write_51 (by decide) ?_
            refine W.tight (c2 := (zcx_12 + ((m_qa_43 - m_wr_12) / 16))) (n2 := (zsx_12 + (2 * (m_qa_43 - m_wr_12)))) hh_49.2.2.2.2.2.1 hh_49.2.2.2.2.2.2.1 ?_
            exact L21 G_43 (zcx_12 + ((m_qa_43 - m_wr_12) / 16)) (zsx_12 + (2 * (m_qa_43 - m_wr_12))) z_50 qc_43 qa_43 m_qa_43 _ _ hh_49 (hNn_43) ((hle_12).tr hb_432) hgq_43_0 (by first | omega | (refine ⟨?_, ?_, ?_, ?_, ?_, ?_, ?_⟩ <;> (first | omega | rfl | assumption | decide | exact Or.inl rfl | exact Or.inr rfl | (simp only; omega)))) (by omega) _ (lv_sub hl [1, 2, 3, 4, 0] rfl)
      refine W.tight (c2 := 0) (n2 := 0) hh_9.2.2.2.2.2.1 hh_9.2.2.2.2.2.2.1 ?_
      exact L21 ((((z_11 : Int64).toInt).toNat : Int) : Int).toNat.succ G0 0 0 z_11 pc pa n_pa _ _ (hh_9.sub (L1 := [(r3, 2, 1, .int pc), (r3, 2, 0, .ref pa), (r0, 8, 0, .ref stems_10), (r0, 8, 3, .int count_6)]) [2, 3, 0, 1] rfl (M1 := []) [] rfl (I1 := [([(2, 0), (2, 1)], jOw (dC, dI) G0 2 r3 s.heap)]) [0] rfl) (jNk.rf) (jLe.rf) hg_pa (by first | omega | (refine ⟨?_, ?_, ?_, ?_, ?_, ?_, ?_⟩ <;> (first | omega | rfl | assumption | decide | exact Or.inl rfl | exact Or.inr rfl | (simp only; omega)))) (by omega) _ (lv_sub hl [1, 2, 3, 4, 0] rfl)
    · skip
      have c_7' : a1.toInt ≥ count_6.toInt := jb_lt_n (rfl) (rfl) c_7
      have hsz_51 := hh_5.2.2.2.2.2.1
      have htt_51 := hh_5.2.2.2.2.2.2.1
      refine W.room (fun hrc_51 hrs_51 => ?_)
      refine W.widen (k := LC - s.heap.size) (n := LS - jTot s.heap) (by omega) (by omega) ?_
      rw [hQ]
      exact W.vret hx hb hr (fun t ht hW => ⟨⟨(pc, pa, n_pa, G0), rfl, by (try dsimp only); exact ⟨(by first | omega | rfl | assumption | fail), (by first | omega | rfl | assumption | fail), (by first | omega | rfl | assumption | fail), (by first | omega | rfl | assumption | fail), (by first | assumption | fail | omega)⟩, ⟨hh_5.ra (by first | omega | (simp only; omega)) (by first | omega | (simp only; omega)) (M1 := [(r3, 2, 1, .int pc), (r3, 2, 0, .ref pa)]) [1, 2] rfl ht, hg_pa, jNk.rf, by rw [ht]; exact hh_5.iv 0 rfl⟩⟩, by rw [ht]; try exact hh_5.1.1, fun q h9 hq => by rw [ht]; try exact hh_5.1.2.1 q h9 hq⟩) hh_5.1.2.2 dX6_write_12
set_option maxHeartbeats 4000000 in
set_option maxRecDepth 20000 in
theorem uX0_quoted (l : Launch) (dC : Nat → ClassId) (dI : Nat → Nat → Nat) (ca : Nat → ClassId) (base : Nat) (B : jF) (hB : jBok B) (hAp : jAp (dC, dI)) (hB2 : ∀ n G a H, B 2 n G a H ↔ jOb (dC, dI) 2 2 (F2 n G) a H) (hB101 : ∀ n G a H, B 101 n G a H ↔ jAr (dC, dI) (ca 1) (fun j z => True) n a H) (hB196 : ∀ n G a H, B 196 n G a H ↔ jAr (dC, dI) (ca 0) (fun j z => jBf j z) n a H) (G0 : jT) (H0 : Heap) (r0 : Nat) (r1 : Nat) (a2 : Int32) (a3 : Int32) (n1 : Nat) (pc : Int32) (pa : Nat) (n_pa : Nat) (LC LS : Nat) : Met l yX0_quoted (jw yX0_quoted cX0_quoted 7 none) ({ frames := 5, cells := LC - H0.size, slots := LS - jTot H0, locals := 163 }) (va_Pc [.ref r0, .ref r1, .int a2, .int a3] (fun U => U.heap = H0 ∧ jX B base G0 [] H0 ∧ jG dC dI ca base U ∧ G0 r0 = some (2, 0) ∧ G0 r1 = some (101, n1) ∧ G0 pa = some (196, n_pa) ∧ jP (dC, dI) G0 H0 [(r0, 2, 1, .int pc), (r0, 2, 0, .ref pa)] ∧ H0.size + (1048576 - n_pa) / 16 + 1 ≤ LC ∧ jTot H0 + 2 * (1048576 - n_pa) ≤ LS ∧ 0 ≤ pc.toInt ∧ pc.toInt ≤ n_pa ∧ 16 ≤ n_pa ∧ n_pa ≤ 1048576 ∧ jPw n_pa ∧ n1 ≤ 3000 ∧ 0 ≤ a2.toInt ∧ a2.toInt ≤ 3000 ∧ 0 ≤ a3.toInt ∧ a3.toInt ≤ 3000)) (va_Qv (S := Int32 × Nat × Nat × jT) (fun u => 0 ≤ u.1.toInt ∧ u.1.toInt ≤ u.2.2.1 ∧ n_pa ≤ u.2.2.1 ∧ u.2.2.1 ≤ 1048576 ∧ jPw u.2.2.1) (fun u t => jRa (dC, dI) B base G0 u.2.2.2 EX0_quoted H0 ((u.2.2.1 - n_pa) / 16) (2 * (u.2.2.1 - n_pa)) [(r0, 2, 1, .int u.1), (r0, 2, 0, .ref u.2.1)] t.heap ∧ u.2.2.2 u.2.1 = some (196, u.2.2.1) ∧ (jNk [0, 1, 2, 3, 4, 5, 6, 7, 8, 9, 10, 11, 12, 13, 14, 15, 16]) G0 u.2.2.2 ∧ jOw (dC, dI) G0 2 r0 H0 t.heap) (jA base)) (LC - H0.size) (LS - jTot H0) (jA base) := by
  refine Met.ofW (cc := cX0_quoted) (maxL := 7) (ret := none) (by decide) rfl ?_
  intro p e s m args below meth c s₁ Bd hml hv
  obtain ⟨rfl, hH0, hX, hG, hg_r0, hg_r1, hg_pa, hP0, hLC0, hLS0, hp0, hp1, hp2, hp3, hp4, hp5, hp6, hp7, hp8, hp9⟩ := hv
  have hK := hG.1
  have hx := Bd.exec
  have hb := Bd.bytes
  have hr := Bd.returns
  have hts := atoms_spec (ws := (jw yX0_quoted cX0_quoted 7 none)) Bd.pre
  have htw : ∀ w ∈ jWl, w.before _ s = true := fun w h => hts w (List.mem_cons_of_mem _ h)
  have hown : s.vm.findClass RX0 = some m.cls := findClass_of_methodNamed Bd.named
  have hlocks := Bd.notSynchronized
  obtain ⟨Q, hQ⟩ : ∃ Q, Q = MQ below (va_Qv (S := Int32 × Nat × Nat × jT) (fun u => 0 ≤ u.1.toInt ∧ u.1.toInt ≤ u.2.2.1 ∧ n_pa ≤ u.2.2.1 ∧ u.2.2.1 ≤ 1048576 ∧ jPw u.2.2.1) (fun u t => jRa (dC, dI) B base G0 u.2.2.2 EX0_quoted H0 ((u.2.2.1 - n_pa) / 16) (2 * (u.2.2.1 - n_pa)) [(r0, 2, 1, .int u.1), (r0, 2, 0, .ref u.2.1)] t.heap ∧ u.2.2.2 u.2.1 = some (196, u.2.2.1) ∧ (jNk [0, 1, 2, 3, 4, 5, 6, 7, 8, 9, 10, 11, 12, 13, 14, 15, 16]) G0 u.2.2.2 ∧ jOw (dC, dI) G0 2 r0 H0 t.heap) (jA base)) ([.ref r0, .ref r1, .int a2, .int a3] : List Value).toArray s (LC - H0.size) (LS - jTot H0) (jA base) := ⟨_, rfl⟩
  rw [← hQ]
  have hl := lv_entry ([.ref r0, .ref r1, .int a2, .int a3]) (n := 7) (Nat.le_of_ble_eq_true rfl)
  rw [lg_entry_eq]
  generalize (lg_sl ([.ref r0, .ref r1, .int a2, .int a3]) ++ List.replicate (7 - (lg_sl ([.ref r0, .ref r1, .int a2, .int a3])).length) Slot.unset).toArray = ls at hl ⊢
  have hl : lv_has ls 7 [(0, .ref r0), (1, .ref r1), (2, .int a2), (3, .int a3)] := hl
  generalize hR : (headSpec (jw yX0_quoted cX0_quoted 7 none) ({ frames := 5, cells := LC - H0.size, slots := LS - jTot H0, locals := 163 })).room = R
  subst hH0
  have hh : jSt (dC, dI) B base G0 G0 EX0_quoted s.heap 0 0 [(r0, 2, 1, .int pc), (r0, 2, 0, .ref pa)] [] [] s.heap [] := jSt.start hX hP0 jMc.nil jIs.nil
  clear hX hP0
  have hk0 : (0 : Int32).toInt = 0 := by decide
  have hk1 : (1 : Int32).toInt = 1 := by decide
  have hk4 : (4 : Int32).toInt = 4 := by decide
  have hk10 : (10 : Int32).toInt = 10 := by decide
  have hk15 : (15 : Int32).toInt = 15 := by decide
  have hk32 : (32 : Int32).toInt = 32 := by decide
  have hk34 : (34 : Int32).toInt = 34 := by decide
  have hk48 : (48 : Int32).toInt = 48 := by decide
  have hk92 : (92 : Int32).toInt = 92 := by decide
  have hk97 : (97 : Int32).toInt = 97 := by decide
  have hk55296 : (55296 : Int32).toInt = 55296 := by decide
  have hk56320 : (56320 : Int32).toInt = 56320 := by decide
  have hk65533 : (65533 : Int32).toInt = 65533 := by decide
  have hk65536 : (65536 : Int32).toInt = 65536 := by decide
  have hcs_60 := htw (.constant RX0 60 65536) (jWr_20 _ (List.mem_of_getElem? (i := 15) rfl))
  have hcs_61 := htw (.constant RX0 61 55296) (jWr_20 _ (List.mem_of_getElem? (i := 17) rfl))
  have hcs_62 := htw (.constant RX0 62 56320) (jWr_21 _ (List.mem_of_getElem? (i := 12) rfl))
  have hcs_66 := htw (.constant RX0 66 65533) (jWr_25 _ (List.mem_of_getElem? (i := 14) rfl))
  obtain ⟨str67, rstr67, hstr670⟩ := hG.str (o := RX0) (k := 67) (tx := "\\u00") (List.mem_of_getElem? (i := 790) (by decide +kernel))
  have hstr67 : jStr base str67 4 s s.heap := hstr670
  have hrg_a2 := jb_rng a2
  have hrg_a3 := jb_rng a3
  have hbs : base ≤ s.heap.size := Nat.le_of_lt (Nat.lt_of_le_of_lt (hh.ab hg_r0).1 (hh.ab hg_r0).2)
  have hRc : R.cells = LC - s.heap.size := by rw [← hR]; rfl
  have hRs : R.slots = LS - jTot s.heap := by rw [← hR]; rfl
  have hh_1 := hh.addI (jOw.ie (dC := dC) (dI := dI) (G0 := G0) (k := 2) (r := r0) (H0 := s.heap) (F := [(2, 0), (2, 1)]) (C := RX0) (T := TX0) (N := 2) rfl (by decide) hh.2.2.2.2.1 (jOw.rf))
  clear hh
  refine lv_aload_n hx hb dX0_quoted_0 rfl (lv_at hl 0 rfl) ?_
  refine lv_bipush (v := 34) hx hb dX0_quoted_1 (by decide) ?_
  have hsz_2 := hh_1.2.2.2.2.2.1
  have htt_2 := hh_1.2.2.2.2.2.2.1
  refine W.room (fun hrc_2 hrs_2 => ?_)
  refine va_callv (A0 := jA base) (H0 := s.heap) (va_runV (As := [.int 34]) (rest := []) ⟨hx, hb, hml, hown, hts⟩ (uX0_put l dC dI ca base B hB hAp hB2 hB196 G0 s.heap r0 34 pc pa n_pa LC LS) (cwV 1 hts (jgV (jWr_24 _ (List.mem_of_getElem? (i := 22) rfl)) (jWr_16 _ (List.mem_of_getElem? (i := 0) rfl)) (jWr_16 _ (List.mem_of_getElem? (i := 1) rfl)) (jWr_1 _ (List.mem_of_getElem? (i := 14) rfl)) (jWr_16 _ (List.mem_of_getElem? (i := 2) rfl))) rfl rfl rfl (by decide +kernel) ⟨by rw [← hR]; exact Nat.le_of_ble_eq_true rfl, by rw [← hR]; exact Nat.le_of_ble_eq_true rfl⟩) ⟨fun a U g mk q => by obtain ⟨q0, q1, q2, qK, q10, q11, q12, q13⟩ := q; exact ⟨q0, q1, q2, jG.calling g mk a qK, q10, q11, q12, q13⟩, hh_1.recv (C := RX0) (T := TX0) (N := 2) hB2 rfl (by decide) hg_r0 hK, fun U hU hW => ⟨rfl, hU, hh_1.2.1, hG.step hW hU hh_1.1, hg_r0, hg_pa, (hh_1.2.2.1.sub (L1 := [(r0, 2, 1, .int pc), (r0, 2, 0, .ref pa)]) [0, 1] rfl), (by omega), (by omega), by first | omega | (refine ⟨?_, ?_, ?_, ?_, ?_⟩ <;> (first | omega | rfl | assumption | decide | exact Or.inl rfl | exact Or.inr rfl | (simp only; omega)))⟩⟩ rfl rfl hl.1 rfl (lv_room (Nat.le_of_ble_eq_true rfl)) dX0_quoted_3 ⟨by rw [hRc]; omega, by rw [hRs]; omega⟩) hh_1.1 (fun q _ h => h) (fun q h => h) (fun u_2 t_2 H_2 locs_2 ht_2 hvm_2 hr_3 hb_2 hz_2 hk_2 hS_2 => ?_)
  obtain ⟨qc_2, qa_2, m_qa_2, G_2⟩ := u_2
  rw [ht_2] at hb_2
  simp only at hb_2
  obtain ⟨⟨hb_21, hb_22, hb_23, hb_24, hb_25, hb_26⟩, hgq_2_0, hN_2, hbO_2⟩ := hb_2
  have hh_2 : jSt (dC, dI) B base G0 G_2 EX0_quoted s.heap (0 + ((m_qa_2 - n_pa) / 16)) (0 + (2 * (m_qa_2 - n_pa))) [(r0, 2, 1, .int qc_2), (r0, 2, 0, .ref qa_2)] [] [] H_2 locs_2 := (hh_1.callG hb_21 hb_22 hb_23 hb_24 hb_25 hS_2 rfl (L1 := []) [] rfl rfl (M1 := []) [] rfl rfl (I1 := []) [] rfl rfl).more hb_26
  have hNn_2 : (jNk [0, 1, 2, 3, 4, 5, 6, 7, 8, 9, 10, 11, 12, 13, 14, 15, 16]) G0 G_2 := (jNk.rf).tr hN_2
  have hg_4 := hb_22 _ _ hg_r0
  have hg_5 := hb_22 _ _ hg_r1
  have hd_6 := jOw.tr (hh_1.iv 0 rfl) hh_1.2.2.2.2.1 hbO_2
  have hh_7 := hh_2.addI (jOw.ie (dC := dC) (dI := dI) (G0 := G0) (k := 2) (r := r0) (H0 := s.heap) (F := [(2, 0), (2, 1)]) (C := RX0) (T := TX0) (N := 2) rfl (by decide) hh_2.2.2.2.2.1 (hd_6))
  clear hh_2
  try simp only at hr_3
  obtain ⟨hr_3_0, hr_3_1, hr_3_2, hr_3_3, hr_3_4⟩ := hr_3
  refine lv_iload_n hx hb dX0_quoted_6 rfl (lv_at hl 2 rfl) ?_
  refine lv_iload_n hx hb dX0_quoted_7 rfl (lv_at hl 3 rfl) ?_
  refine lv_iadd hx hb dX0_quoted_8 ?_
  refine lv_topi (fun z_8 ez_8 => ?_)
  have hz_8 : z_8.toInt = a2.toInt + a3.toInt := by rw [ez_8]; exact jb_iadd2 (rfl) (rfl) (by omega)
  refine lv_aload_n hx hb dX0_quoted_9 rfl (lv_at hl 1 rfl) ?_
  refine j7_len hx hb hK hh_7 hB101 1 rfl (by decide) hg_5 (by omega) dX0_quoted_10 (fun z_9 hz_9 => ?_)
  have hsz_10 := hh_7.2.2.2.2.2.1
  have htt_10 := hh_7.2.2.2.2.2.2.1
  refine W.room (fun hrc_10 hrs_10 => ?_)
  refine va_mmin hx hb (by rw [hml]; exact hl.1.symm) hown (htw (.methodLink RX0 50 Lib.Math.min.name) (jWr_25 _ (List.mem_of_getElem? (i := 13) rfl))) (htw (.static Lib.Math.min.name) (jWr_16 _ (List.mem_of_getElem? (i := 16) rfl))) (htw (.initialized "java/lang/Math") (jWr_3 _ (List.mem_of_getElem? (i := 7) rfl))) (htw (.code Lib.Math.min.name Lib.Math.min.code 2 (some .int)) (jWr_16 _ (List.mem_of_getElem? (i := 17) rfl))) (by rw [← hR]; exact Nat.le_of_ble_eq_true rfl) (by rw [← hR]; exact Nat.le_of_ble_eq_true rfl) (by rw [hRc]; omega) (by rw [hRs]; omega) dX0_quoted_11 ?_
  refine lv_topi (fun z_11 ez_11 => ?_)
  have hz_11 := jb_min ez_11
  refine lv_istore (lv' := [(4, .int z_11), (0, .ref r0), (1, .ref r1), (2, .int a2), (3, .int a3)]) hx hb dX0_quoted_14 hl (by decide) rfl (fun ls hl => ?_)
  refine lv_iload_n hx hb dX0_quoted_16 rfl (lv_at hl 3 rfl) ?_
  refine lv_iconst (v := 0) hx hb dX0_quoted_17 (by decide) ?_
  have hsz_12 := hh_7.2.2.2.2.2.1
  have htt_12 := hh_7.2.2.2.2.2.2.1
  refine W.room (fun hrc_12 hrs_12 => ?_)
  refine va_mmax hx hb (by rw [hml]; exact hl.1.symm) hown (htw (.methodLink RX0 7 Lib.Math.max.name) (jWr_3 _ (List.mem_of_getElem? (i := 5) rfl))) (htw (.static Lib.Math.max.name) (jWr_3 _ (List.mem_of_getElem? (i := 6) rfl))) (htw (.initialized "java/lang/Math") (jWr_3 _ (List.mem_of_getElem? (i := 7) rfl))) (htw (.code Lib.Math.max.name Lib.Math.max.code 2 (some .int)) (jWr_3 _ (List.mem_of_getElem? (i := 8) rfl))) (by rw [← hR]; exact Nat.le_of_ble_eq_true rfl) (by rw [← hR]; exact Nat.le_of_ble_eq_true rfl) (by rw [hRc]; omega) (by rw [hRs]; omega) dX0_quoted_18 ?_
  refine lv_topi (fun z_13 ez_13 => ?_)
  have hz_13 := jb_max ez_13
  refine lv_istore (lv' := [(5, .int z_13), (4, .int z_11), (0, .ref r0), (1, .ref r1), (2, .int a2), (3, .int a3)]) hx hb dX0_quoted_21 hl (by decide) rfl (fun ls hl => ?_)
  have L23 : ∀ (N : Nat) (Gx_14 : jT) (zcx_14 : Nat) (zsx_14 : Nat) (v5_14 : Int32) (wc_14 : Int32) (wr_14 : Nat) (m_wr_14 : Nat) (H_14 : Heap) (locs_14 : List Loc), jSt (dC, dI) B base G0 Gx_14 EX0_quoted s.heap zcx_14 zsx_14 [(r0, 2, 1, .int wc_14), (r0, 2, 0, .ref wr_14)] [] [([(2, 0), (2, 1)], jOw (dC, dI) G0 2 r0 s.heap)] H_14 locs_14 → (jNk [0, 1, 2, 3, 4, 5, 6, 7, 8, 9, 10, 11, 12, 13, 14, 15, 16]) G0 Gx_14 → jLe G_2 Gx_14 → Gx_14 wr_14 = some (196, m_wr_14) → (0 ≤ wc_14.toInt ∧ wc_14.toInt ≤ m_wr_14 ∧ n_pa ≤ m_wr_14 ∧ m_wr_14 ≤ 1048576 ∧ jPw m_wr_14 ∧ zcx_14 ≤ (m_wr_14 - n_pa) / 16 ∧ zsx_14 ≤ 2 * (m_wr_14 - n_pa) ∧ 0 ≤ v5_14.toInt ∧ v5_14.toInt ≤ 3001) → (((z_11.toInt - v5_14.toInt).toNat : Int) : Int) < N → ∀ ls : Array Slot, lv_has ls 7 [(0, .ref r0), (1, .ref r1), (2, .int a2), (3, .int a3), (4, .int z_11), (5, .int v5_14)] → W p l e R s m ([.ref r0, .ref r1, .int a2, .int a3] : List Value).toArray below meth c H_14 locs_14 zcx_14 zsx_14 Q (F0 m 23 ls []) := by
    intro N
    induction N with
    | zero => intro Gx_14 zcx_14 zsx_14 v5_14 wc_14 wr_14 m_wr_14 H_14 locs_14 hh_14 hN_14 hle_14 hg_wr_14 hi_14 hm; exact absurd hm (by omega)
    | succ N L23 =>
      intro Gx_14 zcx_14 zsx_14 v5_14 wc_14 wr_14 m_wr_14 H_14 locs_14 hh_14 hN_14 hle_14 hg_wr_14 hi_14 hm_14 ls hl
      have hg_15 := hle_14 _ _ hg_4
      have hg_16 := hle_14 _ _ hg_5
      obtain ⟨hi_14_0, hi_14_1, hi_14_2, hi_14_3, hi_14_4, hi_14_5, hi_14_6, hi_14_7, hi_14_8⟩ := hi_14
      refine lv_iload hx hb dX0_quoted_23 (lv_at hl 5 rfl) ?_
      refine lv_iload hx hb dX0_quoted_25 (lv_at hl 4 rfl) ?_
      refine lv_icmp_ge (tgt := 214) hx hb dX0_quoted_27 (by decide) (fun c_17 => ?_) (fun c_17 => ?_)
      · skip
        have c_17' : v5_14.toInt ≥ z_11.toInt := jb_ge (rfl) (rfl) c_17
        refine lv_aload_n hx hb dX0_quoted_214 rfl (lv_at hl 0 rfl) ?_
        refine lv_bipush (v := 34) hx hb dX0_quoted_215 (by decide) ?_
        have hsz_18 := hh_14.2.2.2.2.2.1
        have htt_18 := hh_14.2.2.2.2.2.2.1
        refine W.room (fun hrc_18 hrs_18 => ?_)
        refine va_callv (A0 := jA base) (H0 := s.heap) (va_runV (As := [.int 34]) (rest := []) ⟨hx, hb, hml, hown, hts⟩ (uX0_put l dC dI ca base B hB hAp hB2 hB196 Gx_14 H_14 r0 34 wc_14 wr_14 m_wr_14 LC LS) (cwV 1 hts (jgV (jWr_24 _ (List.mem_of_getElem? (i := 22) rfl)) (jWr_16 _ (List.mem_of_getElem? (i := 0) rfl)) (jWr_16 _ (List.mem_of_getElem? (i := 1) rfl)) (jWr_1 _ (List.mem_of_getElem? (i := 14) rfl)) (jWr_16 _ (List.mem_of_getElem? (i := 2) rfl))) rfl rfl rfl (by decide +kernel) ⟨by rw [← hR]; exact Nat.le_of_ble_eq_true rfl, by rw [← hR]; exact Nat.le_of_ble_eq_true rfl⟩) ⟨fun a U g mk q => by obtain ⟨q0, q1, q2, qK, q10, q11, q12, q13⟩ := q; exact ⟨q0, q1, q2, jG.calling g mk a qK, q10, q11, q12, q13⟩, hh_14.recv (C := RX0) (T := TX0) (N := 2) hB2 rfl (by decide) hg_15 hK, fun U hU hW => ⟨rfl, hU, hh_14.2.1, hG.step hW hU hh_14.1, hg_15, hg_wr_14, (hh_14.2.2.1.sub (L1 := [(r0, 2, 1, .int wc_14), (r0, 2, 0, .ref wr_14)]) [0, 1] rfl), (by omega), (by omega), by first | omega | (refine ⟨?_, ?_, ?_, ?_, ?_⟩ <;> (first | omega | rfl | assumption | decide | exact Or.inl rfl | exact Or.inr rfl | (simp only; omega)))⟩⟩ rfl rfl hl.1 rfl (lv_room (Nat.le_of_ble_eq_true rfl)) dX0_quoted_217 ⟨by rw [hRc]; omega, by rw [hRs]; omega⟩) hh_14.1 (fun q _ h => h) (fun q h => h) (fun u_18 t_18 H_18 locs_18 ht_18 hvm_18 hr_19 hb_18 hz_18 hk_18 hS_18 => ?_)
        obtain ⟨qc_18, qa_18, m_qa_18, G_18⟩ := u_18
        rw [ht_18] at hb_18
        simp only at hb_18
        obtain ⟨⟨hb_181, hb_182, hb_183, hb_184, hb_185, hb_186⟩, hgq_18_0, hN_18, hbO_18⟩ := hb_18
        have hh_18 : jSt (dC, dI) B base G0 G_18 EX0_quoted s.heap (zcx_14 + ((m_qa_18 - m_wr_14) / 16)) (zsx_14 + (2 * (m_qa_18 - m_wr_14))) [(r0, 2, 1, .int qc_18), (r0, 2, 0, .ref qa_18)] [] [] H_18 locs_18 := (hh_14.callG hb_181 hb_182 hb_183 hb_184 hb_185 hS_18 rfl (L1 := []) [] rfl rfl (M1 := []) [] rfl rfl (I1 := []) [] rfl rfl).more hb_186
        have hNn_18 : (jNk [0, 1, 2, 3, 4, 5, 6, 7, 8, 9, 10, 11, 12, 13, 14, 15, 16]) G0 G_18 := (hN_14).tr hN_18
        have hg_20 := hb_182 _ _ hg_15
        have hg_21 := hb_182 _ _ hg_16
        have hd_22 := jOw.tr (hh_14.iv 0 rfl) hh_14.2.2.2.2.1 hbO_18
        have hh_23 := hh_18.addI (jOw.ie (dC := dC) (dI := dI) (G0 := G0) (k := 2) (r := r0) (H0 := s.heap) (F := [(2, 0), (2, 1)]) (C := RX0) (T := TX0) (N := 2) rfl (by decide) hh_18.2.2.2.2.1 (hd_22))
        clear hh_18
        try simp only at hr_19
        obtain ⟨hr_19_0, hr_19_1, hr_19_2, hr_19_3, hr_19_4⟩ := hr_19
        have hsz_24 := hh_23.2.2.2.2.2.1
        have htt_24 := hh_23.2.2.2.2.2.2.1
        refine W.room (fun hrc_24 hrs_24 => ?_)
        refine W.widen (k := LC - s.heap.size) (n := LS - jTot s.heap) (by omega) (by omega) ?_
        rw [hQ]
        exact W.vret hx hb hr (fun t ht hW => ⟨⟨(qc_18, qa_18, m_qa_18, G_18), rfl, by (try dsimp only); exact ⟨(by first | omega | rfl | assumption | fail), (by first | omega | rfl | assumption | fail), (by first | omega | rfl | assumption | fail), (by first | omega | rfl | assumption | fail), (by first | assumption | fail | omega)⟩, ⟨hh_23.ra (by first | omega | (simp only; omega)) (by first | omega | (simp only; omega)) (M1 := [(r0, 2, 1, .int qc_18), (r0, 2, 0, .ref qa_18)]) [0, 1] rfl ht, hgq_18_0, hNn_18, by rw [ht]; exact hh_23.iv 0 rfl⟩⟩, by rw [ht]; try exact hh_23.1.1, fun q h9 hq => by rw [ht]; try exact hh_23.1.2.1 q h9 hq⟩) hh_23.1.2.2 dX0_quoted_220
      · skip
        have c_17' : v5_14.toInt < z_11.toInt := jb_ge_n (rfl) (rfl) c_17
        refine lv_aload_n hx hb dX0_quoted_30 rfl (lv_at hl 1 rfl) ?_
        refine lv_iload hx hb dX0_quoted_31 (lv_at hl 5 rfl) ?_
        refine j7_iald hx hb hK hh_14 hB101 1 rfl (by decide) hg_16 (x := v5_14.toInt) (rfl) (by omega) dX0_quoted_33 (fun z_25 (hz_25 : True) => ?_)
        refine lv_istore (lv' := [(6, .int z_25), (0, .ref r0), (1, .ref r1), (2, .int a2), (3, .int a3), (4, .int z_11), (5, .int v5_14)]) hx hb dX0_quoted_34 hl (by decide) rfl (fun ls hl => ?_)
        refine lv_iload hx hb dX0_quoted_36 (lv_at hl 0 rfl) ?_
        have hsz_28 := hh_14.2.2.2.2.2.1
        have htt_28 := hh_14.2.2.2.2.2.2.1
        refine W.room (fun hrc_28 hrs_28 => ?_)
        have hsz_27 := hh_14.2.2.2.2.2.1
        have htt_27 := hh_14.2.2.2.2.2.2.1
        refine W.room (fun hrc_27 hrs_27 => ?_)
        refine vp_callSi (W.runS (As := [.int z_25]) (rest := []) ⟨hx, hb, hml, hown, hts⟩ (wX0_isHigh l dC dI ca base H_14 z_25) (va_cwS 1 hts (jgS (jWr_25 _ (List.mem_of_getElem? (i := 15) rfl)) (jWr_21 _ (List.mem_of_getElem? (i := 18) rfl)) (jWr_1 _ (List.mem_of_getElem? (i := 14) rfl)) (jWr_21 _ (List.mem_of_getElem? (i := 19) rfl))) rfl rfl rfl (by decide +kernel) ⟨by rw [← hR]; exact Nat.le_of_ble_eq_true rfl, by rw [← hR]; exact Nat.le_of_ble_eq_true rfl⟩) ⟨fun a U g mk q => by obtain ⟨q0, q1, qK, q9⟩ := q; exact ⟨q0, q1, jG.calling g mk a qK, q9⟩, fun U hU hW => ⟨rfl, hU, hG.step hW hU hh_14.1, by first | trivial | omega | (constructor <;> omega)⟩⟩ rfl rfl hl.1 rfl (lv_room (Nat.le_of_ble_eq_true rfl)) dX0_quoted_38 ⟨by rw [hRc]; omega, by rw [hRs]; omega⟩) (fun r_26 hr_26 => ?_)
        have hr_26' : r_26.toInt = 0 ∨ r_26.toInt = 1 := jb_01 hr_26
        have C94 : ∀ (H_29 : Heap) (locs_29 : List Loc), jSt (dC, dI) B base G0 Gx_14 EX0_quoted s.heap zcx_14 zsx_14 [(r0, 2, 1, .int wc_14), (r0, 2, 0, .ref wr_14)] [] [([(2, 0), (2, 1)], jOw (dC, dI) G0 2 r0 s.heap)] H_29 locs_29 → (True) → ∀ ls : Array Slot, lv_has ls 7 [(0, .ref r0), (1, .ref r1), (2, .int a2), (3, .int a3), (4, .int z_11), (5, .int v5_14), (6, .int z_25)] → W p l e R s m ([.ref r0, .ref r1, .int a2, .int a3] : List Value).toArray below meth c H_29 locs_29 zcx_14 zsx_14 Q (F0 m 94 ls []) := by
          intro  H_29 locs_29 hh_29  hi_29 ls hl
          refine lv_iload hx hb dX0_quoted_94 (lv_at hl 6 rfl) ?_
          have hsz_32 := hh_29.2.2.2.2.2.1
          have htt_32 := hh_29.2.2.2.2.2.2.1
          refine W.room (fun hrc_32 hrs_32 => ?_)
          have hsz_31 := hh_29.2.2.2.2.2.1
          have htt_31 := hh_29.2.2.2.2.2.2.1
          refine W.room (fun hrc_31 hrs_31 => ?_)
          refine vp_callSi (W.runS (As := [.int z_25]) (rest := []) ⟨hx, hb, hml, hown, hts⟩ (wX0_isHigh l dC dI ca base H_29 z_25) (va_cwS 1 hts (jgS (jWr_25 _ (List.mem_of_getElem? (i := 15) rfl)) (jWr_21 _ (List.mem_of_getElem? (i := 18) rfl)) (jWr_1 _ (List.mem_of_getElem? (i := 14) rfl)) (jWr_21 _ (List.mem_of_getElem? (i := 19) rfl))) rfl rfl rfl (by decide +kernel) ⟨by rw [← hR]; exact Nat.le_of_ble_eq_true rfl, by rw [← hR]; exact Nat.le_of_ble_eq_true rfl⟩) ⟨fun a U g mk q => by obtain ⟨q0, q1, qK, q9⟩ := q; exact ⟨q0, q1, jG.calling g mk a qK, q9⟩, fun U hU hW => ⟨rfl, hU, hG.step hW hU hh_29.1, by first | trivial | omega | (constructor <;> omega)⟩⟩ rfl rfl hl.1 rfl (lv_room (Nat.le_of_ble_eq_true rfl)) dX0_quoted_96 ⟨by rw [hRc]; omega, by rw [hRs]; omega⟩) (fun r_30 hr_30 => ?_)
          have hr_30' : r_30.toInt = 0 ∨ r_30.toInt = 1 := jb_01 hr_30
          refine lv_if_ne (tgt := 110) hx hb dX0_quoted_99 (by decide) (fun c_33 => ?_) (fun c_33 => ?_)
          · skip
            have c_33' : r_30.toInt ≠ 0 := jb_ne (rfl) ((by decide)) c_33
            refine lv_aload_n hx hb dX0_quoted_110 rfl (lv_at hl 0 rfl) ?_
            refine lv_ldc hx hb hown hcs_66 dX0_quoted_111 ?_
            have hsz_34 := hh_29.2.2.2.2.2.1
            have htt_34 := hh_29.2.2.2.2.2.2.1
            refine W.room (fun hrc_34 hrs_34 => ?_)
            refine va_callv (A0 := jA base) (H0 := s.heap) (va_runV (As := [.int 65533]) (rest := []) ⟨hx, hb, hml, hown, hts⟩ (uX0_character l dC dI ca base B hB hAp hB2 hB196 Gx_14 H_29 r0 65533 wc_14 wr_14 m_wr_14 LC LS) (cwV 1 hts (jgV (jWr_25 _ (List.mem_of_getElem? (i := 17) rfl)) (jWr_25 _ (List.mem_of_getElem? (i := 18) rfl)) (jWr_25 _ (List.mem_of_getElem? (i := 19) rfl)) (jWr_1 _ (List.mem_of_getElem? (i := 14) rfl)) (jWr_25 _ (List.mem_of_getElem? (i := 20) rfl))) rfl rfl rfl (by decide +kernel) ⟨by rw [← hR]; exact Nat.le_of_ble_eq_true rfl, by rw [← hR]; exact Nat.le_of_ble_eq_true rfl⟩) ⟨fun a U g mk q => by obtain ⟨q0, q1, q2, qK, q10, q11, q12, q13⟩ := q; exact ⟨q0, q1, q2, jG.calling g mk a qK, q10, q11, q12, q13⟩, hh_29.recv (C := RX0) (T := TX0) (N := 2) hB2 rfl (by decide) hg_15 hK, fun U hU hW => ⟨rfl, hU, hh_29.2.1, hG.step hW hU hh_29.1, hg_15, hg_wr_14, (hh_29.2.2.1.sub (L1 := [(r0, 2, 1, .int wc_14), (r0, 2, 0, .ref wr_14)]) [0, 1] rfl), (by omega), (by omega), by first | omega | (refine ⟨?_, ?_, ?_, ?_, ?_⟩ <;> (first | omega | rfl | assumption | decide | exact Or.inl rfl | exact Or.inr rfl | (simp only; omega)))⟩⟩ rfl rfl hl.1 rfl (lv_room (Nat.le_of_ble_eq_true rfl)) dX0_quoted_113 ⟨by rw [hRc]; omega, by rw [hRs]; omega⟩) hh_29.1 (fun q _ h => h) (fun q h => h) (fun u_34 t_34 H_34 locs_34 ht_34 hvm_34 hr_35 hb_34 hz_34 hk_34 hS_34 => ?_)
            obtain ⟨qc_34, qa_34, m_qa_34, G_34⟩ := u_34
            rw [ht_34] at hb_34
            simp only at hb_34
            obtain ⟨⟨hb_341, hb_342, hb_343, hb_344, hb_345, hb_346⟩, hgq_34_0, hN_34, hbO_34⟩ := hb_34
            have hh_34 : jSt (dC, dI) B base G0 G_34 EX0_quoted s.heap (zcx_14 + ((m_qa_34 - m_wr_14) / 16)) (zsx_14 + (2 * (m_qa_34 - m_wr_14))) [(r0, 2, 1, .int qc_34), (r0, 2, 0, .ref qa_34)] [] [] H_34 locs_34 := (hh_29.callG hb_341 hb_342 hb_343 hb_344 hb_345 hS_34 rfl (L1 := []) [] rfl rfl (M1 := []) [] rfl rfl (I1 := []) [] rfl rfl).more hb_346
            have hNn_34 : (jNk [0, 1, 2, 3, 4, 5, 6, 7, 8, 9, 10, 11, 12, 13, 14, 15, 16]) G0 G_34 := (hN_14).tr hN_34
            have hg_36 := hb_342 _ _ hg_15
            have hg_37 := hb_342 _ _ hg_16
            have hd_38 := jOw.tr (hh_29.iv 0 rfl) hh_29.2.2.2.2.1 hbO_34
            have hh_39 := hh_34.addI (jOw.ie (dC := dC) (dI := dI) (G0 := G0) (k := 2) (r := r0) (H0 := s.heap) (F := [(2, 0), (2, 1)]) (C := RX0) (T := TX0) (N := 2) rfl (by decide) hh_34.2.2.2.2.1 (hd_38))
            clear hh_34
            try simp only at hr_35
            obtain ⟨hr_35_0, hr_35_1, hr_35_2, hr_35_3, hr_35_4⟩ := hr_35
            refine lv_goto (tgt := 208) hx hb dX0_quoted_116 (by decide) ?_
            obtain ⟨z_40, ez_40⟩ : ∃ y : Int32, y = v5_14 + 1 := ⟨_, rfl⟩
            refine lv_iinc (v := z_40) (lv' := [(5, .int z_40), (0, .ref r0), (1, .ref r1), (2, .int a2), (3, .int a3), (4, .int z_11), (6, .int z_25)]) hx hb dX0_quoted_208 hl (k := 5) rfl (by rw [ez_40]; rfl) (by decide) rfl (fun ls hl => ?_)
            have hz_40 : z_40.toInt = v5_14.toInt + 1 := by rw [ez_40]; exact jb_iadd2 (rfl) (by decide) (by omega)
            refine lv_goto (tgt := 23) hx hb dX0_quoted_211 (by decide) ?_
            refine W.tight (c2 := (zcx_14 + ((m_qa_34 - m_wr_14) / 16))) (n2 := (zsx_14 + (2 * (m_qa_34 - m_wr_14)))) hh_39.2.2.2.2.2.1 hh_39.2.2.2.2.2.2.1 ?_
            exact L23 G_34 (zcx_14 + ((m_qa_34 - m_wr_14) / 16)) (zsx_14 + (2 * (m_qa_34 - m_wr_14))) z_40 qc_34 qa_34 m_qa_34 _ _ hh_39 (hNn_34) ((hle_14).tr hb_342) hgq_34_0 (by first | omega | (refine ⟨?_, ?_, ?_, ?_, ?_, ?_, ?_, ?_, ?_⟩ <;> (first | omega | rfl | assumption | decide | exact Or.inl rfl | exact Or.inr rfl | (simp only; omega)))) (by omega) _ (lv_sub hl [1, 2, 3, 4, 5, 0] rfl)
          · skip
            have c_33' : r_30.toInt = 0 := jb_ne_n (rfl) ((by decide)) c_33
            refine lv_iload hx hb dX0_quoted_102 (lv_at hl 6 rfl) ?_
            have hsz_43 := hh_29.2.2.2.2.2.1
            have htt_43 := hh_29.2.2.2.2.2.2.1
            refine W.room (fun hrc_43 hrs_43 => ?_)
            have hsz_42 := hh_29.2.2.2.2.2.1
            have htt_42 := hh_29.2.2.2.2.2.2.1
            refine W.room (fun hrc_42 hrs_42 => ?_)
            refine vp_callSi (W.runS (As := [.int z_25]) (rest := []) ⟨hx, hb, hml, hown, hts⟩ (wX0_isLow l dC dI ca base H_29 z_25) (va_cwS 1 hts (jgS (jWr_25 _ (List.mem_of_getElem? (i := 16) rfl)) (jWr_21 _ (List.mem_of_getElem? (i := 10) rfl)) (jWr_1 _ (List.mem_of_getElem? (i := 14) rfl)) (jWr_21 _ (List.mem_of_getElem? (i := 11) rfl))) rfl rfl rfl (by decide +kernel) ⟨by rw [← hR]; exact Nat.le_of_ble_eq_true rfl, by rw [← hR]; exact Nat.le_of_ble_eq_true rfl⟩) ⟨fun a U g mk q => by obtain ⟨q0, q1, qK, q9⟩ := q; exact ⟨q0, q1, jG.calling g mk a qK, q9⟩, fun U hU hW => ⟨rfl, hU, hG.step hW hU hh_29.1, by first | trivial | omega | (constructor <;> omega)⟩⟩ rfl rfl hl.1 rfl (lv_room (Nat.le_of_ble_eq_true rfl)) dX0_quoted_104 ⟨by rw [hRc]; omega, by rw [hRs]; omega⟩) (fun r_41 hr_41 => ?_)
            have hr_41' : r_41.toInt = 0 ∨ r_41.toInt = 1 := jb_01 hr_41
            refine lv_if_eq (tgt := 119) hx hb dX0_quoted_107 (by decide) (fun c_44 => ?_) (fun c_44 => ?_)
            · skip
              have c_44' : r_41.toInt = 0 := jb_eq (rfl) ((by decide)) c_44
              refine lv_iload hx hb dX0_quoted_119 (lv_at hl 6 rfl) ?_
              refine lv_bipush (v := 32) hx hb dX0_quoted_121 (by decide) ?_
              refine lv_icmp_ge (tgt := 182) hx hb dX0_quoted_123 (by decide) (fun c_45 => ?_) (fun c_45 => ?_)
              · skip
                have c_45' : z_25.toInt ≥ 32 := jb_ge (rfl) ((by decide)) c_45
                refine lv_iload hx hb dX0_quoted_182 (lv_at hl 6 rfl) ?_
                refine lv_bipush (v := 34) hx hb dX0_quoted_184 (by decide) ?_
                refine lv_icmp_eq (tgt := 196) hx hb dX0_quoted_186 (by decide) (fun c_46 => ?_) (fun c_46 => ?_)
                · skip
                  have c_46' : z_25.toInt = 34 := jb_eq (rfl) ((by decide)) c_46
                  refine lv_aload_n hx hb dX0_quoted_196 rfl (lv_at hl 0 rfl) ?_
                  refine lv_bipush (v := 92) hx hb dX0_quoted_197 (by decide) ?_
                  have hsz_47 := hh_29.2.2.2.2.2.1
                  have htt_47 := hh_29.2.2.2.2.2.2.1
                  refine W.room (fun hrc_47 hrs_47 => ?_)
                  refine va_callv (A0 := jA base) (H0 := s.heap) (va_runV (As := [.int 92]) (rest := []) ⟨hx, hb, hml, hown, hts⟩ (uX0_put l dC dI ca base B hB hAp hB2 hB196 Gx_14 H_29 r0 92 wc_14 wr_14 m_wr_14 LC LS) (cwV 1 hts (jgV (jWr_24 _ (List.mem_of_getElem? (i := 22) rfl)) (jWr_16 _ (List.mem_of_getElem? (i := 0) rfl)) (jWr_16 _ (List.mem_of_getElem? (i := 1) rfl)) (jWr_1 _ (List.mem_of_getElem? (i := 14) rfl)) (jWr_16 _ (List.mem_of_getElem? (i := 2) rfl))) rfl rfl rfl (by decide +kernel) ⟨by rw [← hR]; exact Nat.le_of_ble_eq_true rfl, by rw [← hR]; exact Nat.le_of_ble_eq_true rfl⟩) ⟨fun a U g mk q => by obtain ⟨q0, q1, q2, qK, q10, q11, q12, q13⟩ := q; exact ⟨q0, q1, q2, jG.calling g mk a qK, q10, q11, q12, q13⟩, hh_29.recv (C := RX0) (T := TX0) (N := 2) hB2 rfl (by decide) hg_15 hK, fun U hU hW => ⟨rfl, hU, hh_29.2.1, hG.step hW hU hh_29.1, hg_15, hg_wr_14, (hh_29.2.2.1.sub (L1 := [(r0, 2, 1, .int wc_14), (r0, 2, 0, .ref wr_14)]) [0, 1] rfl), (by omega), (by omega), by first | omega | (refine ⟨?_, ?_, ?_, ?_, ?_⟩ <;> (first | omega | rfl | assumption | decide | exact Or.inl rfl | exact Or.inr rfl | (simp only; omega)))⟩⟩ rfl rfl hl.1 rfl (lv_room (Nat.le_of_ble_eq_true rfl)) dX0_quoted_199 ⟨by rw [hRc]; omega, by rw [hRs]; omega⟩) hh_29.1 (fun q _ h => h) (fun q h => h) (fun u_47 t_47 H_47 locs_47 ht_47 hvm_47 hr_48 hb_47 hz_47 hk_47 hS_47 => ?_)
                  obtain ⟨qc_47, qa_47, m_qa_47, G_47⟩ := u_47
                  rw [ht_47] at hb_47
                  simp only at hb_47
                  obtain ⟨⟨hb_471, hb_472, hb_473, hb_474, hb_475, hb_476⟩, hgq_47_0, hN_47, hbO_47⟩ := hb_47
                  have hh_47 : jSt (dC, dI) B base G0 G_47 EX0_quoted s.heap (zcx_14 + ((m_qa_47 - m_wr_14) / 16)) (zsx_14 + (2 * (m_qa_47 - m_wr_14))) [(r0, 2, 1, .int qc_47), (r0, 2, 0, .ref qa_47)] [] [] H_47 locs_47 := (hh_29.callG hb_471 hb_472 hb_473 hb_474 hb_475 hS_47 rfl (L1 := []) [] rfl rfl (M1 := []) [] rfl rfl (I1 := []) [] rfl rfl).more hb_476
                  have hNn_47 : (jNk [0, 1, 2, 3, 4, 5, 6, 7, 8, 9, 10, 11, 12, 13, 14, 15, 16]) G0 G_47 := (hN_14).tr hN_47
                  have hg_49 := hb_472 _ _ hg_15
                  have hg_50 := hb_472 _ _ hg_16
                  have hd_51 := jOw.tr (hh_29.iv 0 rfl) hh_29.2.2.2.2.1 hbO_47
                  have hh_52 := hh_47.addI (jOw.ie (dC := dC) (dI := dI) (G0 := G0) (k := 2) (r := r0) (H0 := s.heap) (F := [(2, 0), (2, 1)]) (C := RX0) (T := TX0) (N := 2) rfl (by decide) hh_47.2.2.2.2.1 (hd_51))
                  clear hh_47
                  try simp only at hr_48
                  obtain ⟨hr_48_0, hr_48_1, hr_48_2, hr_48_3, hr_48_4⟩ := hr_48
                  refine lv_aload_n hx hb dX0_quoted_202 rfl (lv_at hl 0 rfl) ?_
                  refine lv_iload hx hb dX0_quoted_203 (lv_at hl 6 rfl) ?_
                  have hsz_53 := hh_52.2.2.2.2.2.1
                  have htt_53 := hh_52.2.2.2.2.2.2.1
                  refine W.room (fun hrc_53 hrs_53 => ?_)
                  refine va_callv (A0 := jA base) (H0 := s.heap) (va_runV (As := [.int z_25]) (rest := []) ⟨hx, hb, hml, hown, hts⟩ (uX0_character l dC dI ca base B hB hAp hB2 hB196 G_47 H_47 r0 z_25 qc_47 qa_47 m_qa_47 LC LS) (cwV 1 hts (jgV (jWr_25 _ (List.mem_of_getElem? (i := 17) rfl)) (jWr_25 _ (List.mem_of_getElem? (i := 18) rfl)) (jWr_25 _ (List.mem_of_getElem? (i := 19) rfl)) (jWr_1 _ (List.mem_of_getElem? (i := 14) rfl)) (jWr_25 _ (List.mem_of_getElem? (i := 20) rfl))) rfl rfl rfl (by decide +kernel) ⟨by rw [← hR]; exact Nat.le_of_ble_eq_true rfl, by rw [← hR]; exact Nat.le_of_ble_eq_true rfl⟩) ⟨fun a U g mk q => by obtain ⟨q0, q1, q2, qK, q10, q11, q12, q13⟩ := q; exact ⟨q0, q1, q2, jG.calling g mk a qK, q10, q11, q12, q13⟩, hh_52.recv (C := RX0) (T := TX0) (N := 2) hB2 rfl (by decide) hg_49 hK, fun U hU hW => ⟨rfl, hU, hh_52.2.1, hG.step hW hU hh_52.1, hg_49, hgq_47_0, (hh_52.2.2.1.sub (L1 := [(r0, 2, 1, .int qc_47), (r0, 2, 0, .ref qa_47)]) [0, 1] rfl), (by omega), (by omega), by first | omega | (refine ⟨?_, ?_, ?_, ?_, ?_⟩ <;> (first | omega | rfl | assumption | decide | exact Or.inl rfl | exact Or.inr rfl | (simp only; omega)))⟩⟩ rfl rfl hl.1 rfl (lv_room (Nat.le_of_ble_eq_true rfl)) dX0_quoted_205 ⟨by rw [hRc]; omega, by rw [hRs]; omega⟩) hh_52.1 (fun q _ h => h) (fun q h => h) (fun u_53 t_53 H_53 locs_53 ht_53 hvm_53 hr_54 hb_53 hz_53 hk_53 hS_53 => ?_)
                  obtain ⟨qc_53, qa_53, m_qa_53, G_53⟩ := u_53
                  rw [ht_53] at hb_53
                  simp only at hb_53
                  obtain ⟨⟨hb_531, hb_532, hb_533, hb_534, hb_535, hb_536⟩, hgq_53_0, hN_53, hbO_53⟩ := hb_53
                  have hh_53 : jSt (dC, dI) B base G0 G_53 EX0_quoted s.heap ((zcx_14 + ((m_qa_47 - m_wr_14) / 16)) + ((m_qa_53 - m_qa_47) / 16)) ((zsx_14 + (2 * (m_qa_47 - m_wr_14))) + (2 * (m_qa_53 - m_qa_47))) [(r0, 2, 1, .int qc_53), (r0, 2, 0, .ref qa_53)] [] [] H_53 locs_53 := (hh_52.callG hb_531 hb_532 hb_533 hb_534 hb_535 hS_53 rfl (L1 := []) [] rfl rfl (M1 := []) [] rfl rfl (I1 := []) [] rfl rfl).more hb_536
                  have hNn_53 : (jNk [0, 1, 2, 3, 4, 5, 6, 7, 8, 9, 10, 11, 12, 13, 14, 15, 16]) G0 G_53 := (hNn_47).tr hN_53
                  have hg_55 := hb_532 _ _ hg_49
                  have hg_56 := hb_532 _ _ hg_50
                  have hd_57 := jOw.tr (hh_52.iv 0 rfl) hh_52.2.2.2.2.1 hbO_53
                  have hh_58 := hh_53.addI (jOw.ie (dC := dC) (dI := dI) (G0 := G0) (k := 2) (r := r0) (H0 := s.heap) (F := [(2, 0), (2, 1)]) (C := RX0) (T := TX0) (N := 2) rfl (by decide) hh_53.2.2.2.2.1 (hd_57))
                  clear hh_53
                  try simp only at hr_54
                  obtain ⟨hr_54_0, hr_54_1, hr_54_2, hr_54_3, hr_54_4⟩ := hr_54
                  obtain ⟨z_59, ez_59⟩ : ∃ y : Int32, y = v5_14 + 1 := ⟨_, rfl⟩
                  refine lv_iinc (v := z_59) (lv' := [(5, .int z_59), (0, .ref r0), (1, .ref r1), (2, .int a2), (3, .int a3), (4, .int z_11), (6, .int z_25)]) hx hb dX0_quoted_208 hl (k := 5) rfl (by rw [ez_59]; rfl) (by decide) rfl (fun ls hl => ?_)
                  have hz_59 : z_59.toInt = v5_14.toInt + 1 := by rw [ez_59]; exact jb_iadd2 (rfl) (by decide) (by omega)
                  refine lv_goto (tgt := 23) hx hb dX0_quoted_211 (by decide) ?_
                  refine W.tight (c2 := ((zcx_14 + ((m_qa_47 - m_wr_14) / 16)) + ((m_qa_53 - m_qa_47) / 16))) (n2 := ((zsx_14 + (2 * (m_qa_47 - m_wr_14))) + (2 * (m_qa_53 - m_qa_47)))) hh_58.2.2.2.2.2.1 hh_58.2.2.2.2.2.2.1 ?_
                  exact L23 G_53 ((zcx_14 + ((m_qa_47 - m_wr_14) / 16)) + ((m_qa_53 - m_qa_47) / 16)) ((zsx_14 + (2 * (m_qa_47 - m_wr_14))) + (2 * (m_qa_53 - m_qa_47))) z_59 qc_53 qa_53 m_qa_53 _ _ hh_58 (hNn_53) (((hle_14).tr hb_472).tr hb_532) hgq_53_0 (by first | omega | (refine ⟨?_, ?_, ?_, ?_, ?_, ?_, ?_, ?_, ?_⟩ <;> (first | omega | rfl | assumption | decide | exact Or.inl rfl | exact Or.inr rfl | (simp only; omega)))) (by omega) _ (lv_sub hl [1, 2, 3, 4, 5, 0] rfl)
                · skip
                  have c_46' : z_25.toInt ≠ 34 := jb_eq_n (rfl) ((by decide)) c_46
                  refine lv_iload hx hb dX0_quoted_189 (lv_at hl 6 rfl) ?_
                  refine lv_bipush (v := 92) hx hb dX0_quoted_191 (by decide) ?_
                  refine lv_icmp_ne (tgt := 202) hx hb dX0_quoted_193 (by decide) (fun c_60 => ?_) (fun c_60 => ?_)
                  · skip
                    have c_60' : z_25.toInt ≠ 92 := jb_ne (rfl) ((by decide)) c_60
                    refine lv_aload_n hx hb dX0_quoted_202 rfl (lv_at hl 0 rfl) ?_
                    refine lv_iload hx hb dX0_quoted_203 (lv_at hl 6 rfl) ?_
                    have hsz_61 := hh_29.2.2.2.2.2.1
                    have htt_61 := hh_29.2.2.2.2.2.2.1
                    refine W.room (fun hrc_61 hrs_61 => ?_)
                    refine va_callv (A0 := jA base) (H0 := s.heap) (va_runV (As := [.int z_25]) (rest := []) ⟨hx, hb, hml, hown, hts⟩ (uX0_character l dC dI ca base B hB hAp hB2 hB196 Gx_14 H_29 r0 z_25 wc_14 wr_14 m_wr_14 LC LS) (cwV 1 hts (jgV (jWr_25 _ (List.mem_of_getElem? (i := 17) rfl)) (jWr_25 _ (List.mem_of_getElem? (i := 18) rfl)) (jWr_25 _ (List.mem_of_getElem? (i := 19) rfl)) (jWr_1 _ (List.mem_of_getElem? (i := 14) rfl)) (jWr_25 _ (List.mem_of_getElem? (i := 20) rfl))) rfl rfl rfl (by decide +kernel) ⟨by rw [← hR]; exact Nat.le_of_ble_eq_true rfl, by rw [← hR]; exact Nat.le_of_ble_eq_true rfl⟩) ⟨fun a U g mk q => by obtain ⟨q0, q1, q2, qK, q10, q11, q12, q13⟩ := q; exact ⟨q0, q1, q2, jG.calling g mk a qK, q10, q11, q12, q13⟩, hh_29.recv (C := RX0) (T := TX0) (N := 2) hB2 rfl (by decide) hg_15 hK, fun U hU hW => ⟨rfl, hU, hh_29.2.1, hG.step hW hU hh_29.1, hg_15, hg_wr_14, (hh_29.2.2.1.sub (L1 := [(r0, 2, 1, .int wc_14), (r0, 2, 0, .ref wr_14)]) [0, 1] rfl), (by omega), (by omega), by first | omega | (refine ⟨?_, ?_, ?_, ?_, ?_⟩ <;> (first | omega | rfl | assumption | decide | exact Or.inl rfl | exact Or.inr rfl | (simp only; omega)))⟩⟩ rfl rfl hl.1 rfl (lv_room (Nat.le_of_ble_eq_true rfl)) dX0_quoted_205 ⟨by rw [hRc]; omega, by rw [hRs]; omega⟩) hh_29.1 (fun q _ h => h) (fun q h => h) (fun u_61 t_61 H_61 locs_61 ht_61 hvm_61 hr_62 hb_61 hz_61 hk_61 hS_61 => ?_)
                    obtain ⟨qc_61, qa_61, m_qa_61, G_61⟩ := u_61
                    rw [ht_61] at hb_61
                    simp only at hb_61
                    obtain ⟨⟨hb_611, hb_612, hb_613, hb_614, hb_615, hb_616⟩, hgq_61_0, hN_61, hbO_61⟩ := hb_61
                    have hh_61 : jSt (dC, dI) B base G0 G_61 EX0_quoted s.heap (zcx_14 + ((m_qa_61 - m_wr_14) / 16)) (zsx_14 + (2 * (m_qa_61 - m_wr_14))) [(r0, 2, 1, .int qc_61), (r0, 2, 0, .ref qa_61)] [] [] H_61 locs_61 := (hh_29.callG hb_611 hb_612 hb_613 hb_614 hb_615 hS_61 rfl (L1 := []) [] rfl rfl (M1 := []) [] rfl rfl (I1 := []) [] rfl rfl).more hb_616
                    have hNn_61 : (jNk [0, 1, 2, 3, 4, 5, 6, 7, 8, 9, 10, 11, 12, 13, 14, 15, 16]) G0 G_61 := (hN_14).tr hN_61
                    have hg_63 := hb_612 _ _ hg_15
                    have hg_64 := hb_612 _ _ hg_16
                    have hd_65 := jOw.tr (hh_29.iv 0 rfl) hh_29.2.2.2.2.1 hbO_61
                    have hh_66 := hh_61.addI (jOw.ie (dC := dC) (dI := dI) (G0 := G0) (k := 2) (r := r0) (H0 := s.heap) (F := [(2, 0), (2, 1)]) (C := RX0) (T := TX0) (N := 2) rfl (by decide) hh_61.2.2.2.2.1 (hd_65))
                    clear hh_61
                    try simp only at hr_62
                    obtain ⟨hr_62_0, hr_62_1, hr_62_2, hr_62_3, hr_62_4⟩ := hr_62
                    obtain ⟨z_67, ez_67⟩ : ∃ y : Int32, y = v5_14 + 1 := ⟨_, rfl⟩
                    refine lv_iinc (v := z_67) (lv' := [(5, .int z_67), (0, .ref r0), (1, .ref r1), (2, .int a2), (3, .int a3), (4, .int z_11), (6, .int z_25)]) hx hb dX0_quoted_208 hl (k := 5) rfl (by rw [ez_67]; rfl) (by decide) rfl (fun ls hl => ?_)
                    have hz_67 : z_67.toInt = v5_14.toInt + 1 := by rw [ez_67]; exact jb_iadd2 (rfl) (by decide) (by omega)
                    refine lv_goto (tgt := 23) hx hb dX0_quoted_211 (by decide) ?_
                    refine W.tight (c2 := (zcx_14 + ((m_qa_61 - m_wr_14) / 16))) (n2 := (zsx_14 + (2 * (m_qa_61 - m_wr_14)))) hh_66.2.2.2.2.2.1 hh_66.2.2.2.2.2.2.1 ?_
                    exact L23 G_61 (zcx_14 + ((m_qa_61 - m_wr_14) / 16)) (zsx_14 + (2 * (m_qa_61 - m_wr_14))) z_67 qc_61 qa_61 m_qa_61 _ _ hh_66 (hNn_61) ((hle_14).tr hb_612) hgq_61_0 (by first | omega | (refine ⟨?_, ?_, ?_, ?_, ?_, ?_, ?_, ?_, ?_⟩ <;> (first | omega | rfl | assumption | decide | exact Or.inl rfl | exact Or.inr rfl | (simp only; omega)))) (by omega) _ (lv_sub hl [1, 2, 3, 4, 5, 0] rfl)
                  · skip
                    have c_60' : z_25.toInt = 92 := jb_ne_n (rfl) ((by decide)) c_60
                    refine lv_aload_n hx hb dX0_quoted_196 rfl (lv_at hl 0 rfl) ?_
                    refine lv_bipush (v := 92) hx hb dX0_quoted_197 (by decide) ?_
                    have hsz_68 := hh_29.2.2.2.2.2.1
                    have htt_68 := hh_29.2.2.2.2.2.2.1
                    refine W.room (fun hrc_68 hrs_68 => ?_)
                    refine va_callv (A0 := jA base) (H0 := s.heap) (va_runV (As := [.int 92]) (rest := []) ⟨hx, hb, hml, hown, hts⟩ (uX0_put l dC dI ca base B hB hAp hB2 hB196 Gx_14 H_29 r0 92 wc_14 wr_14 m_wr_14 LC LS) (cwV 1 hts (jgV (jWr_24 _ (List.mem_of_getElem? (i := 22) rfl)) (jWr_16 _ (List.mem_of_getElem? (i := 0) rfl)) (jWr_16 _ (List.mem_of_getElem? (i := 1) rfl)) (jWr_1 _ (List.mem_of_getElem? (i := 14) rfl)) (jWr_16 _ (List.mem_of_getElem? (i := 2) rfl))) rfl rfl rfl (by decide +kernel) ⟨by rw [← hR]; exact Nat.le_of_ble_eq_true rfl, by rw [← hR]; exact Nat.le_of_ble_eq_true rfl⟩) ⟨fun a U g mk q => by obtain ⟨q0, q1, q2, qK, q10, q11, q12, q13⟩ := q; exact ⟨q0, q1, q2, jG.calling g mk a qK, q10, q11, q12, q13⟩, hh_29.recv (C := RX0) (T := TX0) (N := 2) hB2 rfl (by decide) hg_15 hK, fun U hU hW => ⟨rfl, hU, hh_29.2.1, hG.step hW hU hh_29.1, hg_15, hg_wr_14, (hh_29.2.2.1.sub (L1 := [(r0, 2, 1, .int wc_14), (r0, 2, 0, .ref wr_14)]) [0, 1] rfl), (by omega), (by omega), by first | omega | (refine ⟨?_, ?_, ?_, ?_, ?_⟩ <;> (first | omega | rfl | assumption | decide | exact Or.inl rfl | exact Or.inr rfl | (simp only; omega)))⟩⟩ rfl rfl hl.1 rfl (lv_room (Nat.le_of_ble_eq_true rfl)) dX0_quoted_199 ⟨by rw [hRc]; omega, by rw [hRs]; omega⟩) hh_29.1 (fun q _ h => h) (fun q h => h) (fun u_68 t_68 H_68 locs_68 ht_68 hvm_68 hr_69 hb_68 hz_68 hk_68 hS_68 => ?_)
                    obtain ⟨qc_68, qa_68, m_qa_68, G_68⟩ := u_68
                    rw [ht_68] at hb_68
                    simp only at hb_68
                    obtain ⟨⟨hb_681, hb_682, hb_683, hb_684, hb_685, hb_686⟩, hgq_68_0, hN_68, hbO_68⟩ := hb_68
                    have hh_68 : jSt (dC, dI) B base G0 G_68 EX0_quoted s.heap (zcx_14 + ((m_qa_68 - m_wr_14) / 16)) (zsx_14 + (2 * (m_qa_68 - m_wr_14))) [(r0, 2, 1, .int qc_68), (r0, 2, 0, .ref qa_68)] [] [] H_68 locs_68 := (hh_29.callG hb_681 hb_682 hb_683 hb_684 hb_685 hS_68 rfl (L1 := []) [] rfl rfl (M1 := []) [] rfl rfl (I1 := []) [] rfl rfl).more hb_686
                    have hNn_68 : (jNk [0, 1, 2, 3, 4, 5, 6, 7, 8, 9, 10, 11, 12, 13, 14, 15, 16]) G0 G_68 := (hN_14).tr hN_68
                    have hg_70 := hb_682 _ _ hg_15
                    have hg_71 := hb_682 _ _ hg_16
                    have hd_72 := jOw.tr (hh_29.iv 0 rfl) hh_29.2.2.2.2.1 hbO_68
                    have hh_73 := hh_68.addI (jOw.ie (dC := dC) (dI := dI) (G0 := G0) (k := 2) (r := r0) (H0 := s.heap) (F := [(2, 0), (2, 1)]) (C := RX0) (T := TX0) (N := 2) rfl (by decide) hh_68.2.2.2.2.1 (hd_72))
                    clear hh_68
                    try simp only at hr_69
                    obtain ⟨hr_69_0, hr_69_1, hr_69_2, hr_69_3, hr_69_4⟩ := hr_69
                    refine lv_aload_n hx hb dX0_quoted_202 rfl (lv_at hl 0 rfl) ?_
                    refine lv_iload hx hb dX0_quoted_203 (lv_at hl 6 rfl) ?_
                    have hsz_74 := hh_73.2.2.2.2.2.1
                    have htt_74 := hh_73.2.2.2.2.2.2.1
                    refine W.room (fun hrc_74 hrs_74 => ?_)
                    refine va_callv (A0 := jA base) (H0 := s.heap) (va_runV (As := [.int z_25]) (rest := []) ⟨hx, hb, hml, hown, hts⟩ (uX0_character l dC dI ca base B hB hAp hB2 hB196 G_68 H_68 r0 z_25 qc_68 qa_68 m_qa_68 LC LS) (cwV 1 hts (jgV (jWr_25 _ (List.mem_of_getElem? (i := 17) rfl)) (jWr_25 _ (List.mem_of_getElem? (i := 18) rfl)) (jWr_25 _ (List.mem_of_getElem? (i := 19) rfl)) (jWr_1 _ (List.mem_of_getElem? (i := 14) rfl)) (jWr_25 _ (List.mem_of_getElem? (i := 20) rfl))) rfl rfl rfl (by decide +kernel) ⟨by rw [← hR]; exact Nat.le_of_ble_eq_true rfl, by rw [← hR]; exact Nat.le_of_ble_eq_true rfl⟩) ⟨fun a U g mk q => by obtain ⟨q0, q1, q2, qK, q10, q11, q12, q13⟩ := q; exact ⟨q0, q1, q2, jG.calling g mk a qK, q10, q11, q12, q13⟩, hh_73.recv (C := RX0) (T := TX0) (N := 2) hB2 rfl (by decide) hg_70 hK, fun U hU hW => ⟨rfl, hU, hh_73.2.1, hG.step hW hU hh_73.1, hg_70, hgq_68_0, (hh_73.2.2.1.sub (L1 := [(r0, 2, 1, .int qc_68), (r0, 2, 0, .ref qa_68)]) [0, 1] rfl), (by omega), (by omega), by first | omega | (refine ⟨?_, ?_, ?_, ?_, ?_⟩ <;> (first | omega | rfl | assumption | decide | exact Or.inl rfl | exact Or.inr rfl | (simp only; omega)))⟩⟩ rfl rfl hl.1 rfl (lv_room (Nat.le_of_ble_eq_true rfl)) dX0_quoted_205 ⟨by rw [hRc]; omega, by rw [hRs]; omega⟩) hh_73.1 (fun q _ h => h) (fun q h => h) (fun u_74 t_74 H_74 locs_74 ht_74 hvm_74 hr_75 hb_74 hz_74 hk_74 hS_74 => ?_)
                    obtain ⟨qc_74, qa_74, m_qa_74, G_74⟩ := u_74
                    rw [ht_74] at hb_74
                    simp only at hb_74
                    obtain ⟨⟨hb_741, hb_742, hb_743, hb_744, hb_745, hb_746⟩, hgq_74_0, hN_74, hbO_74⟩ := hb_74
                    have hh_74 : jSt (dC, dI) B base G0 G_74 EX0_quoted s.heap ((zcx_14 + ((m_qa_68 - m_wr_14) / 16)) + ((m_qa_74 - m_qa_68) / 16)) ((zsx_14 + (2 * (m_qa_68 - m_wr_14))) + (2 * (m_qa_74 - m_qa_68))) [(r0, 2, 1, .int qc_74), (r0, 2, 0, .ref qa_74)] [] [] H_74 locs_74 := (hh_73.callG hb_741 hb_742 hb_743 hb_744 hb_745 hS_74 rfl (L1 := []) [] rfl rfl (M1 := []) [] rfl rfl (I1 := []) [] rfl rfl).more hb_746
                    have hNn_74 : (jNk [0, 1, 2, 3, 4, 5, 6, 7, 8, 9, 10, 11, 12, 13, 14, 15, 16]) G0 G_74 := (hNn_68).tr hN_74
                    have hg_76 := hb_742 _ _ hg_70
                    have hg_77 := hb_742 _ _ hg_71
                    have hd_78 := jOw.tr (hh_73.iv 0 rfl) hh_73.2.2.2.2.1 hbO_74
                    have hh_79 := hh_74.addI (jOw.ie (dC := dC) (dI := dI) (G0 := G0) (k := 2) (r := r0) (H0 := s.heap) (F := [(2, 0), (2, 1)]) (C := RX0) (T := TX0) (N := 2) rfl (by decide) hh_74.2.2.2.2.1 (hd_78))
                    clear hh_74
                    try simp only at hr_75
                    obtain ⟨hr_75_0, hr_75_1, hr_75_2, hr_75_3, hr_75_4⟩ := hr_75
                    obtain ⟨z_80, ez_80⟩ : ∃ y : Int32, y = v5_14 + 1 := ⟨_, rfl⟩
                    refine lv_iinc (v := z_80) (lv' := [(5, .int z_80), (0, .ref r0), (1, .ref r1), (2, .int a2), (3, .int a3), (4, .int z_11), (6, .int z_25)]) hx hb dX0_quoted_208 hl (k := 5) rfl (by rw [ez_80]; rfl) (by decide) rfl (fun ls hl => ?_)
                    have hz_80 : z_80.toInt = v5_14.toInt + 1 := by rw [ez_80]; exact jb_iadd2 (rfl) (by decide) (by omega)
                    refine lv_goto (tgt := 23) hx hb dX0_quoted_211 (by decide) ?_
                    refine W.tight (c2 := ((zcx_14 + ((m_qa_68 - m_wr_14) / 16)) + ((m_qa_74 - m_qa_68) / 16))) (n2 := ((zsx_14 + (2 * (m_qa_68 - m_wr_14))) + (2 * (m_qa_74 - m_qa_68)))) hh_79.2.2.2.2.2.1 hh_79.2.2.2.2.2.2.1 ?_
                    exact L23 G_74 ((zcx_14 + ((m_qa_68 - m_wr_14) / 16)) + ((m_qa_74 - m_qa_68) / 16)) ((zsx_14 + (2 * (m_qa_68 - m_wr_14))) + (2 * (m_qa_74 - m_qa_68))) z_80 qc_74 qa_74 m_qa_74 _ _ hh_79 (hNn_74) (((hle_14).tr hb_682).tr hb_742) hgq_74_0 (by first | omega | (refine ⟨?_, ?_, ?_, ?_, ?_, ?_, ?_, ?_, ?_⟩ <;> (first | omega | rfl | assumption | decide | exact Or.inl rfl | exact Or.inr rfl | (simp only; omega)))) (by omega) _ (lv_sub hl [1, 2, 3, 4, 5, 0] rfl)
              · skip
                have c_45' : z_25.toInt < 32 := jb_ge_n (rfl) ((by decide)) c_45
                refine lv_aload_n hx hb dX0_quoted_126 rfl (lv_at hl 0 rfl) ?_
                refine va_ldcS hx hb hown rstr67 dX0_quoted_127 ?_
                have hsz_81 := hh_29.2.2.2.2.2.1
                have htt_81 := hh_29.2.2.2.2.2.2.1
                refine W.room (fun hrc_81 hrs_81 => ?_)
                refine va_callv (A0 := jA base) (H0 := s.heap) (va_runV (As := [.ref str67]) (rest := []) ⟨hx, hb, hml, hown, hts⟩ (uX0_text l dC dI ca base B hB hAp hB2 hB196 Gx_14 H_29 r0 str67 4 wc_14 wr_14 m_wr_14 LC LS) (cwV 1 hts (jgV (jWr_25 _ (List.mem_of_getElem? (i := 21) rfl)) (jWr_25 _ (List.mem_of_getElem? (i := 22) rfl)) (jWr_25 _ (List.mem_of_getElem? (i := 23) rfl)) (jWr_1 _ (List.mem_of_getElem? (i := 14) rfl)) (jWr_26 _ (List.mem_of_getElem? (i := 0) rfl))) rfl rfl rfl (by decide +kernel) ⟨by rw [← hR]; exact Nat.le_of_ble_eq_true rfl, by rw [← hR]; exact Nat.le_of_ble_eq_true rfl⟩) ⟨fun a U g mk q => by obtain ⟨q0, q1, q2, qK, q10, q11, q12, q13, q14⟩ := q; exact ⟨q0, q1, q2, jG.calling g mk a qK, (q10.moved (Vm.Alike.refl U.vm)), q11, q12, q13, q14⟩, hh_29.recv (C := RX0) (T := TX0) (N := 2) hB2 rfl (by decide) hg_15 hK, fun U hU hW => ⟨rfl, hU, hh_29.2.1, hG.step hW hU hh_29.1, (hstr67.moved hW.alike).kept hh_29.1.2.1, hg_15, hg_wr_14, (hh_29.2.2.1.sub (L1 := [(r0, 2, 1, .int wc_14), (r0, 2, 0, .ref wr_14)]) [0, 1] rfl), (by omega), (by omega), by first | omega | (refine ⟨?_, ?_, ?_, ?_, ?_, ?_⟩ <;> (first | omega | rfl | assumption | decide | exact Or.inl rfl | exact Or.inr rfl | (simp only; omega)))⟩⟩ rfl rfl hl.1 rfl (lv_room (Nat.le_of_ble_eq_true rfl)) dX0_quoted_129 ⟨by rw [hRc]; omega, by rw [hRs]; omega⟩) hh_29.1 (fun q _ h => h) (fun q h => h) (fun u_81 t_81 H_81 locs_81 ht_81 hvm_81 hr_82 hb_81 hz_81 hk_81 hS_81 => ?_)
                obtain ⟨qc_81, qa_81, m_qa_81, G_81⟩ := u_81
                rw [ht_81] at hb_81
                simp only at hb_81
                obtain ⟨⟨hb_811, hb_812, hb_813, hb_814, hb_815, hb_816⟩, hgq_81_0, hN_81, hbO_81⟩ := hb_81
                have hh_81 : jSt (dC, dI) B base G0 G_81 EX0_quoted s.heap (zcx_14 + ((m_qa_81 - m_wr_14) / 16)) (zsx_14 + (2 * (m_qa_81 - m_wr_14))) [(r0, 2, 1, .int qc_81), (r0, 2, 0, .ref qa_81)] [] [] H_81 locs_81 := (hh_29.callG hb_811 hb_812 hb_813 hb_814 hb_815 hS_81 rfl (L1 := []) [] rfl rfl (M1 := []) [] rfl rfl (I1 := []) [] rfl rfl).more hb_816
                have hNn_81 : (jNk [0, 1, 2, 3, 4, 5, 6, 7, 8, 9, 10, 11, 12, 13, 14, 15, 16]) G0 G_81 := (hN_14).tr hN_81
                have hg_83 := hb_812 _ _ hg_15
                have hg_84 := hb_812 _ _ hg_16
                have hd_85 := jOw.tr (hh_29.iv 0 rfl) hh_29.2.2.2.2.1 hbO_81
                have hh_86 := hh_81.addI (jOw.ie (dC := dC) (dI := dI) (G0 := G0) (k := 2) (r := r0) (H0 := s.heap) (F := [(2, 0), (2, 1)]) (C := RX0) (T := TX0) (N := 2) rfl (by decide) hh_81.2.2.2.2.1 (hd_85))
                clear hh_81
                try simp only at hr_82
                obtain ⟨hr_82_0, hr_82_1, hr_82_2, hr_82_3, hr_82_4⟩ := hr_82
                refine lv_aload_n hx hb dX0_quoted_132 rfl (lv_at hl 0 rfl) ?_
                refine lv_bipush (v := 48) hx hb dX0_quoted_133 (by decide) ?_
                refine lv_iload hx hb dX0_quoted_135 (lv_at hl 6 rfl) ?_
                refine lv_iconst (v := 4) hx hb dX0_quoted_137 (by decide) ?_
                refine lv_ishr hx hb dX0_quoted_138 ?_
                refine lv_topi (fun z_87 ez_87 => ?_)
                have hz_87 : z_87.toInt = z_25.toInt / 2 ^ 4 := by rw [ez_87]; exact jb_ishr 4 (rfl) (by decide)
                refine lv_iadd hx hb dX0_quoted_139 ?_
                refine lv_topi (fun z_88 ez_88 => ?_)
                have hsz_89 := hh_86.2.2.2.2.2.1
                have htt_89 := hh_86.2.2.2.2.2.2.1
                refine W.room (fun hrc_89 hrs_89 => ?_)
                refine va_callv (A0 := jA base) (H0 := s.heap) (va_runV (As := [.int z_88]) (rest := []) ⟨hx, hb, hml, hown, hts⟩ (uX0_put l dC dI ca base B hB hAp hB2 hB196 G_81 H_81 r0 z_88 qc_81 qa_81 m_qa_81 LC LS) (cwV 1 hts (jgV (jWr_24 _ (List.mem_of_getElem? (i := 22) rfl)) (jWr_16 _ (List.mem_of_getElem? (i := 0) rfl)) (jWr_16 _ (List.mem_of_getElem? (i := 1) rfl)) (jWr_1 _ (List.mem_of_getElem? (i := 14) rfl)) (jWr_16 _ (List.mem_of_getElem? (i := 2) rfl))) rfl rfl rfl (by decide +kernel) ⟨by rw [← hR]; exact Nat.le_of_ble_eq_true rfl, by rw [← hR]; exact Nat.le_of_ble_eq_true rfl⟩) ⟨fun a U g mk q => by obtain ⟨q0, q1, q2, qK, q10, q11, q12, q13⟩ := q; exact ⟨q0, q1, q2, jG.calling g mk a qK, q10, q11, q12, q13⟩, hh_86.recv (C := RX0) (T := TX0) (N := 2) hB2 rfl (by decide) hg_83 hK, fun U hU hW => ⟨rfl, hU, hh_86.2.1, hG.step hW hU hh_86.1, hg_83, hgq_81_0, (hh_86.2.2.1.sub (L1 := [(r0, 2, 1, .int qc_81), (r0, 2, 0, .ref qa_81)]) [0, 1] rfl), (by omega), (by omega), by first | omega | (refine ⟨?_, ?_, ?_, ?_, ?_⟩ <;> (first | omega | rfl | assumption | decide | exact Or.inl rfl | exact Or.inr rfl | (simp only; omega)))⟩⟩ rfl rfl hl.1 rfl (lv_room (Nat.le_of_ble_eq_true rfl)) dX0_quoted_140 ⟨by rw [hRc]; omega, by rw [hRs]; omega⟩) hh_86.1 (fun q _ h => h) (fun q h => h) (fun u_89 t_89 H_89 locs_89 ht_89 hvm_89 hr_90 hb_89 hz_89 hk_89 hS_89 => ?_)
                obtain ⟨qc_89, qa_89, m_qa_89, G_89⟩ := u_89
                rw [ht_89] at hb_89
                simp only at hb_89
                obtain ⟨⟨hb_891, hb_892, hb_893, hb_894, hb_895, hb_896⟩, hgq_89_0, hN_89, hbO_89⟩ := hb_89
                have hh_89 : jSt (dC, dI) B base G0 G_89 EX0_quoted s.heap ((zcx_14 + ((m_qa_81 - m_wr_14) / 16)) + ((m_qa_89 - m_qa_81) / 16)) ((zsx_14 + (2 * (m_qa_81 - m_wr_14))) + (2 * (m_qa_89 - m_qa_81))) [(r0, 2, 1, .int qc_89), (r0, 2, 0, .ref qa_89)] [] [] H_89 locs_89 := (hh_86.callG hb_891 hb_892 hb_893 hb_894 hb_895 hS_89 rfl (L1 := []) [] rfl rfl (M1 := []) [] rfl rfl (I1 := []) [] rfl rfl).more hb_896
                have hNn_89 : (jNk [0, 1, 2, 3, 4, 5, 6, 7, 8, 9, 10, 11, 12, 13, 14, 15, 16]) G0 G_89 := (hNn_81).tr hN_89
                have hg_91 := hb_892 _ _ hg_83
                have hg_92 := hb_892 _ _ hg_84
                have hd_93 := jOw.tr (hh_86.iv 0 rfl) hh_86.2.2.2.2.1 hbO_89
                have hh_94 := hh_89.addI (jOw.ie (dC := dC) (dI := dI) (G0 := G0) (k := 2) (r := r0) (H0 := s.heap) (F := [(2, 0), (2, 1)]) (C := RX0) (T := TX0) (N := 2) rfl (by decide) hh_89.2.2.2.2.1 (hd_93))
                clear hh_89
                try simp only at hr_90
                obtain ⟨hr_90_0, hr_90_1, hr_90_2, hr_90_3, hr_90_4⟩ := hr_90
                refine lv_aload_n hx hb dX0_quoted_143 rfl (lv_at hl 0 rfl) ?_
                refine lv_iload hx hb dX0_quoted_144 (lv_at hl 6 rfl) ?_
                refine lv_bipush (v := 15) hx hb dX0_quoted_146 (by decide) ?_
                refine lv_iand hx hb dX0_quoted_148 ?_
                refine lv_topi (fun z_95 ez_95 => ?_)
                have hz_95 : 0 ≤ z_95.toInt ∧ z_95.toInt ≤ 15 := by rw [ez_95]; exact jb_and z_25 (m := 15) (k := 4) (by decide) (by decide)
                refine lv_bipush (v := 10) hx hb dX0_quoted_149 (by decide) ?_
                refine lv_icmp_ge (tgt := 165) hx hb dX0_quoted_151 (by decide) (fun c_96 => ?_) (fun c_96 => ?_)
                · skip
                  have c_96' : z_95.toInt ≥ 10 := jb_ge (rfl) ((by decide)) c_96
                  refine lv_bipush (v := 97) hx hb dX0_quoted_165 (by decide) ?_
                  refine lv_iload hx hb dX0_quoted_167 (lv_at hl 6 rfl) ?_
                  refine lv_bipush (v := 15) hx hb dX0_quoted_169 (by decide) ?_
                  refine lv_iand hx hb dX0_quoted_171 ?_
                  refine lv_topi (fun z_97 ez_97 => ?_)
                  have hz_97 : 0 ≤ z_97.toInt ∧ z_97.toInt ≤ 15 := by rw [ez_97]; exact jb_and z_25 (m := 15) (k := 4) (by decide) (by decide)
                  refine lv_iadd hx hb dX0_quoted_172 ?_
                  refine lv_topi (fun z_98 ez_98 => ?_)
                  refine lv_bipush (v := 10) hx hb dX0_quoted_173 (by decide) ?_
                  refine lv_isub hx hb dX0_quoted_175 ?_
                  refine lv_topi (fun z_99 ez_99 => ?_)
                  have hsz_100 := hh_94.2.2.2.2.2.1
                  have htt_100 := hh_94.2.2.2.2.2.2.1
                  refine W.room (fun hrc_100 hrs_100 => ?_)
                  refine va_callv (A0 := jA base) (H0 := s.heap) (va_runV (As := [.int z_99]) (rest := []) ⟨hx, hb, hml, hown, hts⟩ (uX0_put l dC dI ca base B hB hAp hB2 hB196 G_89 H_89 r0 z_99 qc_89 qa_89 m_qa_89 LC LS) (cwV 1 hts (jgV (jWr_24 _ (List.mem_of_getElem? (i := 22) rfl)) (jWr_16 _ (List.mem_of_getElem? (i := 0) rfl)) (jWr_16 _ (List.mem_of_getElem? (i := 1) rfl)) (jWr_1 _ (List.mem_of_getElem? (i := 14) rfl)) (jWr_16 _ (List.mem_of_getElem? (i := 2) rfl))) rfl rfl rfl (by decide +kernel) ⟨by rw [← hR]; exact Nat.le_of_ble_eq_true rfl, by rw [← hR]; exact Nat.le_of_ble_eq_true rfl⟩) ⟨fun a U g mk q => by obtain ⟨q0, q1, q2, qK, q10, q11, q12, q13⟩ := q; exact ⟨q0, q1, q2, jG.calling g mk a qK, q10, q11, q12, q13⟩, hh_94.recv (C := RX0) (T := TX0) (N := 2) hB2 rfl (by decide) hg_91 hK, fun U hU hW => ⟨rfl, hU, hh_94.2.1, hG.step hW hU hh_94.1, hg_91, hgq_89_0, (hh_94.2.2.1.sub (L1 := [(r0, 2, 1, .int qc_89), (r0, 2, 0, .ref qa_89)]) [0, 1] rfl), (by omega), (by omega), by first | omega | (refine ⟨?_, ?_, ?_, ?_, ?_⟩ <;> (first | omega | rfl | assumption | decide | exact Or.inl rfl | exact Or.inr rfl | (simp only; omega)))⟩⟩ rfl rfl hl.1 rfl (lv_room (Nat.le_of_ble_eq_true rfl)) dX0_quoted_176 ⟨by rw [hRc]; omega, by rw [hRs]; omega⟩) hh_94.1 (fun q _ h => h) (fun q h => h) (fun u_100 t_100 H_100 locs_100 ht_100 hvm_100 hr_101 hb_100 hz_100 hk_100 hS_100 => ?_)
                  obtain ⟨qc_100, qa_100, m_qa_100, G_100⟩ := u_100
                  rw [ht_100] at hb_100
                  simp only at hb_100
                  obtain ⟨⟨hb_1001, hb_1002, hb_1003, hb_1004, hb_1005, hb_1006⟩, hgq_100_0, hN_100, hbO_100⟩ := hb_100
                  have hh_100 : jSt (dC, dI) B base G0 G_100 EX0_quoted s.heap (((zcx_14 + ((m_qa_81 - m_wr_14) / 16)) + ((m_qa_89 - m_qa_81) / 16)) + ((m_qa_100 - m_qa_89) / 16)) (((zsx_14 + (2 * (m_qa_81 - m_wr_14))) + (2 * (m_qa_89 - m_qa_81))) + (2 * (m_qa_100 - m_qa_89))) [(r0, 2, 1, .int qc_100), (r0, 2, 0, .ref qa_100)] [] [] H_100 locs_100 := (hh_94.callG hb_1001 hb_1002 hb_1003 hb_1004 hb_1005 hS_100 rfl (L1 := []) [] rfl rfl (M1 := []) [] rfl rfl (I1 := []) [] rfl rfl).more hb_1006
                  have hNn_100 : (jNk [0, 1, 2, 3, 4, 5, 6, 7, 8, 9, 10, 11, 12, 13, 14, 15, 16]) G0 G_100 := (hNn_89).tr hN_100
                  have hg_102 := hb_1002 _ _ hg_91
                  have hg_103 := hb_1002 _ _ hg_92
                  have hd_104 := jOw.tr (hh_94.iv 0 rfl) hh_94.2.2.2.2.1 hbO_100
                  have hh_105 := hh_100.addI (jOw.ie (dC := dC) (dI := dI) (G0 := G0) (k := 2) (r := r0) (H0 := s.heap) (F := [(2, 0), (2, 1)]) (C := RX0) (T := TX0) (N := 2) rfl (by decide) hh_100.2.2.2.2.1 (hd_104))
                  clear hh_100
                  try simp only at hr_101
                  obtain ⟨hr_101_0, hr_101_1, hr_101_2, hr_101_3, hr_101_4⟩ := hr_101
                  refine lv_goto (tgt := 208) hx hb dX0_quoted_179 (by decide) ?_
                  obtain ⟨z_106, ez_106⟩ : ∃ y : Int32, y = v5_14 + 1 := ⟨_, rfl⟩
                  refine lv_iinc (v := z_106) (lv' := [(5, .int z_106), (0, .ref r0), (1, .ref r1), (2, .int a2), (3, .int a3), (4, .int z_11), (6, .int z_25)]) hx hb dX0_quoted_208 hl (k := 5) rfl (by rw [ez_106]; rfl) (by decide) rfl (fun ls hl => ?_)
                  have hz_106 : z_106.toInt = v5_14.toInt + 1 := by rw [ez_106]; exact jb_iadd2 (rfl) (by decide) (by omega)
                  refine lv_goto (tgt := 23) hx hb dX0_quoted_211 (by decide) ?_
                  refine W.tight (c2 := (((zcx_14 + ((m_qa_81 - m_wr_14) / 16)) + ((m_qa_89 - m_qa_81) / 16)) + ((m_qa_100 - m_qa_89) / 16))) (n2 := (((zsx_14 + (2 * (m_qa_81 - m_wr_14))) + (2 * (m_qa_89 - m_qa_81))) + (2 * (m_qa_100 - m_qa_89)))) hh_105.2.2.2.2.2.1 hh_105.2.2.2.2.2.2.1 ?_
                  exact L23 G_100 (((zcx_14 + ((m_qa_81 - m_wr_14) / 16)) + ((m_qa_89 - m_qa_81) / 16)) + ((m_qa_100 - m_qa_89) / 16)) (((zsx_14 + (2 * (m_qa_81 - m_wr_14))) + (2 * (m_qa_89 - m_qa_81))) + (2 * (m_qa_100 - m_qa_89))) z_106 qc_100 qa_100 m_qa_100 _ _ hh_105 (hNn_100) ((((hle_14).tr hb_812).tr hb_892).tr hb_1002) hgq_100_0 (by first | omega | (refine ⟨?_, ?_, ?_, ?_, ?_, ?_, ?_, ?_, ?_⟩ <;> (first | omega | rfl | assumption | decide | exact Or.inl rfl | exact Or.inr rfl | (simp only; omega)))) (by omega) _ (lv_sub hl [1, 2, 3, 4, 5, 0] rfl)
                · skip
                  have c_96' : z_95.toInt < 10 := jb_ge_n (rfl) ((by decide)) c_96
                  refine lv_bipush (v := 48) hx hb dX0_quoted_154 (by decide) ?_
                  refine lv_iload hx hb dX0_quoted_156 (lv_at hl 6 rfl) ?_
                  refine lv_bipush (v := 15) hx hb dX0_quoted_158 (by decide) ?_
                  refine lv_iand hx hb dX0_quoted_160 ?_
                  refine lv_topi (fun z_107 ez_107 => ?_)
                  have hz_107 : 0 ≤ z_107.toInt ∧ z_107.toInt ≤ 15 := by rw [ez_107]; exact jb_and z_25 (m := 15) (k := 4) (by decide) (by decide)
                  refine lv_iadd hx hb dX0_quoted_161 ?_
                  refine lv_topi (fun z_108 ez_108 => ?_)
                  refine lv_goto (tgt := 176) hx hb dX0_quoted_162 (by decide) ?_
                  have hsz_109 := hh_94.2.2.2.2.2.1
                  have htt_109 := hh_94.2.2.2.2.2.2.1
                  refine W.room (fun hrc_109 hrs_109 => ?_)
                  refine va_callv (A0 := jA base) (H0 := s.heap) (va_runV (As := [.int z_108]) (rest := []) ⟨hx, hb, hml, hown, hts⟩ (uX0_put l dC dI ca base B hB hAp hB2 hB196 G_89 H_89 r0 z_108 qc_89 qa_89 m_qa_89 LC LS) (cwV 1 hts (jgV (jWr_24 _ (List.mem_of_getElem? (i := 22) rfl)) (jWr_16 _ (List.mem_of_getElem? (i := 0) rfl)) (jWr_16 _ (List.mem_of_getElem? (i := 1) rfl)) (jWr_1 _ (List.mem_of_getElem? (i := 14) rfl)) (jWr_16 _ (List.mem_of_getElem? (i := 2) rfl))) rfl rfl rfl (by decide +kernel) ⟨by rw [← hR]; exact Nat.le_of_ble_eq_true rfl, by rw [← hR]; exact Nat.le_of_ble_eq_true rfl⟩) ⟨fun a U g mk q => by obtain ⟨q0, q1, q2, qK, q10, q11, q12, q13⟩ := q; exact ⟨q0, q1, q2, jG.calling g mk a qK, q10, q11, q12, q13⟩, hh_94.recv (C := RX0) (T := TX0) (N := 2) hB2 rfl (by decide) hg_91 hK, fun U hU hW => ⟨rfl, hU, hh_94.2.1, hG.step hW hU hh_94.1, hg_91, hgq_89_0, (hh_94.2.2.1.sub (L1 := [(r0, 2, 1, .int qc_89), (r0, 2, 0, .ref qa_89)]) [0, 1] rfl), (by omega), (by omega), by first | omega | (refine ⟨?_, ?_, ?_, ?_, ?_⟩ <;> (first | omega | rfl | assumption | decide | exact Or.inl rfl | exact Or.inr rfl | (simp only; omega)))⟩⟩ rfl rfl hl.1 rfl (lv_room (Nat.le_of_ble_eq_true rfl)) dX0_quoted_176 ⟨by rw [hRc]; omega, by rw [hRs]; omega⟩) hh_94.1 (fun q _ h => h) (fun q h => h) (fun u_109 t_109 H_109 locs_109 ht_109 hvm_109 hr_110 hb_109 hz_109 hk_109 hS_109 => ?_)
                  obtain ⟨qc_109, qa_109, m_qa_109, G_109⟩ := u_109
                  rw [ht_109] at hb_109
                  simp only at hb_109
                  obtain ⟨⟨hb_1091, hb_1092, hb_1093, hb_1094, hb_1095, hb_1096⟩, hgq_109_0, hN_109, hbO_109⟩ := hb_109
                  have hh_109 : jSt (dC, dI) B base G0 G_109 EX0_quoted s.heap (((zcx_14 + ((m_qa_81 - m_wr_14) / 16)) + ((m_qa_89 - m_qa_81) / 16)) + ((m_qa_109 - m_qa_89) / 16)) (((zsx_14 + (2 * (m_qa_81 - m_wr_14))) + (2 * (m_qa_89 - m_qa_81))) + (2 * (m_qa_109 - m_qa_89))) [(r0, 2, 1, .int qc_109), (r0, 2, 0, .ref qa_109)] [] [] H_109 locs_109 := (hh_94.callG hb_1091 hb_1092 hb_1093 hb_1094 hb_1095 hS_109 rfl (L1 := []) [] rfl rfl (M1 := []) [] rfl rfl (I1 := []) [] rfl rfl).more hb_1096
                  have hNn_109 : (jNk [0, 1, 2, 3, 4, 5, 6, 7, 8, 9, 10, 11, 12, 13, 14, 15, 16]) G0 G_109 := (hNn_89).tr hN_109
                  have hg_111 := hb_1092 _ _ hg_91
                  have hg_112 := hb_1092 _ _ hg_92
                  have hd_113 := jOw.tr (hh_94.iv 0 rfl) hh_94.2.2.2.2.1 hbO_109
                  have hh_114 := hh_109.addI (jOw.ie (dC := dC) (dI := dI) (G0 := G0) (k := 2) (r := r0) (H0 := s.heap) (F := [(2, 0), (2, 1)]) (C := RX0) (T := TX0) (N := 2) rfl (by decide) hh_109.2.2.2.2.1 (hd_113))
                  clear hh_109
                  try simp only at hr_110
                  obtain ⟨hr_110_0, hr_110_1, hr_110_2, hr_110_3, hr_110_4⟩ := hr_110
                  refine lv_goto (tgt := 208) hx hb dX0_quoted_179 (by decide) ?_
                  obtain ⟨z_115, ez_115⟩ : ∃ y : Int32, y = v5_14 + 1 := ⟨_, rfl⟩
                  refine lv_iinc (v := z_115) (lv' := [(5, .int z_115), (0, .ref r0), (1, .ref r1), (2, .int a2), (3, .int a3), (4, .int z_11), (6, .int z_25)]) hx hb dX0_quoted_208 hl (k := 5) rfl (by rw [ez_115]; rfl) (by decide) rfl (fun ls hl => ?_)
                  have hz_115 : z_115.toInt = v5_14.toInt + 1 := by rw [ez_115]; exact jb_iadd2 (rfl) (by decide) (by omega)
                  refine lv_goto (tgt := 23) hx hb dX0_quoted_211 (by decide) ?_
                  refine W.tight (c2 := (((zcx_14 + ((m_qa_81 - m_wr_14) / 16)) + ((m_qa_89 - m_qa_81) / 16)) + ((m_qa_109 - m_qa_89) / 16))) (n2 := (((zsx_14 + (2 * (m_qa_81 - m_wr_14))) + (2 * (m_qa_89 - m_qa_81))) + (2 * (m_qa_109 - m_qa_89)))) hh_114.2.2.2.2.2.1 hh_114.2.2.2.2.2.2.1 ?_
                  exact L23 G_109 (((zcx_14 + ((m_qa_81 - m_wr_14) / 16)) + ((m_qa_89 - m_qa_81) / 16)) + ((m_qa_109 - m_qa_89) / 16)) (((zsx_14 + (2 * (m_qa_81 - m_wr_14))) + (2 * (m_qa_89 - m_qa_81))) + (2 * (m_qa_109 - m_qa_89))) z_115 qc_109 qa_109 m_qa_109 _ _ hh_114 (hNn_109) ((((hle_14).tr hb_812).tr hb_892).tr hb_1092) hgq_109_0 (by first | omega | (refine ⟨?_, ?_, ?_, ?_, ?_, ?_, ?_, ?_, ?_⟩ <;> (first | omega | rfl | assumption | decide | exact Or.inl rfl | exact Or.inr rfl | (simp only; omega)))) (by omega) _ (lv_sub hl [1, 2, 3, 4, 5, 0] rfl)
            · skip
              have c_44' : r_41.toInt ≠ 0 := jb_eq_n (rfl) ((by decide)) c_44
              refine lv_aload_n hx hb dX0_quoted_110 rfl (lv_at hl 0 rfl) ?_
              refine lv_ldc hx hb hown hcs_66 dX0_quoted_111 ?_
              have hsz_116 := hh_29.2.2.2.2.2.1
              have htt_116 := hh_29.2.2.2.2.2.2.1
              refine W.room (fun hrc_116 hrs_116 => ?_)
              refine va_callv (A0 := jA base) (H0 := s.heap) (va_runV (As := [.int 65533]) (rest := []) ⟨hx, hb, hml, hown, hts⟩ (uX0_character l dC dI ca base B hB hAp hB2 hB196 Gx_14 H_29 r0 65533 wc_14 wr_14 m_wr_14 LC LS) (cwV 1 hts (jgV (jWr_25 _ (List.mem_of_getElem? (i := 17) rfl)) (jWr_25 _ (List.mem_of_getElem? (i := 18) rfl)) (jWr_25 _ (List.mem_of_getElem? (i := 19) rfl)) (jWr_1 _ (List.mem_of_getElem? (i := 14) rfl)) (jWr_25 _ (List.mem_of_getElem? (i := 20) rfl))) rfl rfl rfl (by decide +kernel) ⟨by rw [← hR]; exact Nat.le_of_ble_eq_true rfl, by rw [← hR]; exact Nat.le_of_ble_eq_true rfl⟩) ⟨fun a U g mk q => by obtain ⟨q0, q1, q2, qK, q10, q11, q12, q13⟩ := q; exact ⟨q0, q1, q2, jG.calling g mk a qK, q10, q11, q12, q13⟩, hh_29.recv (C := RX0) (T := TX0) (N := 2) hB2 rfl (by decide) hg_15 hK, fun U hU hW => ⟨rfl, hU, hh_29.2.1, hG.step hW hU hh_29.1, hg_15, hg_wr_14, (hh_29.2.2.1.sub (L1 := [(r0, 2, 1, .int wc_14), (r0, 2, 0, .ref wr_14)]) [0, 1] rfl), (by omega), (by omega), by first | omega | (refine ⟨?_, ?_, ?_, ?_, ?_⟩ <;> (first | omega | rfl | assumption | decide | exact Or.inl rfl | exact Or.inr rfl | (simp only; omega)))⟩⟩ rfl rfl hl.1 rfl (lv_room (Nat.le_of_ble_eq_true rfl)) dX0_quoted_113 ⟨by rw [hRc]; omega, by rw [hRs]; omega⟩) hh_29.1 (fun q _ h => h) (fun q h => h) (fun u_116 t_116 H_116 locs_116 ht_116 hvm_116 hr_117 hb_116 hz_116 hk_116 hS_116 => ?_)
              obtain ⟨qc_116, qa_116, m_qa_116, G_116⟩ := u_116
              rw [ht_116] at hb_116
              simp only at hb_116
              obtain ⟨⟨hb_1161, hb_1162, hb_1163, hb_1164, hb_1165, hb_1166⟩, hgq_116_0, hN_116, hbO_116⟩ := hb_116
              have hh_116 : jSt (dC, dI) B base G0 G_116 EX0_quoted s.heap (zcx_14 + ((m_qa_116 - m_wr_14) / 16)) (zsx_14 + (2 * (m_qa_116 - m_wr_14))) [(r0, 2, 1, .int qc_116), (r0, 2, 0, .ref qa_116)] [] [] H_116 locs_116 := (hh_29.callG hb_1161 hb_1162 hb_1163 hb_1164 hb_1165 hS_116 rfl (L1 := []) [] rfl rfl (M1 := []) [] rfl rfl (I1 := []) [] rfl rfl).more hb_1166
              have hNn_116 : (jNk [0, 1, 2, 3, 4, 5, 6, 7, 8, 9, 10, 11, 12, 13, 14, 15, 16]) G0 G_116 := (hN_14).tr hN_116
              have hg_118 := hb_1162 _ _ hg_15
              have hg_119 := hb_1162 _ _ hg_16
              have hd_120 := jOw.tr (hh_29.iv 0 rfl) hh_29.2.2.2.2.1 hbO_116
              have hh_121 := hh_116.addI (jOw.ie (dC := dC) (dI := dI) (G0 := G0) (k := 2) (r := r0) (H0 := s.heap) (F := [(2, 0), (2, 1)]) (C := RX0) (T := TX0) (N := 2) rfl (by decide) hh_116.2.2.2.2.1 (hd_120))
              clear hh_116
              try simp only at hr_117
              obtain ⟨hr_117_0, hr_117_1, hr_117_2, hr_117_3, hr_117_4⟩ := hr_117
              refine lv_goto (tgt := 208) hx hb dX0_quoted_116 (by decide) ?_
              obtain ⟨z_122, ez_122⟩ : ∃ y : Int32, y = v5_14 + 1 := ⟨_, rfl⟩
              refine lv_iinc (v := z_122) (lv' := [(5, .int z_122), (0, .ref r0), (1, .ref r1), (2, .int a2), (3, .int a3), (4, .int z_11), (6, .int z_25)]) hx hb dX0_quoted_208 hl (k := 5) rfl (by rw [ez_122]; rfl) (by decide) rfl (fun ls hl => ?_)
              have hz_122 : z_122.toInt = v5_14.toInt + 1 := by rw [ez_122]; exact jb_iadd2 (rfl) (by decide) (by omega)
              refine lv_goto (tgt := 23) hx hb dX0_quoted_211 (by decide) ?_
              refine W.tight (c2 := (zcx_14 + ((m_qa_116 - m_wr_14) / 16))) (n2 := (zsx_14 + (2 * (m_qa_116 - m_wr_14)))) hh_121.2.2.2.2.2.1 hh_121.2.2.2.2.2.2.1 ?_
              exact L23 G_116 (zcx_14 + ((m_qa_116 - m_wr_14) / 16)) (zsx_14 + (2 * (m_qa_116 - m_wr_14))) z_122 qc_116 qa_116 m_qa_116 _ _ hh_121 (hNn_116) ((hle_14).tr hb_1162) hgq_116_0 (by first | omega | (refine ⟨?_, ?_, ?_, ?_, ?_, ?_, ?_, ?_, ?_⟩ <;> (first | omega | rfl | assumption | decide | exact Or.inl rfl | exact Or.inr rfl | (simp only; omega)))) (by omega) _ (lv_sub hl [1, 2, 3, 4, 5, 0] rfl)
        refine lv_if_eq (tgt := 94) hx hb dX0_quoted_41 (by decide) (fun c_123 => ?_) (fun c_123 => ?_)
        · skip
          have c_123' : r_26.toInt = 0 := jb_eq (rfl) ((by decide)) c_123
          refine W.tight (c2 := zcx_14) (n2 := zsx_14) hh_14.2.2.2.2.2.1 hh_14.2.2.2.2.2.2.1 ?_
          exact C94  _ _ hh_14 (trivial) _ (lv_sub hl [1, 2, 3, 4, 5, 6, 0] rfl)
        · skip
          have c_123' : r_26.toInt ≠ 0 := jb_eq_n (rfl) ((by decide)) c_123
          refine lv_iload hx hb dX0_quoted_44 (lv_at hl 6 rfl) ?_
          refine lv_iconst (v := 1) hx hb dX0_quoted_46 (by decide) ?_
          refine lv_iadd hx hb dX0_quoted_47 ?_
          refine lv_topi (fun z_124 ez_124 => ?_)
          have hz_124 : z_124.toInt = v5_14.toInt + 1 := by rw [ez_124]; exact jb_iadd2 (rfl) ((by decide)) (by omega)
          refine lv_iload hx hb dX0_quoted_48 (lv_at hl 5 rfl) ?_
          refine lv_icmp_ge (tgt := 94) hx hb dX0_quoted_50 (by decide) (fun c_125 => ?_) (fun c_125 => ?_)
          · skip
            have c_125' : z_124.toInt ≥ z_11.toInt := jb_ge (rfl) (rfl) c_125
            refine W.tight (c2 := zcx_14) (n2 := zsx_14) hh_14.2.2.2.2.2.1 hh_14.2.2.2.2.2.2.1 ?_
            exact C94  _ _ hh_14 (trivial) _ (lv_sub hl [1, 2, 3, 4, 5, 6, 0] rfl)
          · skip
            have c_125' : z_124.toInt < z_11.toInt := jb_ge_n (rfl) (rfl) c_125
            refine lv_aload_n hx hb dX0_quoted_53 rfl (lv_at hl 2 rfl) ?_
            refine lv_iload hx hb dX0_quoted_54 (lv_at hl 6 rfl) ?_
            refine lv_iconst (v := 1) hx hb dX0_quoted_56 (by decide) ?_
            refine lv_iadd hx hb dX0_quoted_57 ?_
            refine lv_topi (fun z_126 ez_126 => ?_)
            have hz_126 : z_126.toInt = v5_14.toInt + 1 := by rw [ez_126]; exact jb_iadd2 (rfl) ((by decide)) (by omega)
            refine j7_iald hx hb hK hh_14 hB101 1 rfl (by decide) hg_16 (x := z_126.toInt) (rfl) (by omega) dX0_quoted_58 (fun z_127 (hz_127 : True) => ?_)
            have hsz_130 := hh_14.2.2.2.2.2.1
            have htt_130 := hh_14.2.2.2.2.2.2.1
            refine W.room (fun hrc_130 hrs_130 => ?_)
            have hsz_129 := hh_14.2.2.2.2.2.1
            have htt_129 := hh_14.2.2.2.2.2.2.1
            refine W.room (fun hrc_129 hrs_129 => ?_)
            refine vp_callSi (W.runS (As := [.int z_127]) (rest := []) ⟨hx, hb, hml, hown, hts⟩ (wX0_isLow l dC dI ca base H_14 z_127) (va_cwS 1 hts (jgS (jWr_25 _ (List.mem_of_getElem? (i := 16) rfl)) (jWr_21 _ (List.mem_of_getElem? (i := 10) rfl)) (jWr_1 _ (List.mem_of_getElem? (i := 14) rfl)) (jWr_21 _ (List.mem_of_getElem? (i := 11) rfl))) rfl rfl rfl (by decide +kernel) ⟨by rw [← hR]; exact Nat.le_of_ble_eq_true rfl, by rw [← hR]; exact Nat.le_of_ble_eq_true rfl⟩) ⟨fun a U g mk q => by obtain ⟨q0, q1, qK, q9⟩ := q; exact ⟨q0, q1, jG.calling g mk a qK, q9⟩, fun U hU hW => ⟨rfl, hU, hG.step hW hU hh_14.1, by first | trivial | omega | (constructor <;> omega)⟩⟩ rfl rfl hl.1 rfl (lv_room (Nat.le_of_ble_eq_true rfl)) dX0_quoted_59 ⟨by rw [hRc]; omega, by rw [hRs]; omega⟩) (fun r_128 hr_128 => ?_)
            have hr_128' : r_128.toInt = 0 ∨ r_128.toInt = 1 := jb_01 hr_128
            refine lv_if_eq (tgt := 94) hx hb dX0_quoted_62 (by decide) (fun c_131 => ?_) (fun c_131 => ?_)
            · skip
              have c_131' : r_128.toInt = 0 := jb_eq (rfl) ((by decide)) c_131
              refine W.tight (c2 := zcx_14) (n2 := zsx_14) hh_14.2.2.2.2.2.1 hh_14.2.2.2.2.2.2.1 ?_
              exact C94  _ _ hh_14 (trivial) _ (lv_sub hl [1, 2, 3, 4, 5, 6, 0] rfl)
            · skip
              have c_131' : r_128.toInt ≠ 0 := jb_eq_n (rfl) ((by decide)) c_131
              obtain ⟨z_132, ez_132⟩ : ∃ y : Int32, y = v5_14 + 1 := ⟨_, rfl⟩
              refine lv_iinc (v := z_132) (lv' := [(5, .int z_132), (6, .int z_25), (0, .ref r0), (1, .ref r1), (2, .int a2), (3, .int a3), (4, .int z_11)]) hx hb dX0_quoted_65 hl (k := 6) rfl (by rw [ez_132]; rfl) (by decide) rfl (fun ls hl => ?_)
              have hz_132 : z_132.toInt = v5_14.toInt + 1 := by rw [ez_132]; exact jb_iadd2 (rfl) (by decide) (by omega)
              refine lv_aload_n hx hb dX0_quoted_68 rfl (lv_at hl 2 rfl) ?_
              refine lv_ldc hx hb hown hcs_60 dX0_quoted_69 ?_
              refine lv_iload hx hb dX0_quoted_71 (lv_at hl 1 rfl) ?_
              refine lv_ldc hx hb hown hcs_61 dX0_quoted_73 ?_
              refine lv_isub hx hb dX0_quoted_75 ?_
              refine lv_topi (fun z_133 ez_133 => ?_)
              refine lv_bipush (v := 10) hx hb dX0_quoted_76 (by decide) ?_
              refine lv_ishl hx hb dX0_quoted_78 ?_
              refine lv_topi (fun z_134 ez_134 => ?_)
              refine lv_iadd hx hb dX0_quoted_79 ?_
              refine lv_topi (fun z_135 ez_135 => ?_)
              refine lv_aload_n hx hb dX0_quoted_80 rfl (lv_at hl 3 rfl) ?_
              refine lv_iload hx hb dX0_quoted_81 (lv_at hl 0 rfl) ?_
              refine j7_iald hx hb hK hh_14 hB101 1 rfl (by decide) hg_16 (x := z_132.toInt) (rfl) (by omega) dX0_quoted_83 (fun z_136 (hz_136 : True) => ?_)
              refine lv_iadd hx hb dX0_quoted_84 ?_
              refine lv_topi (fun z_137 ez_137 => ?_)
              refine lv_ldc hx hb hown hcs_62 dX0_quoted_85 ?_
              refine lv_isub hx hb dX0_quoted_87 ?_
              refine lv_topi (fun z_138 ez_138 => ?_)
              have hsz_139 := hh_14.2.2.2.2.2.1
              have htt_139 := hh_14.2.2.2.2.2.2.1
              refine W.room (fun hrc_139 hrs_139 => ?_)
              refine va_callv (A0 := jA base) (H0 := s.heap) (va_runV (As := [.int z_138]) (rest := []) ⟨hx, hb, hml, hown, hts⟩ (uX0_character l dC dI ca base B hB hAp hB2 hB196 Gx_14 H_14 r0 z_138 wc_14 wr_14 m_wr_14 LC LS) (cwV 1 hts (jgV (jWr_25 _ (List.mem_of_getElem? (i := 17) rfl)) (jWr_25 _ (List.mem_of_getElem? (i := 18) rfl)) (jWr_25 _ (List.mem_of_getElem? (i := 19) rfl)) (jWr_1 _ (List.mem_of_getElem? (i := 14) rfl)) (jWr_25 _ (List.mem_of_getElem? (i := 20) rfl))) rfl rfl rfl (by decide +kernel) ⟨by rw [← hR]; exact Nat.le_of_ble_eq_true rfl, by rw [← hR]; exact Nat.le_of_ble_eq_true rfl⟩) ⟨fun a U g mk q => by obtain ⟨q0, q1, q2, qK, q10, q11, q12, q13⟩ := q; exact ⟨q0, q1, q2, jG.calling g mk a qK, q10, q11, q12, q13⟩, hh_14.recv (C := RX0) (T := TX0) (N := 2) hB2 rfl (by decide) hg_15 hK, fun U hU hW => ⟨rfl, hU, hh_14.2.1, hG.step hW hU hh_14.1, hg_15, hg_wr_14, (hh_14.2.2.1.sub (L1 := [(r0, 2, 1, .int wc_14), (r0, 2, 0, .ref wr_14)]) [0, 1] rfl), (by omega), (by omega), by first | omega | (refine ⟨?_, ?_, ?_, ?_, ?_⟩ <;> (first | omega | rfl | assumption | decide | exact Or.inl rfl | exact Or.inr rfl | (simp only; omega)))⟩⟩ rfl rfl hl.1 rfl (lv_room (Nat.le_of_ble_eq_true rfl)) dX0_quoted_88 ⟨by rw [hRc]; omega, by rw [hRs]; omega⟩) hh_14.1 (fun q _ h => h) (fun q h => h) (fun u_139 t_139 H_139 locs_139 ht_139 hvm_139 hr_140 hb_139 hz_139 hk_139 hS_139 => ?_)
              obtain ⟨qc_139, qa_139, m_qa_139, G_139⟩ := u_139
              rw [ht_139] at hb_139
              simp only at hb_139
              obtain ⟨⟨hb_1391, hb_1392, hb_1393, hb_1394, hb_1395, hb_1396⟩, hgq_139_0, hN_139, hbO_139⟩ := hb_139
              have hh_139 : jSt (dC, dI) B base G0 G_139 EX0_quoted s.heap (zcx_14 + ((m_qa_139 - m_wr_14) / 16)) (zsx_14 + (2 * (m_qa_139 - m_wr_14))) [(r0, 2, 1, .int qc_139), (r0, 2, 0, .ref qa_139)] [] [] H_139 locs_139 := (hh_14.callG hb_1391 hb_1392 hb_1393 hb_1394 hb_1395 hS_139 rfl (L1 := []) [] rfl rfl (M1 := []) [] rfl rfl (I1 := []) [] rfl rfl).more hb_1396
              have hNn_139 : (jNk [0, 1, 2, 3, 4, 5, 6, 7, 8, 9, 10, 11, 12, 13, 14, 15, 16]) G0 G_139 := (hN_14).tr hN_139
              have hg_141 := hb_1392 _ _ hg_15
              have hg_142 := hb_1392 _ _ hg_16
              have hd_143 := jOw.tr (hh_14.iv 0 rfl) hh_14.2.2.2.2.1 hbO_139
              have hh_144 := hh_139.addI (jOw.ie (dC := dC) (dI := dI) (G0 := G0) (k := 2) (r := r0) (H0 := s.heap) (F := [(2, 0), (2, 1)]) (C := RX0) (T := TX0) (N := 2) rfl (by decide) hh_139.2.2.2.2.1 (hd_143))
              clear hh_139
              try simp only at hr_140
              obtain ⟨hr_140_0, hr_140_1, hr_140_2, hr_140_3, hr_140_4⟩ := hr_140
              refine lv_goto (tgt := 208) hx hb dX0_quoted_91 (by decide) ?_
              obtain ⟨z_145, ez_145⟩ : ∃ y : Int32, y = z_132 + 1 := ⟨_, rfl⟩
              refine lv_iinc (v := z_145) (lv' := [(5, .int z_145), (6, .int z_25), (0, .ref r0), (1, .ref r1), (2, .int a2), (3, .int a3), (4, .int z_11)]) hx hb dX0_quoted_208 hl (k := 0) rfl (by rw [ez_145]; rfl) (by decide) rfl (fun ls hl => ?_)
              have hz_145 : z_145.toInt = z_132.toInt + 1 := by rw [ez_145]; exact jb_iadd2 (rfl) (by decide) (by omega)
              refine lv_goto (tgt := 23) hx hb dX0_quoted_211 (by decide) ?_
              refine W.tight (c2 := (zcx_14 + ((m_qa_139 - m_wr_14) / 16))) (n2 := (zsx_14 + (2 * (m_qa_139 - m_wr_14)))) hh_144.2.2.2.2.2.1 hh_144.2.2.2.2.2.2.1 ?_
              exact L23 G_139 (zcx_14 + ((m_qa_139 - m_wr_14) / 16)) (zsx_14 + (2 * (m_qa_139 - m_wr_14))) z_145 qc_139 qa_139 m_qa_139 _ _ hh_144 (hNn_139) ((hle_14).tr hb_1392) hgq_139_0 (by first | omega | (refine ⟨?_, ?_, ?_, ?_, ?_, ?_, ?_, ?_, ?_⟩ <;> (first | omega | rfl | assumption | decide | exact Or.inl rfl | exact Or.inr rfl | (simp only; omega)))) (by omega) _ (lv_sub hl [2, 3, 4, 5, 6, 0] rfl)
  refine W.tight (c2 := (0 + ((m_qa_2 - n_pa) / 16))) (n2 := (0 + (2 * (m_qa_2 - n_pa)))) hh_7.2.2.2.2.2.1 hh_7.2.2.2.2.2.2.1 ?_
  exact L23 (((z_11.toInt - (z_13 : Int32).toInt).toNat : Int) : Int).toNat.succ G_2 (0 + ((m_qa_2 - n_pa) / 16)) (0 + (2 * (m_qa_2 - n_pa))) z_13 qc_2 qa_2 m_qa_2 _ _ hh_7 (hNn_2) (jLe.rf) hgq_2_0 (by first | omega | (refine ⟨?_, ?_, ?_, ?_, ?_, ?_, ?_, ?_, ?_⟩ <;> (first | omega | rfl | assumption | decide | exact Or.inl rfl | exact Or.inr rfl | (simp only; omega)))) (by omega) _ (lv_sub hl [2, 3, 4, 5, 1, 0] rfl)
