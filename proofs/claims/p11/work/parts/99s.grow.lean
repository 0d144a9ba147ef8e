def EJ5_ensureCapacityInternal_d00dfM : List (Nat × Nat) := [(0, 0)]
def EJ5_append_3fe6fM : List (Nat × Nat) := [(0, 0), (0, 3), (196, 0)]
def EJ4_append_cf468M : List (Nat × Nat) := [(0, 0), (0, 3), (196, 0)]
set_option maxHeartbeats 4000000 in
set_option maxRecDepth 20000 in
theorem uJ5_ensureCapacityInternal_d00dfM (l : Launch) (dC : Nat → ClassId) (dI : Nat → Nat → Nat) (ca : Nat → ClassId) (base : Nat) (B : jF) (hB : jBok B) (hAp : jAp (dC, dI)) (hB0 : ∀ n G a H, B 0 n G a H ↔ jOb (dC, dI) 0 4 (Fz0 n G) a H) (hB196 : ∀ n G a H, B 196 n G a H ↔ jAr (dC, dI) (ca 0) (fun j z => jBf j z) n a H) (G0 : jT) (H0 : Heap) (r0 : Nat) (a1 : Int32) (pc : Int32) (pa : Nat) (n_pa : Nat) (LC LS : Nat) : Met l yJ5_ensureCapacityInternal_d00df (jw yJ5_ensureCapacityInternal_d00df cJ5_ensureCapacityInternal_d00df 3 none) ({ frames := 3, cells := LC - H0.size, slots := LS - jTot H0, locals := 80 }) (va_Pc [.ref r0, .int a1] (fun U => U.heap = H0 ∧ jX B base G0 [] H0 ∧ jG dC dI ca base U ∧ G0 r0 = some (0, 0) ∧ G0 pa = some (196, n_pa) ∧ jP (dC, dI) G0 H0 [(r0, 0, 3, .int pc), (r0, 0, 0, .ref pa)] ∧ H0.size + (n_pa + 2) ≤ LC ∧ jTot H0 + (2 * n_pa + 4) ≤ LS ∧ 0 ≤ a1.toInt ∧ a1.toInt ≤ n_pa + 1 ∧ 16 ≤ n_pa ∧ n_pa ≤ 400)) (va_Qv (S := Nat × Nat × jT) (fun u => a1.toInt ≤ u.2.1 ∧ n_pa ≤ u.2.1 ∧ u.2.1 ≤ n_pa + n_pa + 2 ∧ (u.2.1 ≤ n_pa ∨ n_pa < a1.toInt)) (fun u t => jRa (dC, dI) B base G0 u.2.2 EJ5_ensureCapacityInternal_d00dfM H0 (u.2.1 - n_pa) (2 * (u.2.1 - n_pa)) [(r0, 0, 0, .ref u.1)] t.heap ∧ u.2.2 u.1 = some (196, u.2.1) ∧ (jNk [0, 1, 2, 3, 4, 5, 6, 7, 8, 9, 10, 11, 12, 13, 14, 15, 16]) G0 u.2.2 ∧ jOw (dC, dI) G0 0 r0 H0 t.heap) (jA base)) (LC - H0.size) (LS - jTot H0) (jA base) := by
  refine Met.ofW (cc := cJ5_ensureCapacityInternal_d00df) (maxL := 3) (ret := none) (by decide) rfl ?_
  intro p e s m args below meth c s₁ Bd hml hv
  obtain ⟨rfl, hH0, hX, hG, hg_r0, hg_pa, hP0, hLC0, hLS0, hp0, hp1, hp2, hp3⟩ := hv
  have hK := hG.1
  have hx := Bd.exec
  have hb := Bd.bytes
  have hr := Bd.returns
  have hts := atoms_spec (ws := (jw yJ5_ensureCapacityInternal_d00df cJ5_ensureCapacityInternal_d00df 3 none)) Bd.pre
  have htw : ∀ w ∈ jWl, w.before _ s = true := fun w h => hts w (List.mem_cons_of_mem _ h)
  have hown : s.vm.findClass RJ5 = some m.cls := findClass_of_methodNamed Bd.named
  have hlocks := Bd.notSynchronized
  obtain ⟨Q, hQ⟩ : ∃ Q, Q = MQ below (va_Qv (S := Nat × Nat × jT) (fun u => a1.toInt ≤ u.2.1 ∧ n_pa ≤ u.2.1 ∧ u.2.1 ≤ n_pa + n_pa + 2 ∧ (u.2.1 ≤ n_pa ∨ n_pa < a1.toInt)) (fun u t => jRa (dC, dI) B base G0 u.2.2 EJ5_ensureCapacityInternal_d00dfM H0 (u.2.1 - n_pa) (2 * (u.2.1 - n_pa)) [(r0, 0, 0, .ref u.1)] t.heap ∧ u.2.2 u.1 = some (196, u.2.1) ∧ (jNk [0, 1, 2, 3, 4, 5, 6, 7, 8, 9, 10, 11, 12, 13, 14, 15, 16]) G0 u.2.2 ∧ jOw (dC, dI) G0 0 r0 H0 t.heap) (jA base)) ([.ref r0, .int a1] : List Value).toArray s (LC - H0.size) (LS - jTot H0) (jA base) := ⟨_, rfl⟩
  rw [← hQ]
  have hl := lv_entry ([.ref r0, .int a1]) (n := 3) (Nat.le_of_ble_eq_true rfl)
  rw [lg_entry_eq]
  generalize (lg_sl ([.ref r0, .int a1]) ++ List.replicate (3 - (lg_sl ([.ref r0, .int a1])).length) Slot.unset).toArray = ls at hl ⊢
  have hl : lv_has ls 3 [(0, .ref r0), (1, .int a1)] := hl
  generalize hR : (headSpec (jw yJ5_ensureCapacityInternal_d00df cJ5_ensureCapacityInternal_d00df 3 none) ({ frames := 3, cells := LC - H0.size, slots := LS - jTot H0, locals := 80 })).room = R
  subst hH0
  have hh : jSt (dC, dI) B base G0 G0 EJ5_ensureCapacityInternal_d00dfM s.heap 0 0 [(r0, 0, 3, .int pc), (r0, 0, 0, .ref pa)] [] [] s.heap [] := jSt.start hX hP0 jMc.nil jIs.nil
  clear hX hP0
  have hk0 : (0 : Int32).toInt = 0 := by decide
  have hk1 : (1 : Int32).toInt = 1 := by decide
  have hly_0_0 := htw (u_lay RJ4 TJ4 0) (jWc_wsJ40 _ (u_in_lay (by decide)))
  have hly_0_1 := htw (u_lay RJ4 TJ4 1) (jWc_wsJ40 _ (u_in_lay (by decide)))
  have hlk_15 := (htw (.fieldLink RJ5 15 "java/lang/AbstractStringBuilder" "value" "[B") (jWr_13 _ (List.mem_of_getElem? (i := 11) rfl)))
  have hlk_22 := (htw (.fieldLink RJ5 22 "java/lang/AbstractStringBuilder" "coder" "B") (jWr_13 _ (List.mem_of_getElem? (i := 12) rfl)))
  have hrg_a1 := jb_rng a1
  have hbs : base ≤ s.heap.size := Nat.le_of_lt (Nat.lt_of_le_of_lt (hh.ab hg_r0).1 (hh.ab hg_r0).2)
  have hRc : R.cells = LC - s.heap.size := by rw [← hR]; rfl
  have hRs : R.slots = LS - jTot s.heap := by rw [← hR]; rfl
  have hh_1 := hh.addI (jOw.ie (dC := dC) (dI := dI) (G0 := G0) (k := 0) (r := r0) (H0 := s.heap) (F := [(0, 0), (0, 1), (0, 2), (0, 3)]) (C := RJ4) (T := TJ4) (N := 4) rfl (by decide) hh.2.2.2.2.1 (jOw.rf))
  clear hh
  refine lv_aload_n hx hb dJ5_ensureCapacityInternal_d00df_0 rfl (lv_at hl 0 rfl) ?_
  refine j7_read hx hb hown hK (C := RJ4) (T := TJ4) (N := 4) rfl hly_0_0 hlk_15 (hh_1.at 1 rfl) dJ5_ensureCapacityInternal_d00df_1 ?_
  refine j7_len hx hb hK hh_1 hB196 0 rfl (by decide) hg_pa (by omega) dJ5_ensureCapacityInternal_d00df_4 (fun z_2 hz_2 => ?_)
  refine lv_aload_n hx hb dJ5_ensureCapacityInternal_d00df_5 rfl (lv_at hl 0 rfl) ?_
  obtain ⟨v_3, hv_3, hh_4⟩ := hh_1.pin (C := RJ4) (T := TJ4) (N := 4) hB0 rfl (by decide) hg_r0 (i := 1) (by decide) rfl
  clear hh_1
  obtain ⟨coder_5, rfl, hlocoder_5, hhicoder_5⟩ := hv_3
  obtain rfl : coder_5 = 0 := Int32.toInt_inj.mp (by rw [show (0 : Int32).toInt = 0 by decide]; omega)
  refine j7_read hx hb hown hK (C := RJ4) (T := TJ4) (N := 4) rfl hly_0_1 hlk_22 (hh_4.at 0 rfl) dJ5_ensureCapacityInternal_d00df_6 ?_
  refine lv_ishr hx hb dJ5_ensureCapacityInternal_d00df_9 ?_
  refine lv_topi (fun z_6 ez_6 => ?_)
  have hz_6 : z_6.toInt = z_2.toInt / 2 ^ 0 := by rw [ez_6]; exact jb_ishr 0 (rfl) (by decide)
  refine lv_istore_n (lv' := [(2, .int z_6), (0, .ref r0), (1, .int a1)]) hx hb dJ5_ensureCapacityInternal_d00df_10 rfl hl (by decide) rfl (fun ls hl => ?_)
  refine lv_iload_n hx hb dJ5_ensureCapacityInternal_d00df_11 rfl (lv_at hl 2 rfl) ?_
  refine lv_iload_n hx hb dJ5_ensureCapacityInternal_d00df_12 rfl (lv_at hl 0 rfl) ?_
  refine lv_isub hx hb dJ5_ensureCapacityInternal_d00df_13 ?_
  refine lv_topi (fun z_7 ez_7 => ?_)
  have hz_7 : z_7.toInt = a1.toInt - z_6.toInt := by rw [ez_7]; exact jb_isub2 (rfl) (rfl) (by omega)
  refine lv_if_le (tgt := 38) hx hb dJ5_ensureCapacityInternal_d00df_14 (by decide) (fun c_8 => ?_) (fun c_8 => ?_)
  · skip
    have c_8' : z_7.toInt ≤ 0 := jb_le (rfl) ((by decide)) c_8
    have hsz_9 := hh_4.2.2.2.2.2.1
    have htt_9 := hh_4.2.2.2.2.2.2.1
    refine W.room (fun hrc_9 hrs_9 => ?_)
    refine W.widen (k := LC - s.heap.size) (n := LS - jTot s.heap) (by omega) (by omega) ?_
    rw [hQ]
    exact W.vret hx hb hr (fun t ht hW => ⟨⟨(pa, n_pa, G0), rfl, by (try dsimp only); exact ⟨(by first | omega | rfl | assumption | fail), (by first | omega | rfl | assumption | fail), (by first | omega | rfl | assumption | fail), (by first | omega | rfl | assumption | fail)⟩, ⟨hh_4.ra (by first | (simp only; omega) | omega) (by first | (simp only; omega) | omega) (M1 := [(r0, 0, 0, .ref pa)]) [2] rfl ht, hg_pa, jNk.rf, by rw [ht]; exact hh_4.iv 0 rfl⟩⟩, by rw [ht]; try exact hh_4.1.1, fun q h9 hq => by rw [ht]; try exact hh_4.1.2.1 q h9 hq⟩) hh_4.1.2.2 dJ5_ensureCapacityInternal_d00df_38
  · skip
    have c_8' : z_7.toInt > 0 := jb_le_n (rfl) ((by decide)) c_8
    refine lv_aload_n hx hb dJ5_ensureCapacityInternal_d00df_17 rfl (lv_at hl 1 rfl) ?_
    refine lv_aload_n hx hb dJ5_ensureCapacityInternal_d00df_18 rfl (lv_at hl 1 rfl) ?_
    refine j7_read hx hb hown hK (C := RJ4) (T := TJ4) (N := 4) rfl hly_0_0 hlk_15 (hh_4.at 2 rfl) dJ5_ensureCapacityInternal_d00df_19 ?_
    refine lv_aload_n hx hb dJ5_ensureCapacityInternal_d00df_22 rfl (lv_at hl 1 rfl) ?_
    refine lv_iload_n hx hb dJ5_ensureCapacityInternal_d00df_23 rfl (lv_at hl 2 rfl) ?_
    have hsz_10 := hh_4.2.2.2.2.2.1
    have htt_10 := hh_4.2.2.2.2.2.2.1
    refine W.room (fun hrc_10 hrs_10 => ?_)
    refine va_calli (A0 := jA base) (H0 := s.heap) (va_runU (As := [.int a1]) (rest := [.ref pa, .ref r0]) ⟨hx, hb, hml, hown, hts⟩ (uJ5_newCapacity_0f7a4 l dC dI ca base B hB hAp hB0 hB196 G0 s.heap r0 a1 pc pa n_pa) (va_cwU 1 hts (jgX (jWr_45 _ (List.mem_of_getElem? (i := 16) rfl)) (jWr_45 _ (List.mem_of_getElem? (i := 17) rfl)) (jWr_45 _ (List.mem_of_getElem? (i := 18) rfl)) (jWr_45 _ (List.mem_of_getElem? (i := 19) rfl)) (jWr_13 _ (List.mem_of_getElem? (i := 7) rfl)) (jWr_45 _ (List.mem_of_getElem? (i := 20) rfl))) rfl rfl rfl rfl (by decide +kernel) ⟨by rw [← hR]; exact Nat.le_of_ble_eq_true rfl, by rw [← hR]; exact Nat.le_of_ble_eq_true rfl⟩) ⟨fun a U g mk q => by obtain ⟨q0, q1, q2, qK, q10, q11, q12, q13⟩ := q; exact ⟨q0, q1, q2, jG.calling g mk a qK, q10, q11, q12, q13⟩, hh_4.recv (C := RJ4) (T := TJ4) (N := 4) hB0 rfl (by decide) hg_r0 hK, fun U hU hW => ⟨rfl, hU, hh_4.2.1, hG.step hW hU hh_4.1, hg_r0, hg_pa, (hh_4.2.2.1.sub (L1 := [(r0, 0, 3, .int pc), (r0, 0, 0, .ref pa)]) [1, 2] rfl), by first | omega | (refine ⟨?_, ?_, ?_⟩ <;> (first | omega | rfl | assumption | decide | exact Or.inl rfl | exact Or.inr rfl | (simp only; omega)))⟩⟩ rfl rfl hl.1 rfl (lv_room (Nat.le_of_ble_eq_true rfl)) dJ5_ensureCapacityInternal_d00df_24 ⟨by rw [hRc]; show _ + 0 ≤ _; omega, by rw [hRs]; show _ + 0 ≤ _; omega⟩) hh_4.1 (fun q _ h => h) (fun q h => h) (fun r_11 u_10 t_10 H_10 locs_10 ht_10 hvm_10 hr_11 hb_10 hz_10 hk_10 hS_10 => ?_)
    rw [ht_10] at hb_10
    obtain ⟨hb_101, hb_102, hb_103, hb_104, hb_105⟩ := hb_10
    have hh_10 : jSt (dC, dI) B base G0 G0 EJ5_ensureCapacityInternal_d00dfM s.heap 0 0 [(r0, 0, 1, .int 0), (r0, 0, 3, .int pc), (r0, 0, 0, .ref pa)] [] [([(0, 0), (0, 1), (0, 2), (0, 3)], jOw (dC, dI) G0 0 r0 s.heap)] H_10 locs_10 := ((hh_4.call hb_101 hb_102 hb_103 hb_104 hS_10 rfl (L1 := [(r0, 0, 1, .int 0), (r0, 0, 3, .int pc), (r0, 0, 0, .ref pa)]) [0, 1, 2] rfl rfl (M1 := []) [] rfl rfl (I1 := [([(0, 0), (0, 1), (0, 2), (0, 3)], jOw (dC, dI) G0 0 r0 s.heap)]) [0] rfl rfl).more hb_105)
    clear hh_4 ht_10 hvm_10 hz_10 hk_10 hS_10 hb_101 hb_102 hb_103 hb_104 hb_105
    obtain ⟨hr_11_0, hr_11_1, hr_11_2⟩ := hr_11
    refine lv_aload_n hx hb dJ5_ensureCapacityInternal_d00df_27 rfl (lv_at hl 1 rfl) ?_
    refine j7_read hx hb hown hK (C := RJ4) (T := TJ4) (N := 4) rfl hly_0_1 hlk_22 (hh_10.at 0 rfl) dJ5_ensureCapacityInternal_d00df_28 ?_
    refine lv_ishl hx hb dJ5_ensureCapacityInternal_d00df_31 ?_
    refine lv_topi (fun z_12 ez_12 => ?_)
    have hz_12 : z_12.toInt = r_11.toInt := by rw [ez_12, jb_shl0]; try exact rfl
    obtain ⟨nc_14, enc_14⟩ : ∃ q : Nat, q = (z_12.toInt).toNat := ⟨_, rfl⟩
    have hsz_13 := hh_10.2.2.2.2.2.1
    have htt_13 := hh_10.2.2.2.2.2.2.1
    refine j7_copyb (LC := LC) (LS := LS) (n1 := nc_14) ⟨hx, hb, hml, hown, hts⟩ hK hG hh_10 hB hB196 (by decide) hbs hg_pa (by omega) (by omega) (by omega) (by omega) (by omega) hRc hRs (va_cwS 2 hts (jgS (jWr_45 _ (List.mem_of_getElem? (i := 23) rfl)) (jWr_16 _ (List.mem_of_getElem? (i := 6) rfl)) (jWr_16 _ (List.mem_of_getElem? (i := 7) rfl)) (jWr_16 _ (List.mem_of_getElem? (i := 8) rfl))) rfl rfl rfl (by decide +kernel) ⟨by rw [← hR]; exact Nat.le_of_ble_eq_true rfl, by rw [← hR]; exact Nat.le_of_ble_eq_true rfl⟩) hl.1 (Nat.le_of_ble_eq_true rfl) dJ5_ensureCapacityInternal_d00df_32 (fun H_13 locs_13 hsy_13 hty_13 hh_13 => ?_)
    have hN_13 : (jNk [0, 1, 2, 3, 4, 5, 6, 7, 8, 9, 10, 11, 12, 13, 14, 15, 16]) G0 (va_up G0 H_10.size (some (196, nc_14))) := jNk.new (by decide)
    have hgn_13 : (va_up G0 H_10.size (some (196, nc_14))) H_10.size = some (196, nc_14) := jUp_self
    have hle_13 : jLe G0 (va_up G0 H_10.size (some (196, nc_14))) := jLe.new hh_10.2.1.fresh
    generalize va_up G0 H_10.size (some (196, nc_14)) = G_13 at hN_13 hgn_13 hle_13 hh_13
    clear hh_10
    have hNn_13 : (jNk [0, 1, 2, 3, 4, 5, 6, 7, 8, 9, 10, 11, 12, 13, 14, 15, 16]) G0 G_13 := (jNk.rf).tr hN_13
    have hg_15 := hle_13 _ _ hg_r0
    have hg_16 := hle_13 _ _ hg_pa
    have hd_18 := hh_13.iv 0 rfl
    have hh_19 := hh_13.sub (L1 := [(r0, 0, 1, .int 0), (r0, 0, 3, .int pc), (r0, 0, 0, .ref pa)]) [0, 1, 2] rfl (M1 := []) [] rfl (I1 := []) [] rfl
    clear hh_13
    refine j7_putX hx hb hown hK hh_19 hB hAp hB0 (C := RJ4) (T := TJ4) (N := 4) rfl (by decide) hg_15 (i := 0) (by decide) hly_0_0 rfl hlk_15 rfl (ty := (.array .byte)) (v := .ref H_10.size) (by decide +kernel) rfl rfl (⟨_, _, rfl, hgn_13, by omega⟩) rfl (L1 := [(r0, 0, 1, .int 0), (r0, 0, 3, .int pc)]) [0, 1] rfl rfl rfl dJ5_ensureCapacityInternal_d00df_35 (fun H_17 locs_17 hr_17 hh_17 => ?_)
    clear hh_19
    have hd_18n := jOw.put hd_18 hr_17
    have hh_20 := hh_17.addI (jOw.ie (dC := dC) (dI := dI) (G0 := G0) (k := 0) (r := r0) (H0 := s.heap) (F := [(0, 0), (0, 1), (0, 2), (0, 3)]) (C := RJ4) (T := TJ4) (N := 4) rfl (by decide) hh_17.2.2.2.2.1 (hd_18n))
    clear hh_17
    clear hd_18 hd_18n hr_17
    have hsz_21 := hh_20.2.2.2.2.2.1
    have htt_21 := hh_20.2.2.2.2.2.2.1
    refine W.room (fun hrc_21 hrs_21 => ?_)
    refine W.widen (k := LC - s.heap.size) (n := LS - jTot s.heap) (by omega) (by omega) ?_
    rw [hQ]
    exact W.vret hx hb hr (fun t ht hW => ⟨⟨(H_10.size, nc_14, G_13), rfl, by (try dsimp only); exact ⟨(by first | omega | rfl | assumption | fail), (by first | omega | rfl | assumption | fail), (by first | omega | rfl | assumption | fail), (by first | omega | rfl | assumption | fail)⟩, ⟨hh_20.ra (by first | (simp only; omega) | omega) (by first | (simp only; omega) | omega) (M1 := [(r0, 0, 0, .ref H_10.size)]) [0] rfl ht, hgn_13, hNn_13, by rw [ht]; exact hh_20.iv 0 rfl⟩⟩, by rw [ht]; try exact hh_20.1.1, fun q h9 hq => by rw [ht]; try exact hh_20.1.2.1 q h9 hq⟩) hh_20.1.2.2 dJ5_ensureCapacityInternal_d00df_38
set_option maxHeartbeats 4000000 in
set_option maxRecDepth 20000 in
theorem uJ5_append_3fe6fM (l : Launch) (dC : Nat → ClassId) (dI : Nat → Nat → Nat) (ca : Nat → ClassId) (base : Nat) (B : jF) (hB : jBok B) (hAp : jAp (dC, dI)) (hB0 : ∀ n G a H, B 0 n G a H ↔ jOb (dC, dI) 0 4 (Fz0 n G) a H) (hB196 : ∀ n G a H, B 196 n G a H ↔ jAr (dC, dI) (ca 0) (fun j z => jBf j z) n a H) (G0 : jT) (H0 : Heap) (r0 : Nat) (a1 : Int32) (pc : Int32) (pa : Nat) (n_pa : Nat) (LC LS : Nat) : Met l yJ5_append_3fe6f (jw yJ5_append_3fe6f cJ5_append_3fe6f 2 (some (.object "java/lang/AbstractStringBuilder"))) ({ frames := 4, cells := LC - H0.size, slots := LS - jTot H0, locals := 102 }) (va_Pc [.ref r0, .int a1] (fun U => U.heap = H0 ∧ jX B base G0 [] H0 ∧ jG dC dI ca base U ∧ G0 r0 = some (0, 0) ∧ G0 pa = some (196, n_pa) ∧ jP (dC, dI) G0 H0 [(r0, 0, 3, .int pc), (r0, 0, 0, .ref pa)] ∧ H0.size + (n_pa + 2) ≤ LC ∧ jTot H0 + (2 * n_pa + 4) ≤ LS ∧ 0 ≤ pc.toInt ∧ pc.toInt ≤ n_pa ∧ 16 ≤ n_pa ∧ n_pa ≤ 400 ∧ 0 ≤ a1.toInt ∧ a1.toInt ≤ 255)) (jQx (S := Int32 × Nat × Nat × jT) (fun v u => jRf G0 0 0 v ∧ u.1.toInt = pc.toInt + 1 ∧ u.1.toInt ≤ u.2.2.1 ∧ n_pa ≤ u.2.2.1 ∧ u.2.2.1 ≤ n_pa + n_pa + 2 ∧ (u.2.2.1 ≤ n_pa ∨ n_pa ≤ pc.toInt)) (fun u t => jRa (dC, dI) B base G0 u.2.2.2 EJ5_append_3fe6fM H0 (u.2.2.1 - n_pa) (2 * (u.2.2.1 - n_pa)) [(r0, 0, 3, .int u.1), (r0, 0, 0, .ref u.2.1)] t.heap ∧ u.2.2.2 u.2.1 = some (196, u.2.2.1) ∧ (jNk [0, 1, 2, 3, 4, 5, 6, 7, 8, 9, 10, 11, 12, 13, 14, 15, 16]) G0 u.2.2.2 ∧ jOw (dC, dI) G0 0 r0 H0 t.heap) (jA base)) (LC - H0.size) (LS - jTot H0) (jA base) := by
  refine Met.ofW (cc := cJ5_append_3fe6f) (maxL := 2) (ret := (some (.object "java/lang/AbstractStringBuilder"))) (by decide) rfl ?_
  intro p e s m args below meth c s₁ Bd hml hv
  obtain ⟨rfl, hH0, hX, hG, hg_r0, hg_pa, hP0, hLC0, hLS0, hp0, hp1, hp2, hp3, hp4, hp5⟩ := hv
  have hK := hG.1
  have hx := Bd.exec
  have hb := Bd.bytes
  have hr := Bd.returns
  have hts := atoms_spec (ws := (jw yJ5_append_3fe6f cJ5_append_3fe6f 2 (some (.object "java/lang/AbstractStringBuilder")))) Bd.pre
  have htw : ∀ w ∈ jWl, w.before _ s = true := fun w h => hts w (List.mem_cons_of_mem _ h)
  have hown : s.vm.findClass RJ5 = some m.cls := findClass_of_methodNamed Bd.named
  have hlocks := Bd.notSynchronized
  obtain ⟨Q, hQ⟩ : ∃ Q, Q = MQ below (jQx (S := Int32 × Nat × Nat × jT) (fun v u => jRf G0 0 0 v ∧ u.1.toInt = pc.toInt + 1 ∧ u.1.toInt ≤ u.2.2.1 ∧ n_pa ≤ u.2.2.1 ∧ u.2.2.1 ≤ n_pa + n_pa + 2 ∧ (u.2.2.1 ≤ n_pa ∨ n_pa ≤ pc.toInt)) (fun u t => jRa (dC, dI) B base G0 u.2.2.2 EJ5_append_3fe6fM H0 (u.2.2.1 - n_pa) (2 * (u.2.2.1 - n_pa)) [(r0, 0, 3, .int u.1), (r0, 0, 0, .ref u.2.1)] t.heap ∧ u.2.2.2 u.2.1 = some (196, u.2.2.1) ∧ (jNk [0, 1, 2, 3, 4, 5, 6, 7, 8, 9, 10, 11, 12, 13, 14, 15, 16]) G0 u.2.2.2 ∧ jOw (dC, dI) G0 0 r0 H0 t.heap) (jA base)) ([.ref r0, .int a1] : List Value).toArray s (LC - H0.size) (LS - jTot H0) (jA base) := ⟨_, rfl⟩
  rw [← hQ]
  have hl := lv_entry ([.ref r0, .int a1]) (n := 2) (Nat.le_of_ble_eq_true rfl)
  rw [lg_entry_eq]
  generalize (lg_sl ([.ref r0, .int a1]) ++ List.replicate (2 - (lg_sl ([.ref r0, .int a1])).length) Slot.unset).toArray = ls at hl ⊢
  have hl : lv_has ls 2 [(0, .ref r0), (1, .int a1)] := hl
  generalize hR : (headSpec (jw yJ5_append_3fe6f cJ5_append_3fe6f 2 (some (.object "java/lang/AbstractStringBuilder"))) ({ frames := 4, cells := LC - H0.size, slots := LS - jTot H0, locals := 102 })).room = R
  subst hH0
  have hh : jSt (dC, dI) B base G0 G0 EJ5_append_3fe6fM s.heap 0 0 [(r0, 0, 3, .int pc), (r0, 0, 0, .ref pa)] [] [] s.heap [] := jSt.start hX hP0 jMc.nil jIs.nil
  clear hX hP0
  have hk0 : (0 : Int32).toInt = 0 := by decide
  have hk1 : (1 : Int32).toInt = 1 := by decide
  have hly_0_0 := htw (u_lay RJ4 TJ4 0) (jWc_wsJ40 _ (u_in_lay (by decide)))
  have hly_0_3 := htw (u_lay RJ4 TJ4 3) (jWc_wsJ40 _ (u_in_lay (by decide)))
  have hlk_79 := (htw (.fieldLink RJ5 79 "java/lang/AbstractStringBuilder" "count" "I") (jWr_45 _ (List.mem_of_getElem? (i := 9) rfl)))
  have hlk_15 := (htw (.fieldLink RJ5 15 "java/lang/AbstractStringBuilder" "value" "[B") (jWr_13 _ (List.mem_of_getElem? (i := 11) rfl)))
  have hrg_a1 := jb_rng a1
  have hbs : base ≤ s.heap.size := Nat.le_of_lt (Nat.lt_of_le_of_lt (hh.ab hg_r0).1 (hh.ab hg_r0).2)
  have hRc : R.cells = LC - s.heap.size := by rw [← hR]; rfl
  have hRs : R.slots = LS - jTot s.heap := by rw [← hR]; rfl
  have hh_1 := hh.addI (jOw.ie (dC := dC) (dI := dI) (G0 := G0) (k := 0) (r := r0) (H0 := s.heap) (F := [(0, 0), (0, 1), (0, 2), (0, 3)]) (C := RJ4) (T := TJ4) (N := 4) rfl (by decide) hh.2.2.2.2.1 (jOw.rf))
  clear hh
  refine lv_aload_n hx hb dJ5_append_3fe6f_0 rfl (lv_at hl 0 rfl) ?_
  refine lv_aload_n hx hb dJ5_append_3fe6f_1 rfl (lv_at hl 0 rfl) ?_
  refine j7_read hx hb hown hK (C := RJ4) (T := TJ4) (N := 4) rfl hly_0_3 hlk_79 (hh_1.at 0 rfl) dJ5_append_3fe6f_2 ?_
  refine lv_iconst (v := 1) hx hb dJ5_append_3fe6f_5 (by decide) ?_
  refine lv_iadd hx hb dJ5_append_3fe6f_6 ?_
  refine lv_topi (fun z_2 ez_2 => ?_)
  have hz_2 : z_2.toInt = pc.toInt + 1 := by rw [ez_2]; exact jb_iadd2 (rfl) ((by decide)) (by omega)
  have hsz_3 := hh_1.2.2.2.2.2.1
  have htt_3 := hh_1.2.2.2.2.2.2.1
  refine W.room (fun hrc_3 hrs_3 => ?_)
  refine va_callv (A0 := jA base) (H0 := s.heap) (va_runU (As := [.int z_2]) (rest := []) ⟨hx, hb, hml, hown, hts⟩ (uJ5_ensureCapacityInternal_d00dfM l dC dI ca base B hB hAp hB0 hB196 G0 s.heap r0 z_2 pc pa n_pa LC LS) (va_cwU 1 hts (jgX (jWr_45 _ (List.mem_of_getElem? (i := 11) rfl)) (jWr_45 _ (List.mem_of_getElem? (i := 12) rfl)) (jWr_45 _ (List.mem_of_getElem? (i := 13) rfl)) (jWr_45 _ (List.mem_of_getElem? (i := 14) rfl)) (jWr_13 _ (List.mem_of_getElem? (i := 7) rfl)) (jWr_45 _ (List.mem_of_getElem? (i := 15) rfl))) rfl rfl rfl rfl (by decide +kernel) ⟨by rw [← hR]; exact Nat.le_of_ble_eq_true rfl, by rw [← hR]; exact Nat.le_of_ble_eq_true rfl⟩) ⟨fun a U g mk q => by obtain ⟨q0, q1, q2, qK, q10, q11, q12, q13⟩ := q; exact ⟨q0, q1, q2, jG.calling g mk a qK, q10, q11, q12, q13⟩, hh_1.recv (C := RJ4) (T := TJ4) (N := 4) hB0 rfl (by decide) hg_r0 hK, fun U hU hW => ⟨rfl, hU, hh_1.2.1, hG.step hW hU hh_1.1, hg_r0, hg_pa, (hh_1.2.2.1.sub (L1 := [(r0, 0, 3, .int pc), (r0, 0, 0, .ref pa)]) [0, 1] rfl), by first | omega | (refine ⟨?_, ?_, ?_, ?_⟩ <;> (first | omega | rfl | assumption | decide | exact Or.inl rfl | exact Or.inr rfl | (simp only; omega)))⟩⟩ rfl rfl hl.1 rfl (lv_room (Nat.le_of_ble_eq_true rfl)) dJ5_append_3fe6f_7 ⟨by rw [hRc]; omega, by rw [hRs]; omega⟩) hh_1.1 (fun q _ h => h) (fun q h => h) (fun u_3 t_3 H_3 locs_3 ht_3 hvm_3 hr_4 hb_3 hz_3 hk_3 hS_3 => ?_)
  rw [ht_3] at hb_3
  obtain ⟨qa_3, m_qa_3, G_3⟩ := u_3
  simp only at hb_3
  obtain ⟨⟨hb_31, hb_32, hb_33, hb_34, hb_35, hb_36⟩, hgq_3_0, hN_3, hbO_3⟩ := hb_3
  have hh_3 : jSt (dC, dI) B base G0 G_3 EJ5_append_3fe6fM s.heap (0 + (m_qa_3 - n_pa)) (0 + (2 * (m_qa_3 - n_pa))) [(r0, 0, 0, .ref qa_3), (r0, 0, 3, .int pc)] [] [] H_3 locs_3 := (hh_1.callG hb_31 hb_32 hb_33 hb_34 hb_35 hS_3 rfl (L1 := [(r0, 0, 3, .int pc)]) [0] rfl rfl (M1 := []) [] rfl rfl (I1 := []) [] rfl rfl).more hb_36
  have hNn_3 : (jNk [0, 1, 2, 3, 4, 5, 6, 7, 8, 9, 10, 11, 12, 13, 14, 15, 16]) G0 G_3 := (jNk.rf).tr hN_3
  have hg_5 := hb_32 _ _ hg_r0
  have hd_6 := jOw.tr (hh_1.iv 0 rfl) hh_1.2.2.2.2.1 hbO_3
  have hh_7 := hh_3.addI (jOw.ie (dC := dC) (dI := dI) (G0 := G0) (k := 0) (r := r0) (H0 := s.heap) (F := [(0, 0), (0, 1), (0, 2), (0, 3)]) (C := RJ4) (T := TJ4) (N := 4) rfl (by decide) hh_3.2.2.2.2.1 (hd_6))
  clear hh_3
  try simp only at hr_4
  obtain ⟨hr_4_0, hr_4_1, hr_4_2, hr_4_3⟩ := hr_4
  refine lv_aload_n hx hb dJ5_append_3fe6f_10 rfl (lv_at hl 0 rfl) ?_
  have hsz_8 := hh_7.2.2.2.2.2.1
  have htt_8 := hh_7.2.2.2.2.2.2.1
  refine W.room (fun hrc_8 hrs_8 => ?_)
  refine va_calli (A0 := jA base) (H0 := s.heap) (va_runU (As := []) (rest := []) ⟨hx, hb, hml, hown, hts⟩ (uJ5_isLatin1_aae02 l dC dI ca base B hB hAp hB0 G_3 H_3 r0) (va_cwU 0 hts (jgX (jWr_46 _ (List.mem_of_getElem? (i := 0) rfl)) (jWr_46 _ (List.mem_of_getElem? (i := 1) rfl)) (jWr_46 _ (List.mem_of_getElem? (i := 2) rfl)) (jWr_46 _ (List.mem_of_getElem? (i := 3) rfl)) (jWr_13 _ (List.mem_of_getElem? (i := 7) rfl)) (jWr_46 _ (List.mem_of_getElem? (i := 4) rfl))) rfl rfl rfl rfl (by decide +kernel) ⟨by rw [← hR]; exact Nat.le_of_ble_eq_true rfl, by rw [← hR]; exact Nat.le_of_ble_eq_true rfl⟩) ⟨fun a U g mk q => by obtain ⟨q0, q1, q2, qK, q10, q11, q12⟩ := q; exact ⟨q0, q1, q2, jG.calling g mk a qK, q10, q11, q12⟩, hh_7.recv (C := RJ4) (T := TJ4) (N := 4) hB0 rfl (by decide) hg_5 hK, fun U hU hW => ⟨rfl, hU, hh_7.2.1, hG.step hW hU hh_7.1, hg_5, jP.nil, trivial⟩⟩ rfl rfl hl.1 rfl (lv_room (Nat.le_of_ble_eq_true rfl)) dJ5_append_3fe6f_11 ⟨by rw [hRc]; show _ + 0 ≤ _; omega, by rw [hRs]; show _ + 0 ≤ _; omega⟩) hh_7.1 (fun q _ h => h) (fun q h => h) (fun r_9 u_8 t_8 H_8 locs_8 ht_8 hvm_8 hr_9 hb_8 hz_8 hk_8 hS_8 => ?_)
  rw [ht_8] at hb_8
  obtain ⟨hb_81, hb_82, hb_83, hb_84, hb_85⟩ := hb_8
  have hh_8 : jSt (dC, dI) B base G0 G_3 EJ5_append_3fe6fM s.heap (0 + (m_qa_3 - n_pa)) (0 + (2 * (m_qa_3 - n_pa))) [(r0, 0, 0, .ref qa_3), (r0, 0, 3, .int pc)] [] [([(0, 0), (0, 1), (0, 2), (0, 3)], jOw (dC, dI) G0 0 r0 s.heap)] H_8 locs_8 := ((hh_7.call hb_81 hb_82 hb_83 hb_84 hS_8 rfl (L1 := [(r0, 0, 0, .ref qa_3), (r0, 0, 3, .int pc)]) [0, 1] rfl rfl (M1 := []) [] rfl rfl (I1 := [([(0, 0), (0, 1), (0, 2), (0, 3)], jOw (dC, dI) G0 0 r0 s.heap)]) [0] rfl rfl).more hb_85)
  clear hh_7 ht_8 hvm_8 hz_8 hk_8 hS_8 hb_81 hb_82 hb_83 hb_84 hb_85
  obtain ⟨hr_9b, hr_9p⟩ := hr_9
  have hr_9' := jb_01 hr_9b
  refine lv_if_eq (tgt := 45) hx hb dJ5_append_3fe6f_14 (by decide) (fun c_10 => ?_) (fun c_10 => ?_)
  · skip
    have c_10' : r_9.toInt = 0 := jb_eq (rfl) ((by decide)) c_10
    exact absurd c_10' (by omega)
  · skip
    have c_10' : r_9.toInt ≠ 0 := jb_eq_n (rfl) ((by decide)) c_10
    refine lv_iload_n hx hb dJ5_append_3fe6f_17 rfl (lv_at hl 1 rfl) ?_
    have hsz_11 := hh_8.2.2.2.2.2.1
    have htt_11 := hh_8.2.2.2.2.2.2.1
    refine W.room (fun hrc_11 hrs_11 => ?_)
    refine va_calli (A0 := jA base) (H0 := s.heap) (va_runS (As := [.int a1]) (rest := []) ⟨hx, hb, hml, hown, hts⟩ (uJ1_canEncode_fc78dK l dC dI ca base B hB hAp G_3 H_8 a1) (va_cwS 1 hts (jgS (jWr_47 _ (List.mem_of_getElem? (i := 2) rfl)) (jWr_47 _ (List.mem_of_getElem? (i := 3) rfl)) (jWr_6 _ (List.mem_of_getElem? (i := 10) rfl)) (jWr_47 _ (List.mem_of_getElem? (i := 4) rfl))) rfl rfl rfl (by decide +kernel) ⟨by rw [← hR]; exact Nat.le_of_ble_eq_true rfl, by rw [← hR]; exact Nat.le_of_ble_eq_true rfl⟩) ⟨fun a U g mk q => by obtain ⟨q0, q1, q2, qK, q10, q11⟩ := q; exact ⟨q0, q1, q2, jG.calling g mk a qK, q10, q11⟩, fun U hU hW => ⟨rfl, hU, hh_8.2.1, hG.step hW hU hh_8.1, jP.nil, by first | omega | (refine ⟨?_, ?_⟩ <;> (first | omega | rfl | assumption | decide | exact Or.inl rfl | exact Or.inr rfl | (simp only; omega)))⟩⟩ rfl rfl hl.1 rfl (lv_room (Nat.le_of_ble_eq_true rfl)) dJ5_append_3fe6f_18 ⟨by rw [hRc]; show _ + 0 ≤ _; omega, by rw [hRs]; show _ + 0 ≤ _; omega⟩) hh_8.1 (fun q _ h => h) (fun q h => h) (fun r_12 u_11 t_11 H_11 locs_11 ht_11 hvm_11 hr_12 hb_11 hz_11 hk_11 hS_11 => ?_)
    rw [ht_11] at hb_11
    obtain ⟨hb_111, hb_112, hb_113, hb_114, hb_115⟩ := hb_11
    have hh_11 : jSt (dC, dI) B base G0 G_3 EJ5_append_3fe6fM s.heap (0 + (m_qa_3 - n_pa)) (0 + (2 * (m_qa_3 - n_pa))) [(r0, 0, 0, .ref qa_3), (r0, 0, 3, .int pc)] [] [([(0, 0), (0, 1), (0, 2), (0, 3)], jOw (dC, dI) G0 0 r0 s.heap)] H_11 locs_11 := ((hh_8.call hb_111 hb_112 hb_113 hb_114 hS_11 rfl (L1 := [(r0, 0, 0, .ref qa_3), (r0, 0, 3, .int pc)]) [0, 1] rfl rfl (M1 := []) [] rfl rfl (I1 := [([(0, 0), (0, 1), (0, 2), (0, 3)], jOw (dC, dI) G0 0 r0 s.heap)]) [0] rfl rfl).more hb_115)
    clear hh_8 ht_11 hvm_11 hz_11 hk_11 hS_11 hb_111 hb_112 hb_113 hb_114 hb_115
    obtain ⟨hr_12b, hr_12p⟩ := hr_12
    have hr_12' := jb_01 hr_12b
    refine lv_if_eq (tgt := 45) hx hb dJ5_append_3fe6f_21 (by decide) (fun c_13 => ?_) (fun c_13 => ?_)
    · skip
      have c_13' : r_12.toInt = 0 := jb_eq (rfl) ((by decide)) c_13
      exact absurd c_13' (by omega)
    · skip
      have c_13' : r_12.toInt ≠ 0 := jb_eq_n (rfl) ((by decide)) c_13
      refine lv_aload_n hx hb dJ5_append_3fe6f_24 rfl (lv_at hl 0 rfl) ?_
      refine j7_read hx hb hown hK (C := RJ4) (T := TJ4) (N := 4) rfl hly_0_0 hlk_15 (hh_11.at 0 rfl) dJ5_append_3fe6f_25 ?_
      refine lv_aload_n hx hb dJ5_append_3fe6f_28 rfl (lv_at hl 0 rfl) ?_
      refine lv_dup hx hb dJ5_append_3fe6f_29 rfl ?_
      refine j7_read hx hb hown hK (C := RJ4) (T := TJ4) (N := 4) rfl hly_0_3 hlk_79 (hh_11.at 1 rfl) dJ5_append_3fe6f_30 ?_
      refine lv_dup_x1 hx hb dJ5_append_3fe6f_33 rfl rfl ?_
      refine lv_iconst (v := 1) hx hb dJ5_append_3fe6f_34 (by decide) ?_
      refine lv_iadd hx hb dJ5_append_3fe6f_35 ?_
      refine lv_topi (fun z_14 ez_14 => ?_)
      have hz_14 : z_14.toInt = pc.toInt + 1 := by rw [ez_14]; exact jb_iadd2 (rfl) ((by decide)) (by omega)
      have hd_16 := hh_11.iv 0 rfl
      have hh_17 := hh_11.sub (L1 := [(r0, 0, 0, .ref qa_3), (r0, 0, 3, .int pc)]) [0, 1] rfl (M1 := []) [] rfl (I1 := []) [] rfl
      clear hh_11
      refine j7_putX hx hb hown hK hh_17 hB hAp hB0 (C := RJ4) (T := TJ4) (N := 4) rfl (by decide) hg_5 (i := 3) (by decide) hly_0_3 rfl hlk_79 rfl (ty := .int) (v := .int z_14) (by decide +kernel) rfl rfl (⟨_, rfl, by omega, by omega⟩) rfl (L1 := [(r0, 0, 0, .ref qa_3)]) [0] rfl rfl rfl dJ5_append_3fe6f_36 (fun H_15 locs_15 hr_15 hh_15 => ?_)
      clear hh_17
      have hd_16n := jOw.put hd_16 hr_15
      have hh_18 := hh_15.addI (jOw.ie (dC := dC) (dI := dI) (G0 := G0) (k := 0) (r := r0) (H0 := s.heap) (F := [(0, 0), (0, 1), (0, 2), (0, 3)]) (C := RJ4) (T := TJ4) (N := 4) rfl (by decide) hh_15.2.2.2.2.1 (hd_16n))
      clear hh_15
      clear hd_16 hd_16n hr_15
      refine lv_iload_n hx hb dJ5_append_3fe6f_39 rfl (lv_at hl 1 rfl) ?_
      refine lv_i2b hx hb dJ5_append_3fe6f_40 rfl ?_
      refine lv_topi (fun z_19 ez_19 => ?_)
      refine j7_bastF hx hb hK hh_18 hB hB196 0 rfl (by decide) (by decide) rfl rfl rfl hgq_3_0 (x := pc.toInt) (rfl) (by omega) dJ5_append_3fe6f_41 (fun H_20 locs_20 hh_20 => ?_)
      clear hh_18
      refine lv_goto (tgt := 75) hx hb dJ5_append_3fe6f_42 (by decide) ?_
      refine lv_aload_n hx hb dJ5_append_3fe6f_75 rfl (lv_at hl 0 rfl) ?_
      have hsz_21 := hh_20.2.2.2.2.2.1
      have htt_21 := hh_20.2.2.2.2.2.2.1
      refine W.room (fun hrc_21 hrs_21 => ?_)
      refine W.widen (k := LC - s.heap.size) (n := LS - jTot s.heap) (by omega) (by omega) ?_
      rw [hQ]
      exact W.aret (v := .ref r0) hx hb hr (Or.inl ⟨_, rfl⟩) (Or.inr ⟨_, rfl⟩) (fun t ht hW => ⟨⟨.ref r0, (z_14, qa_3, m_qa_3, G_3), rfl, ⟨⟨_, rfl, hg_r0⟩, by (try dsimp only); exact ⟨(by first | omega | rfl | assumption | fail), (by first | omega | rfl | assumption | fail), (by first | omega | rfl | assumption | fail), (by first | omega | rfl | assumption | fail), (by first | omega | rfl | assumption | fail)⟩⟩, ⟨hh_20.ra (by first | (simp only; omega) | omega) (by first | (simp only; omega) | omega) (M1 := [(r0, 0, 3, .int z_14), (r0, 0, 0, .ref qa_3)]) [0, 1] rfl ht, hgq_3_0, hNn_3, by rw [ht]; exact hh_20.iv 0 rfl⟩⟩, by rw [ht]; try exact hh_20.1.1, fun q h9 hq => by rw [ht]; try exact hh_20.1.2.1 q h9 hq⟩) hh_20.1.2.2 dJ5_append_3fe6f_76
set_option maxHeartbeats 4000000 in
set_option maxRecDepth 20000 in
theorem uJ4_append_cf468M (l : Launch) (dC : Nat → ClassId) (dI : Nat → Nat → Nat) (ca : Nat → ClassId) (base : Nat) (B : jF) (hB : jBok B) (hAp : jAp (dC, dI)) (hB0 : ∀ n G a H, B 0 n G a H ↔ jOb (dC, dI) 0 4 (Fz0 n G) a H) (hB196 : ∀ n G a H, B 196 n G a H ↔ jAr (dC, dI) (ca 0) (fun j z => jBf j z) n a H) (G0 : jT) (H0 : Heap) (r0 : Nat) (a1 : Int32) (pc : Int32) (pa : Nat) (n_pa : Nat) (LC LS : Nat) : Met l yJ4_append_cf468 (jw yJ4_append_cf468 cJ4_append_cf468 2 (some (.object "java/lang/StringBuilder"))) ({ frames := 5, cells := LC - H0.size, slots := LS - jTot H0, locals := 123 }) (va_Pc [.ref r0, .int a1] (fun U => U.heap = H0 ∧ jX B base G0 [] H0 ∧ jG dC dI ca base U ∧ G0 r0 = some (0, 0) ∧ G0 pa = some (196, n_pa) ∧ jP (dC, dI) G0 H0 [(r0, 0, 3, .int pc), (r0, 0, 0, .ref pa)] ∧ H0.size + (n_pa + 2) ≤ LC ∧ jTot H0 + (2 * n_pa + 4) ≤ LS ∧ 0 ≤ pc.toInt ∧ pc.toInt ≤ n_pa ∧ 16 ≤ n_pa ∧ n_pa ≤ 400 ∧ 0 ≤ a1.toInt ∧ a1.toInt ≤ 255)) (jQx (S := Int32 × Nat × Nat × jT) (fun v u => jRf G0 0 0 v ∧ u.1.toInt = pc.toInt + 1 ∧ u.1.toInt ≤ u.2.2.1 ∧ n_pa ≤ u.2.2.1 ∧ u.2.2.1 ≤ n_pa + n_pa + 2 ∧ (u.2.2.1 ≤ n_pa ∨ n_pa ≤ pc.toInt)) (fun u t => jRa (dC, dI) B base G0 u.2.2.2 EJ4_append_cf468M H0 (u.2.2.1 - n_pa) (2 * (u.2.2.1 - n_pa)) [(r0, 0, 3, .int u.1), (r0, 0, 0, .ref u.2.1)] t.heap ∧ u.2.2.2 u.2.1 = some (196, u.2.2.1) ∧ (jNk [0, 1, 2, 3, 4, 5, 6, 7, 8, 9, 10, 11, 12, 13, 14, 15, 16]) G0 u.2.2.2 ∧ jOw (dC, dI) G0 0 r0 H0 t.heap) (jA base)) (LC - H0.size) (LS - jTot H0) (jA base) := by
  refine Met.ofW (cc := cJ4_append_cf468) (maxL := 2) (ret := (some (.object "java/lang/StringBuilder"))) (by decide) rfl ?_
  intro p e s m args below meth c s₁ Bd hml hv
  obtain ⟨rfl, hH0, hX, hG, hg_r0, hg_pa, hP0, hLC0, hLS0, hp0, hp1, hp2, hp3, hp4, hp5⟩ := hv
  have hK := hG.1
  have hx := Bd.exec
  have hb := Bd.bytes
  have hr := Bd.returns
  have hts := atoms_spec (ws := (jw yJ4_append_cf468 cJ4_append_cf468 2 (some (.object "java/lang/StringBuilder")))) Bd.pre
  have htw : ∀ w ∈ jWl, w.before _ s = true := fun w h => hts w (List.mem_cons_of_mem _ h)
  have hown : s.vm.findClass RJ4 = some m.cls := findClass_of_methodNamed Bd.named
  have hlocks := Bd.notSynchronized
  obtain ⟨Q, hQ⟩ : ∃ Q, Q = MQ below (jQx (S := Int32 × Nat × Nat × jT) (fun v u => jRf G0 0 0 v ∧ u.1.toInt = pc.toInt + 1 ∧ u.1.toInt ≤ u.2.2.1 ∧ n_pa ≤ u.2.2.1 ∧ u.2.2.1 ≤ n_pa + n_pa + 2 ∧ (u.2.2.1 ≤ n_pa ∨ n_pa ≤ pc.toInt)) (fun u t => jRa (dC, dI) B base G0 u.2.2.2 EJ4_append_cf468M H0 (u.2.2.1 - n_pa) (2 * (u.2.2.1 - n_pa)) [(r0, 0, 3, .int u.1), (r0, 0, 0, .ref u.2.1)] t.heap ∧ u.2.2.2 u.2.1 = some (196, u.2.2.1) ∧ (jNk [0, 1, 2, 3, 4, 5, 6, 7, 8, 9, 10, 11, 12, 13, 14, 15, 16]) G0 u.2.2.2 ∧ jOw (dC, dI) G0 0 r0 H0 t.heap) (jA base)) ([.ref r0, .int a1] : List Value).toArray s (LC - H0.size) (LS - jTot H0) (jA base) := ⟨_, rfl⟩
  rw [← hQ]
  have hl := lv_entry ([.ref r0, .int a1]) (n := 2) (Nat.le_of_ble_eq_true rfl)
  rw [lg_entry_eq]
  generalize (lg_sl ([.ref r0, .int a1]) ++ List.replicate (2 - (lg_sl ([.ref r0, .int a1])).length) Slot.unset).toArray = ls at hl ⊢
  have hl : lv_has ls 2 [(0, .ref r0), (1, .int a1)] := hl
  generalize hR : (headSpec (jw yJ4_append_cf468 cJ4_append_cf468 2 (some (.object "java/lang/StringBuilder"))) ({ frames := 5, cells := LC - H0.size, slots := LS - jTot H0, locals := 123 })).room = R
  subst hH0
  have hh : jSt (dC, dI) B base G0 G0 EJ4_append_cf468M s.heap 0 0 [(r0, 0, 3, .int pc), (r0, 0, 0, .ref pa)] [] [] s.heap [] := jSt.start hX hP0 jMc.nil jIs.nil
  clear hX hP0
  have hk0 : (0 : Int32).toInt = 0 := by decide
  have hk1 : (1 : Int32).toInt = 1 := by decide
  have hrg_a1 := jb_rng a1
  have hbs : base ≤ s.heap.size := Nat.le_of_lt (Nat.lt_of_le_of_lt (hh.ab hg_r0).1 (hh.ab hg_r0).2)
  have hRc : R.cells = LC - s.heap.size := by rw [← hR]; rfl
  have hRs : R.slots = LS - jTot s.heap := by rw [← hR]; rfl
  have hh_1 := hh.addI (jOw.ie (dC := dC) (dI := dI) (G0 := G0) (k := 0) (r := r0) (H0 := s.heap) (F := [(0, 0), (0, 1), (0, 2), (0, 3)]) (C := RJ4) (T := TJ4) (N := 4) rfl (by decide) hh.2.2.2.2.1 (jOw.rf))
  clear hh
  refine lv_aload_n hx hb dJ4_append_cf468_0 rfl (lv_at hl 0 rfl) ?_
  refine lv_iload_n hx hb dJ4_append_cf468_1 rfl (lv_at hl 1 rfl) ?_
  have hsz_2 := hh_1.2.2.2.2.2.1
  have htt_2 := hh_1.2.2.2.2.2.2.1
  refine W.room (fun hrc_2 hrs_2 => ?_)
  refine j_callx (A0 := jA base) (H0 := s.heap) (va_runSU (hK.1 0 _ rfl).2 (As := [.int a1]) (rest := []) ⟨hx, hb, hml, hown, hts⟩ (uJ5_append_3fe6fM l dC dI ca base B hB hAp hB0 hB196 G0 s.heap r0 a1 pc pa n_pa LC LS) (va_cwSU 1 hts (jgU (jWr_46 _ (List.mem_of_getElem? (i := 22) rfl)) (jWr_46 _ (List.mem_of_getElem? (i := 23) rfl)) (jWr_45 _ (List.mem_of_getElem? (i := 6) rfl)) (jWr_47 _ (List.mem_of_getElem? (i := 0) rfl)) (jWr_13 _ (List.mem_of_getElem? (i := 7) rfl)) (jWr_47 _ (List.mem_of_getElem? (i := 1) rfl))) rfl rfl rfl (by decide +kernel) ⟨by rw [← hR]; exact Nat.le_of_ble_eq_true rfl, by rw [← hR]; exact Nat.le_of_ble_eq_true rfl⟩) ⟨fun a U g mk q => by obtain ⟨q0, q1, q2, qK, q10, q11, q12, q13⟩ := q; exact ⟨q0, q1, q2, jG.calling g mk a qK, q10, q11, q12, q13⟩, hh_1.recv (C := RJ4) (T := TJ4) (N := 4) hB0 rfl (by decide) hg_r0 hK, fun U hU hW => ⟨rfl, hU, hh_1.2.1, hG.step hW hU hh_1.1, hg_r0, hg_pa, (hh_1.2.2.1.sub (L1 := [(r0, 0, 3, .int pc), (r0, 0, 0, .ref pa)]) [0, 1] rfl), by first | omega | (refine ⟨?_, ?_, ?_, ?_, ?_, ?_⟩ <;> (first | omega | rfl | assumption | decide | exact Or.inl rfl | exact Or.inr rfl | (simp only; omega)))⟩⟩ rfl rfl hl.1 rfl (lv_room (Nat.le_of_ble_eq_true rfl)) dJ4_append_cf468_2 ⟨by rw [hRc]; omega, by rw [hRs]; omega⟩) hh_1.1 (fun q _ h => h) (fun q h => h) (fun r_3 u_2 t_2 H_2 locs_2 ht_2 hvm_2 hr_3 hb_2 hz_2 hk_2 hS_2 => ?_)
  obtain ⟨qc_2, qa_2, m_qa_2, G_2⟩ := u_2
  rw [ht_2] at hb_2
  simp only at hb_2
  obtain ⟨⟨hb_21, hb_22, hb_23, hb_24, hb_25, hb_26⟩, hgq_2_0, hN_2, hbO_2⟩ := hb_2
  have hh_2 : jSt (dC, dI) B base G0 G_2 EJ4_append_cf468M s.heap (0 + (m_qa_2 - n_pa)) (0 + (2 * (m_qa_2 - n_pa))) [(r0, 0, 3, .int qc_2), (r0, 0, 0, .ref qa_2)] [] [] H_2 locs_2 := (hh_1.callG hb_21 hb_22 hb_23 hb_24 hb_25 hS_2 rfl (L1 := []) [] rfl rfl (M1 := []) [] rfl rfl (I1 := []) [] rfl rfl).more hb_26
  have hNn_2 : (jNk [0, 1, 2, 3, 4, 5, 6, 7, 8, 9, 10, 11, 12, 13, 14, 15, 16]) G0 G_2 := (jNk.rf).tr hN_2
  have hg_4 := hb_22 _ _ hg_r0
  have hd_5 := jOw.tr (hh_1.iv 0 rfl) hh_1.2.2.2.2.1 hbO_2
  have hh_6 := hh_2.addI (jOw.ie (dC := dC) (dI := dI) (G0 := G0) (k := 0) (r := r0) (H0 := s.heap) (F := [(0, 0), (0, 1), (0, 2), (0, 3)]) (C := RJ4) (T := TJ4) (N := 4) rfl (by decide) hh_2.2.2.2.2.1 (hd_5))
  clear hh_2
  obtain ⟨hr_3, hr_3p⟩ := hr_3
  try simp only at hr_3p
  obtain ⟨hr_3p_0, hr_3p_1, hr_3p_2, hr_3p_3, hr_3p_4⟩ := hr_3p
  obtain ⟨ret_7, rfl, hg_ret_7⟩ := hr_3
  have hg_8 := hb_22 _ _ hg_ret_7
  refine lv_pop hx hb dJ4_append_cf468_5 rfl ?_
  refine lv_aload_n hx hb dJ4_append_cf468_6 rfl (lv_at hl 0 rfl) ?_
  have hsz_9 := hh_6.2.2.2.2.2.1
  have htt_9 := hh_6.2.2.2.2.2.2.1
  refine W.room (fun hrc_9 hrs_9 => ?_)
  refine W.widen (k := LC - s.heap.size) (n := LS - jTot s.heap) (by omega) (by omega) ?_
  rw [hQ]
  exact W.aret (v := .ref r0) hx hb hr (Or.inl ⟨_, rfl⟩) (Or.inr ⟨_, rfl⟩) (fun t ht hW => ⟨⟨.ref r0, (qc_2, qa_2, m_qa_2, G_2), rfl, ⟨⟨_, rfl, hg_r0⟩, by (try dsimp only); exact ⟨(by first | omega | rfl | assumption | fail), (by first | omega | rfl | assumption | fail), (by first | omega | rfl | assumption | fail), (by first | omega | rfl | assumption | fail), (by first | omega | rfl | assumption | fail)⟩⟩, ⟨hh_6.ra (by first | (simp only; omega) | omega) (by first | (simp only; omega) | omega) (M1 := [(r0, 0, 3, .int qc_2), (r0, 0, 0, .ref qa_2)]) [0, 1] rfl ht, hgq_2_0, hNn_2, by rw [ht]; exact hh_6.iv 0 rfl⟩⟩, by rw [ht]; try exact hh_6.1.1, fun q h9 hq => by rw [ht]; try exact hh_6.1.2.1 q h9 hq⟩) hh_6.1.2.2 dJ4_append_cf468_7
