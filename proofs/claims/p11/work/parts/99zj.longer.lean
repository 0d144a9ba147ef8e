def EX9_longer_ : List (Nat × Nat) := []
set_option maxHeartbeats 4000000 in
set_option maxRecDepth 20000 in
theorem uX9_longer_ (l : Launch) (dC : Nat → ClassId) (dI : Nat → Nat → Nat) (ca : Nat → ClassId) (base : Nat) (B : jF) (hB : jBok B) (hAp : jAp (dC, dI)) (hB280 : ∀ n G a H, B 280 n G a H ↔ jAr (dC, dI) (ca 1) (fun j z => -1 ≤ z.toInt) n a H) (hB313 : ∀ n G a H, B 313 n G a H ↔ jAq (dC, dI) (ca 8) (jQk 280 80) n G a H) (G0 : jT) (H0 : Heap) (r0 : Nat) (r1 : Nat) (n0 : Nat) (n1 : Nat) (LC LS : Nat) : Met l yX9_longer_ (jw yX9_longer_ cX9_longer_ 4 (some (.array (.array .int)))) ({ frames := 0, cells := LC - H0.size, slots := LS - jTot H0, locals := 0 }) (va_Pc [.ref r0, .ref r1] (fun U => U.heap = H0 ∧ jX B base G0 [] H0 ∧ jG dC dI ca base U ∧ jK5 dC dI ca U ∧ G0 r0 = some (313, n0) ∧ G0 r1 = some (280, n1) ∧ jP (dC, dI) G0 H0 [] ∧ H0.size + 1 ≤ LC ∧ jTot H0 + n0 + 1 ≤ LS ∧ n0 ≤ 100 ∧ n1 ≤ 80)) (jQx (S := Nat × jT) (fun v u => jRf u.2 313 u.1 v ∧ jNwv v H0 ∧ u.1 = n0 + 1) (fun u t => jRa (dC, dI) B base G0 u.2 EX9_longer_ H0 (1) (u.1) [] t.heap ∧ (jNk [0, 1, 2, 3, 4, 5, 6, 7, 8, 9, 10, 11, 12, 13, 14, 15, 16]) G0 u.2 ∧ jKe G0 u.2 H0 t.heap) (jA base)) (LC - H0.size) (LS - jTot H0) (jA base) := by
  refine Met.ofW (cc := cX9_longer_) (maxL := 4) (ret := (some (.array (.array .int)))) (by decide) rfl ?_
  intro p e s m args below meth c s₁ Bd hml hv
  obtain ⟨rfl, hH0, hX, hG, hK5, hg_r0, hg_r1, hP0, hLC0, hLS0, hp0, hp1⟩ := hv
  have hK := hG.1
  have hx := Bd.exec
  have hb := Bd.bytes
  have hr := Bd.returns
  have hts := atoms_spec (ws := (jw yX9_longer_ cX9_longer_ 4 (some (.array (.array .int))))) Bd.pre
  have htw : ∀ w ∈ jWl, w.before _ s = true := fun w h => hts w (List.mem_cons_of_mem _ h)
  have hown : s.vm.findClass RX9 = some m.cls := findClass_of_methodNamed Bd.named
  have hlocks := Bd.notSynchronized
  obtain ⟨Q, hQ⟩ : ∃ Q, Q = MQ below (jQx (S := Nat × jT) (fun v u => jRf u.2 313 u.1 v ∧ jNwv v H0 ∧ u.1 = n0 + 1) (fun u t => jRa (dC, dI) B base G0 u.2 EX9_longer_ H0 (1) (u.1) [] t.heap ∧ (jNk [0, 1, 2, 3, 4, 5, 6, 7, 8, 9, 10, 11, 12, 13, 14, 15, 16]) G0 u.2 ∧ jKe G0 u.2 H0 t.heap) (jA base)) ([.ref r0, .ref r1] : List Value).toArray s (LC - H0.size) (LS - jTot H0) (jA base) := ⟨_, rfl⟩
  rw [← hQ]
  have hl := lv_entry ([.ref r0, .ref r1]) (n := 4) (Nat.le_of_ble_eq_true rfl)
  rw [lg_entry_eq]
  generalize (lg_sl ([.ref r0, .ref r1]) ++ List.replicate (4 - (lg_sl ([.ref r0, .ref r1])).length) Slot.unset).toArray = ls at hl ⊢
  have hl : lv_has ls 4 [(0, .ref r0), (1, .ref r1)] := hl
  generalize hR : (headSpec (jw yX9_longer_ cX9_longer_ 4 (some (.array (.array .int)))) ({ frames := 0, cells := LC - H0.size, slots := LS - jTot H0, locals := 0 })).room = R
  subst hH0
  have hh : jSt (dC, dI) B base G0 G0 EX9_longer_ s.heap 0 0 [] [] [] s.heap [] := jSt.start hX hP0 jMc.nil jIs.nil
  clear hX hP0
  have hk0 : (0 : Int32).toInt = 0 := by decide
  have hk1 : (1 : Int32).toInt = 1 := by decide
  have hbs : base ≤ s.heap.size := Nat.le_of_lt (Nat.lt_of_le_of_lt (hh.ab hg_r0).1 (hh.ab hg_r0).2)
  have hRc : R.cells = LC - s.heap.size := by rw [← hR]; rfl
  have hRs : R.slots = LS - jTot s.heap := by rw [← hR]; rfl
  have hkp : jKe G0 G0 s.heap s.heap := jKe.rf
  refine lv_aload_n hx hb dX9_longer__0 rfl (lv_at hl 0 rfl) ?_
  refine j7_qlen hx hb hK5.1 hh hB313 0 rfl (by decide) hg_r0 (by omega) dX9_longer__1 (fun z_1 hz_1 => ?_)
  refine lv_iconst (v := 1) hx hb dX9_longer__2 (by decide) ?_
  refine lv_iadd hx hb dX9_longer__3 ?_
  refine lv_topi (fun z_2 ez_2 => ?_)
  have hz_2 : z_2.toInt = z_1.toInt + 1 := by rw [ez_2]; exact jb_iadd2 (rfl) ((by decide)) (by omega)
  have hsz_3 := hh.2.2.2.2.2.1
  have htt_3 := hh.2.2.2.2.2.2.1
  have hsy_3 : s.heap.size ≤ s.heap.size := hh.1.1
  refine j7_newaR hx hb hown (show (Cond.classLink RX9 18 (FieldType.array .int).toString).before _ s = true from htw (.classLink RX9 18 "[I") (jWr_8 _ (List.mem_of_getElem? (i := 19) rfl))) hK5 hh hB (x := z_2.toInt) rfl (by omega) (by rw [hRc]; omega) (by rw [hRs]; omega) dX9_longer__4 (fun H_3 hfr_3 hnr_3 hraw_3 hh_3 => ?_)
  have hke_3 : jKe G0 G0 s.heap H_3 := jKe.raw hfr_3
  have hbr_3 : base ≤ s.heap.size := Nat.le_trans hbs hsy_3
  obtain ⟨nq_3, hnq_3⟩ : ∃ q : Nat, q = (z_2.toInt).toNat := ⟨_, rfl⟩
  rw [← hnq_3] at hraw_3 hh_3 ⊢
  clear hh
  have hkp_4 := hkp.tr hke_3
  refine lv_astore_n (lv' := [(2, .ref s.heap.size), (0, .ref r0), (1, .ref r1)]) hx hb dX9_longer__7 rfl hl (by decide) rfl (fun ls hl => ?_)
  refine lv_iconst (v := 0) hx hb dX9_longer__8 (by decide) ?_
  refine lv_istore_n (lv' := [(3, .int 0), (2, .ref s.heap.size), (0, .ref r0), (1, .ref r1)]) hx hb dX9_longer__9 rfl hl (by decide) rfl (fun ls hl => ?_)
  have L10 : ∀ (N : Nat) (fq_5 : Nat → Option Nat) (v3_5 : Int32) (H_5 : Heap) (locs_5 : List Loc), jSt (dC, dI) B base G0 G0 EX9_longer_ s.heap (0 + 1) (0 + nq_3) [] [] [] H_5 locs_5 → va_at (dC, dI) vwCl (s.heap.size, .inl (ca 8, nq_3, .inr (.inr (.inr (.inr fq_5))))) H_5 → jKe G0 G0 s.heap H_5 → (0 ≤ v3_5.toInt ∧ v3_5.toInt ≤ n0 ∧ jFq G0 fq_5 v3_5.toInt) → (n0 - v3_5.toInt : Int) < N → ∀ ls : Array Slot, lv_has ls 4 [(0, .ref r0), (1, .ref r1), (2, .ref s.heap.size), (3, .int v3_5)] → W p l e R s m ([.ref r0, .ref r1] : List Value).toArray below meth c H_5 locs_5 (0 + 1) (0 + nq_3) Q (F0 m 10 ls []) := by
    intro N
    induction N with
    | zero => intro fq_5 v3_5 H_5 locs_5 hh_5 hraw_5 hkp_5 hi_5 hm; exact absurd hm (by omega)
    | succ N L10 =>
      intro fq_5 v3_5 H_5 locs_5 hh_5 hraw_5 hkp_5 hi_5 hm_5 ls hl
      obtain ⟨hi_5_0, hi_5_1, hi_5_2⟩ := hi_5
      refine lv_iload_n hx hb dX9_longer__10 rfl (lv_at hl 3 rfl) ?_
      refine lv_aload_n hx hb dX9_longer__11 rfl (lv_at hl 0 rfl) ?_
      refine j7_qlen hx hb hK5.1 hh_5 hB313 0 rfl (by decide) hg_r0 (by omega) dX9_longer__12 (fun z_6 hz_6 => ?_)
      refine lv_icmp_ge (tgt := 28) hx hb dX9_longer__13 (by decide) (fun c_7 => ?_) (fun c_7 => ?_)
      · skip
        have c_7' : v3_5.toInt ≥ z_6.toInt := jb_ge (rfl) (rfl) c_7
        refine lv_aload_n hx hb dX9_longer__28 rfl (lv_at hl 2 rfl) ?_
        refine lv_aload_n hx hb dX9_longer__29 rfl (lv_at hl 0 rfl) ?_
        refine j7_qlen hx hb hK5.1 hh_5 hB313 0 rfl (by decide) hg_r0 (by omega) dX9_longer__30 (fun z_8 hz_8 => ?_)
        refine lv_aload_n hx hb dX9_longer__31 rfl (lv_at hl 1 rfl) ?_
        refine j7_qastA hx hb hK5 hh_5 hB hraw_5 hnr_3 hbr_3 (x := z_8.toInt) (rfl) (by omega) hB280 (by decide) hg_r1 dX9_longer__32 (fun H_9 locs_9 hraw_9 hr_9 hh_9 => ?_)
        have hkp_10 := hkp_5.st hsy_3 hr_9
        clear hr_9
        clear hh_5
        refine lv_aload_n hx hb dX9_longer__33 rfl (lv_at hl 2 rfl) ?_
        have hsz_11 := hh_9.2.2.2.2.2.1
        have htt_11 := hh_9.2.2.2.2.2.2.1
        refine W.room (fun hrc_11 hrs_11 => ?_)
        refine W.widen (k := LC - s.heap.size) (n := LS - jTot s.heap) (by omega) (by omega) ?_
        rw [hQ]
        have hle_12 : jLe G0 (va_up G0 s.heap.size (some (313, nq_3))) := jLe.typ hnr_3
        have hh_12 := hh_9.typ (k := 313) (n := nq_3) hB hnr_3 hbr_3 hraw_9.lt (jAq.of hB313 hraw_9 ((hi_5_2.put (i1 := v3_5.toInt + 1) (by omega) rfl (by omega) hg_r1 (by omega)).all (by omega) hle_12))
        have hgn_12 : (va_up G0 s.heap.size (some (313, nq_3))) s.heap.size = some (313, nq_3) := jUp_self
        have hN_12 : (jNk [0, 1, 2, 3, 4, 5, 6, 7, 8, 9, 10, 11, 12, 13, 14, 15, 16]) G0 (va_up G0 s.heap.size (some (313, nq_3))) := jNk.new (by decide)
        have hNn_12 : (jNk [0, 1, 2, 3, 4, 5, 6, 7, 8, 9, 10, 11, 12, 13, 14, 15, 16]) G0 (va_up G0 s.heap.size (some (313, nq_3))) := (jNk.rf).tr hN_12
        have hkp_13 := hkp_10.typn (t := some (313, nq_3)) hsy_3
        exact W.aret (v := .ref s.heap.size) hx hb hr (Or.inr ⟨_, rfl⟩) (Or.inr ⟨_, rfl⟩) (fun t ht hW => ⟨⟨.ref s.heap.size, (nq_3, (va_up G0 s.heap.size (some (313, nq_3)))), rfl, ⟨⟨_, rfl, hgn_12⟩, ⟨_, rfl, hsy_3⟩, by (try dsimp only); first | omega | rfl | assumption | fail⟩, ⟨hh_12.ra (by first | omega | (simp only; omega)) (by first | omega | (simp only; omega)) (M1 := []) [] rfl ht, hNn_12, by rw [ht]; exact hkp_13⟩⟩, by rw [ht]; try exact hh_12.1.1, fun q h9 hq => by rw [ht]; try exact hh_12.1.2.1 q h9 hq⟩) hh_12.1.2.2 dX9_longer__34
      · skip
        have c_7' : v3_5.toInt < z_6.toInt := jb_ge_n (rfl) (rfl) c_7
        refine lv_aload_n hx hb dX9_longer__16 rfl (lv_at hl 2 rfl) ?_
        refine lv_iload_n hx hb dX9_longer__17 rfl (lv_at hl 3 rfl) ?_
        refine lv_aload_n hx hb dX9_longer__18 rfl (lv_at hl 0 rfl) ?_
        refine lv_iload_n hx hb dX9_longer__19 rfl (lv_at hl 3 rfl) ?_
        refine j7_qaldA hx hb hK5 hh_5 hB313 (by decide) hg_r0 (x := v3_5.toInt) (rfl) (by omega) dX9_longer__20 (fun o_14 ho_14 => ?_)
        obtain ⟨el_15, nel_15, rfl, hg_el_15, hn_el_15⟩ := ho_14
        simp only [va_rf]
        refine j7_qastA hx hb hK5 hh_5 hB hraw_5 hnr_3 hbr_3 (x := v3_5.toInt) (rfl) (by omega) hB280 (by decide) hg_el_15 dX9_longer__21 (fun H_16 locs_16 hraw_16 hr_16 hh_16 => ?_)
        have hkp_17 := hkp_5.st hsy_3 hr_16
        clear hr_16
        clear hh_5
        obtain ⟨z_18, ez_18⟩ : ∃ y : Int32, y = v3_5 + 1 := ⟨_, rfl⟩
        refine lv_iinc (v := z_18) (lv' := [(3, .int z_18), (0, .ref r0), (1, .ref r1), (2, .ref s.heap.size)]) hx hb dX9_longer__22 hl (k := 3) rfl (by rw [ez_18]; rfl) (by decide) rfl (fun ls hl => ?_)
        have hz_18 : z_18.toInt = v3_5.toInt + 1 := by rw [ez_18]; exact jb_iadd2 (rfl) (by decide) (by omega)
        refine lv_goto (tgt := 10) hx hb dX9_longer__25 (by decide) ?_
        refine W.tight (c2 := (0 + 1)) (n2 := (0 + nq_3)) hh_16.2.2.2.2.2.1 hh_16.2.2.2.2.2.2.1 ?_
        exact L10 (va_up fq_5 (v3_5.toInt).toNat (some el_15)) z_18 _ _ hh_16 (hraw_16) (hkp_17) (by refine ⟨by omega, by omega, ?_⟩; exact hi_5_2.put rfl (by omega) (by omega) (by assumption) (by assumption)) (by omega) _ (lv_sub hl [1, 2, 3, 0] rfl)
  refine W.tight (c2 := (0 + 1)) (n2 := (0 + nq_3)) hh_3.2.2.2.2.2.1 hh_3.2.2.2.2.2.2.1 ?_
  exact L10 (n0 - (0 : Int32).toInt : Int).toNat.succ (fun _ => none) 0 _ _ hh_3 (hraw_3) (hkp_4) (by refine ⟨by omega, by omega, jFq.zero (by omega)⟩) (by omega) _ (lv_sub hl [2, 3, 1, 0] rfl)
