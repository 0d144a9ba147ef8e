section
def EX9_longer_ : List (Nat × Nat) := []
set_option maxHeartbeats 4000000 in
set_option maxRecDepth 20000 in
theorem uX9_longer_ (l : Launch) (dC : Nat → ClassId) (dI : Nat → Nat → Nat) (ca : Nat → ClassId) (base : Nat) (B : jF) (hB : jBok B) (hAp : jAp (dC, dI)) (hB280 : ∀ n G a H, B 280 n G a H ↔ jAr (dC, dI) (ca 1) (fun j z => -1 ≤ z.toInt) n a H) (hB313 : ∀ n G a H, B 313 n G a H ↔ jAq (dC, dI) (ca 8) (jQk 280 80) n G a H) (G0 : jT) (H0 : Heap) (r0 : Nat) (r1 : Nat) (n0 : Nat) (n1 : Nat) (LC LS : Nat) : Met l yX9_longer_ (jw yX9_longer_ cX9_longer_ 4 (some (.array (.array .int)))) ({ frames := 0, cells := LC - H0.size, slots := LS - jTot H0, locals := 0 }) (va_Pc [.ref r0, .ref r1] (fun U => U.heap = H0 ∧ jX B base G0 [] H0 ∧ jG dC dI ca base U ∧ jK5 dC dI ca U ∧ G0 r0 = some (313, n0) ∧ G0 r1 = some (280, n1) ∧ jP (dC, dI) G0 H0 [] ∧ H0.size + 1 ≤ LC ∧ jTot H0 + n0 + 1 ≤ LS ∧ n0 ≤ 100 ∧ n1 ≤ 80)) (jQx (S := Nat × jT) (fun v u => jRf u.2 313 u.1 v ∧ jNwv v H0 ∧ u.1 = n0 + 1) (fun u t => jRa (dC, dI) B base G0 u.2 EX9_longer_ H0 (1) (u.1) [] t.heap ∧ (jNk [0, 1, 2, 3, 4, 5, 6, 7, 8, 9, 10, 11, 12, 13, 14, 15, 16, 17, 175]) G0 u.2 ∧ jKe G0 u.2 H0 t.heap) (jA base)) (LC - H0.size) (LS - jTot H0) (jA base) := by
  refine Met.ofW (cc := cX9_longer_) (maxL := 4) (ret := (some (.array (.array .int)))) (by decide) rfl ?_
  intro p e s m args below meth c s₁ Bd hml hv
  obtain ⟨rfl, hH0, hX, hG, hK5, hg_r0, hg_r1, hP0, hLC0, hLS0, hp0, hp1⟩ := hv
  have hK := hG.1
  have hx := Bd.exec
  have hb := Bd.bytes
  have hr := Bd.returns
  have hts := atoms_spec (ws := (jw yX9_longer_ cX9_longer_ 4 (some (.array (.array .int))))) Bd.pre
  have htw : ∀ w ∈ jWl, w.before _ s = true := fun w h => hts w (List.mem_cons_of_mem _ h)
  have hown : s.vm.findClass RX9 = some m.cls := findClass_of_methodNamed Bd.named
  have hlocks := Bd.notSynchronized
  obtain ⟨Q, hQ⟩ : ∃ Q, Q = MQ below (jQx (S := Nat × jT) (fun v u => jRf u.2 313 u.1 v ∧ jNwv v H0 ∧ u.1 = n0 + 1) (fun u t => jRa (dC, dI) B base G0 u.2 EX9_longer_ H0 (1) (u.1) [] t.heap ∧ (jNk [0, 1, 2, 3, 4, 5, 6, 7, 8, 9, 10, 11, 12, 13, 14, 15, 16, 17, 175]) G0 u.2 ∧ jKe G0 u.2 H0 t.heap) (jA base)) ([.ref r0, .ref r1] : List Value).toArray s (LC - H0.size) (LS - jTot H0) (jA base) := ⟨_, rfl⟩
  rw [← hQ]
  have hl := lv_entry ([.ref r0, .ref r1]) (n := 4) (Nat.le_of_ble_eq_true rfl)
  rw [lg_entry_eq]
  generalize (lg_sl ([.ref r0, .ref r1]) ++ List.replicate (4 - (lg_sl ([.ref r0, .ref r1])).length) Slot.unset).toArray = ls at hl ⊢
  have hl : lv_has ls 4 [(0, .ref r0), (1, .ref r1)] := hl
  generalize hR : (headSpec (jw yX9_longer_ cX9_longer_ 4 (some (.array (.array .int)))) ({ frames := 0, cells := LC - H0.size, slots := LS - jTot H0, locals := 0 })).room = R
  subst hH0
  have hh : jSt (dC, dI) B base G0 G0 EX9_longer_ s.heap 0 0 [] [] [] s.heap [] := jSt.start hX hP0 jMc.nil jIs.nil
  clear hX hP0
  have hk0 : (0 : Int32).toInt = 0 := by decide
  have hk1 : (1 : Int32).toInt = 1 := by decide
  have hbs : base ≤ s.heap.size := Nat.le_of_lt (Nat.lt_of_le_of_lt (hh.ab hg_r0).1 (hh.ab hg_r0).2)
  have hRc : R.cells = LC - s.heap.size := by rw [← hR]; rfl
  have hRs : R.slots = LS - jTot s.heap := by rw [← hR]; rfl
  have hkp : jKe G0 G0 s.heap s.heap := jKe.rf
  refine lv_aload_n hx hb dX9_longer__0 rfl (lv_at hl 0 rfl) ?_
  refine j7_qlen hx hb hK5.1 hh hB313 0 rfl (by decide) hg_r0 (by omega) dX9_longer__1 (fun z_1 hz_1 => ?_)
  refine lv_iconst (v := 1) hx hb dX9_longer__2 (by decide) ?_
  refine lv_iadd hx hb dX9_longer__3 ?_
  refine lv_topi (fun z_2 ez_2 => ?_)
  have hz_2 : z_2.toInt = z_1.toInt + 1 := by rw [ez_2]; exact jb_iadd2 (rfl) ((by decide)) (by omega)
  have hsz_3 := hh.2.2.2.2.2.1
  have htt_3 := hh.2.2.2.2.2.2.1
  have hsy_3 : s.heap.size ≤ s.heap.size := hh.1.1
  refine j7_newaR hx hb hown (show (Cond.classLink RX9 18 (FieldType.array .int).toString).before _ s = true from htw (.classLink RX9 18 "[I") (jWr_8 _ (List.mem_of_getElem? (i := 19) rfl))) hK5 hh hB (x := z_2.toInt) rfl (by omega) (by rw [hRc]; omega) (by rw [hRs]; omega) dX9_longer__4 (fun H_3 hfr_3 hnr_3 hraw_3 hh_3 => ?_)
  have hke_3 : jKe G0 G0 s.heap H_3 := jKe.raw hfr_3
  have hbr_3 : base ≤ s.heap.size := Nat.le_trans hbs hsy_3
  obtain ⟨nq_3, hnq_3⟩ : ∃ q : Nat, q = (z_2.toInt).toNat := ⟨_, rfl⟩
  rw [← hnq_3] at hraw_3 hh_3 ⊢
  clear hh
  have hkp_4 := hkp.tr hke_3
  refine lv_astore_n (lv' := [(2, .ref s.heap.size), (0, .ref r0), (1, .ref r1)]) hx hb dX9_longer__7 rfl hl (by decide) rfl (fun ls hl => ?_)
  refine lv_iconst (v := 0) hx hb dX9_longer__8 (by decide) ?_
  refine lv_istore_n (lv' := [(3, .int 0), (2, .ref s.heap.size), (0, .ref r0), (1, .ref r1)]) hx hb dX9_longer__9 rfl hl (by decide) rfl (fun ls hl => ?_)
  have L10 : ∀ (N : Nat) (fq_5 : Nat → Option Nat) (v3_5 : Int32) (H_5 : Heap) (locs_5 : List Loc), jSt (dC, dI) B base G0 G0 EX9_longer_ s.heap (0 + 1) (0 + nq_3) [] [] [] H_5 locs_5 → va_at (dC, dI) vwCl (s.heap.size, .inl (ca 8, nq_3, .inr (.inr (.inr (.inr fq_5))))) H_5 → jKe G0 G0 s.heap H_5 → (0 ≤ v3_5.toInt ∧ v3_5.toInt ≤ n0 ∧ jFq G0 fq_5 v3_5.toInt) → (n0 - v3_5.toInt : Int) < N → ∀ ls : Array Slot, lv_has ls 4 [(0, .ref r0), (1, .ref r1), (2, .ref s.heap.size), (3, .int v3_5)] → W p l e R s m ([.ref r0, .ref r1] : List Value).toArray below meth c H_5 locs_5 (0 + 1) (0 + nq_3) Q (F0 m 10 ls []) := by
    intro N
    induction N with
    | zero => intro fq_5 v3_5 H_5 locs_5 hh_5 hraw_5 hkp_5 hi_5 hm; exact absurd hm (by omega)
    | succ N L10 =>
      intro fq_5 v3_5 H_5 locs_5 hh_5 hraw_5 hkp_5 hi_5 hm_5 ls hl
      obtain ⟨hi_5_0, hi_5_1, hi_5_2⟩ := hi_5
      refine lv_iload_n hx hb dX9_longer__10 rfl (lv_at hl 3 rfl) ?_
      refine lv_aload_n hx hb dX9_longer__11 rfl (lv_at hl 0 rfl) ?_
      refine j7_qlen hx hb hK5.1 hh_5 hB313 0 rfl (by decide) hg_r0 (by omega) dX9_longer__12 (fun z_6 hz_6 => ?_)
      refine lv_icmp_ge (tgt := 28) hx hb dX9_longer__13 (by decide) (fun c_7 => ?_) (fun c_7 => ?_)
      · skip
        have c_7' : v3_5.toInt ≥ z_6.toInt := jb_ge (rfl) (rfl) c_7
        refine lv_aload_n hx hb dX9_longer__28 rfl (lv_at hl 2 rfl) ?_
        refine lv_aload_n hx hb dX9_longer__29 rfl (lv_at hl 0 rfl) ?_
        refine j7_qlen hx hb hK5.1 hh_5 hB313 0 rfl (by decide) hg_r0 (by omega) dX9_longer__30 (fun z_8 hz_8 => ?_)
        refine lv_aload_n hx hb dX9_longer__31 rfl (lv_at hl 1 rfl) ?_
        refine j7_qastA hx hb hK5 hh_5 hB hraw_5 hnr_3 hbr_3 (x := z_8.toInt) (rfl) (by omega) hB280 (by decide) hg_r1 dX9_longer__32 (fun H_9 locs_9 hraw_9 hr_9 hh_9 => ?_)
        have hkp_10 := hkp_5.st hsy_3 hr_9
        clear hr_9
        clear hh_5
        refine lv_aload_n hx hb dX9_longer__33 rfl (lv_at hl 2 rfl) ?_
        have hsz_11 := hh_9.2.2.2.2.2.1
        have htt_11 := hh_9.2.2.2.2.2.2.1
        refine W.room (fun hrc_11 hrs_11 => ?_)
        refine W.widen (k := LC - s.heap.size) (n := LS - jTot s.heap) (by omega) (by omega) ?_
        rw [hQ]
        have hle_12 : jLe G0 (va_up G0 s.heap.size (some (313, nq_3))) := jLe.typ hnr_3
        have hh_12 := hh_9.typ (k := 313) (n := nq_3) hB hnr_3 hbr_3 hraw_9.lt (jAq.of hB313 hraw_9 ((hi_5_2.put (i1 := v3_5.toInt + 1) (by omega) rfl (by omega) hg_r1 (by omega)).all (by omega) hle_12))
        have hgn_12 : (va_up G0 s.heap.size (some (313, nq_3))) s.heap.size = some (313, nq_3) := jUp_self
        have hN_12 : (jNk [0, 1, 2, 3, 4, 5, 6, 7, 8, 9, 10, 11, 12, 13, 14, 15, 16, 17, 175]) G0 (va_up G0 s.heap.size (some (313, nq_3))) := jNk.new (by decide)
        have hNn_12 : (jNk [0, 1, 2, 3, 4, 5, 6, 7, 8, 9, 10, 11, 12, 13, 14, 15, 16, 17, 175]) G0 (va_up G0 s.heap.size (some (313, nq_3))) := (jNk.rf).tr hN_12
        have hkp_13 := hkp_10.typn (t := some (313, nq_3)) hsy_3
        exact W.aret (v := .ref s.heap.size) hx hb hr (Or.inr ⟨_, rfl⟩) (Or.inr ⟨_, rfl⟩) (fun t ht hW => ⟨⟨.ref s.heap.size, (nq_3, (va_up G0 s.heap.size (some (313, nq_3)))), rfl, ⟨⟨_, rfl, hgn_12⟩, ⟨_, rfl, hsy_3⟩, by (try dsimp only); first | omega | rfl | assumption | fail⟩, ⟨hh_12.ra (by first | omega | (simp only; omega)) (by first | omega | (simp only; omega)) (M1 := []) [] rfl ht, hNn_12, by rw [ht]; exact hkp_13⟩⟩, by rw [ht]; try exact hh_12.1.1, fun q h9 hq => by rw [ht]; try exact hh_12.1.2.1 q h9 hq⟩) hh_12.1.2.2 dX9_longer__34
      · skip
        have c_7' : v3_5.toInt < z_6.toInt := jb_ge_n (rfl) (rfl) c_7
        refine lv_aload_n hx hb dX9_longer__16 rfl (lv_at hl 2 rfl) ?_
        refine lv_iload_n hx hb dX9_longer__17 rfl (lv_at hl 3 rfl) ?_
        refine lv_aload_n hx hb dX9_longer__18 rfl (lv_at hl 0 rfl) ?_
        refine lv_iload_n hx hb dX9_longer__19 rfl (lv_at hl 3 rfl) ?_
        refine j7_qaldA hx hb hK5 hh_5 hB313 (by decide) hg_r0 (x := v3_5.toInt) (rfl) (by omega) dX9_longer__20 (fun o_14 ho_14 => ?_)
        obtain ⟨el_15, nel_15, rfl, hg_el_15, hn_el_15⟩ := ho_14
        simp only [va_rf]
        refine j7_qastA hx hb hK5 hh_5 hB hraw_5 hnr_3 hbr_3 (x := v3_5.toInt) (rfl) (by omega) hB280 (by decide) hg_el_15 dX9_longer__21 (fun H_16 locs_16 hraw_16 hr_16 hh_16 => ?_)
        have hkp_17 := hkp_5.st hsy_3 hr_16
        clear hr_16
        clear hh_5
        obtain ⟨z_18, ez_18⟩ : ∃ y : Int32, y = v3_5 + 1 := ⟨_, rfl⟩
        refine lv_iinc (v := z_18) (lv' := [(3, .int z_18), (0, .ref r0), (1, .ref r1), (2, .ref s.heap.size)]) hx hb dX9_longer__22 hl (k := 3) rfl (by rw [ez_18]; rfl) (by decide) rfl (fun ls hl => ?_)
        have hz_18 : z_18.toInt = v3_5.toInt + 1 := by rw [ez_18]; exact jb_iadd2 (rfl) (by decide) (by omega)
        refine lv_goto (tgt := 10) hx hb dX9_longer__25 (by decide) ?_
        refine W.tight (c2 := (0 + 1)) (n2 := (0 + nq_3)) hh_16.2.2.2.2.2.1 hh_16.2.2.2.2.2.2.1 ?_
        exact L10 (va_up fq_5 (v3_5.toInt).toNat (some el_15)) z_18 _ _ hh_16 (hraw_16) (hkp_17) (by refine ⟨by omega, by omega, ?_⟩; exact hi_5_2.put rfl (by omega) (by omega) (by assumption) (by assumption)) (by omega) _ (lv_sub hl [1, 2, 3, 0] rfl)
  refine W.tight (c2 := (0 + 1)) (n2 := (0 + nq_3)) hh_3.2.2.2.2.2.1 hh_3.2.2.2.2.2.2.1 ?_
  exact L10 (n0 - (0 : Int32).toInt : Int).toNat.succ (fun _ => none) 0 _ _ hh_3 (hraw_3) (hkp_4) (by refine ⟨by omega, by omega, jFq.zero (by omega)⟩) (by omega) _ (lv_sub hl [2, 3, 1, 0] rfl)
end
section
theorem dX3_withHypothesis_0 : decode cX3_withHypothesis 0 = .ok (.new 10, 3) := by decide +kernel
theorem dX3_withHypothesis_3 : decode cX3_withHypothesis 3 = .ok (.dup, 1) := by decide +kernel
theorem dX3_withHypothesis_4 : decode cX3_withHypothesis 4 = .ok (.aload_n 0, 1) := by decide +kernel
theorem dX3_withHypothesis_5 : decode cX3_withHypothesis 5 = .ok (.getfield 9, 3) := by decide +kernel
theorem dX3_withHypothesis_8 : decode cX3_withHypothesis 8 = .ok (.aload_n 0, 1) := by decide +kernel
theorem dX3_withHypothesis_9 : decode cX3_withHypothesis 9 = .ok (.getfield 15, 3) := by decide +kernel
theorem dX3_withHypothesis_12 : decode cX3_withHypothesis 12 = .ok (.iload_n 1, 1) := by decide +kernel
theorem dX3_withHypothesis_13 : decode cX3_withHypothesis 13 = .ok (.invokestatic 28, 3) := by decide +kernel
theorem dX3_withHypothesis_16 : decode cX3_withHypothesis 16 = .ok (.aload_n 0, 1) := by decide +kernel
theorem dX3_withHypothesis_17 : decode cX3_withHypothesis 17 = .ok (.getfield 18, 3) := by decide +kernel
theorem dX3_withHypothesis_20 : decode cX3_withHypothesis 20 = .ok (.aload_n 2, 1) := by decide +kernel
theorem dX3_withHypothesis_21 : decode cX3_withHypothesis 21 = .ok (.invokestatic 34, 3) := by decide +kernel
theorem dX3_withHypothesis_24 : decode cX3_withHypothesis 24 = .ok (.aload_n 3, 1) := by decide +kernel
theorem dX3_withHypothesis_25 : decode cX3_withHypothesis 25 = .ok (.invokespecial 25, 3) := by decide +kernel
theorem dX3_withHypothesis_28 : decode cX3_withHypothesis 28 = .ok (.areturn, 1) := by decide +kernel
def EX3_withHypothesis : List (Nat × Nat) := [(101, 0)]
set_option maxHeartbeats 4000000 in
set_option maxRecDepth 20000 in
theorem uX3_withHypothesis (l : Launch) (dC : Nat → ClassId) (dI : Nat → Nat → Nat) (ca : Nat → ClassId) (base : Nat) (B : jF) (hB : jBok B) (hAp : jAp (dC, dI)) (hB5 : ∀ n G a H, B 5 n G a H ↔ jOb (dC, dI) 5 4 (F5 n G) a H) (hB101 : ∀ n G a H, B 101 n G a H ↔ jAr (dC, dI) (ca 1) (fun j z => True) n a H) (hB280 : ∀ n G a H, B 280 n G a H ↔ jAr (dC, dI) (ca 1) (fun j z => -1 ≤ z.toInt) n a H) (hB313 : ∀ n G a H, B 313 n G a H ↔ jAq (dC, dI) (ca 8) (jQk 280 80) n G a H) (G0 : jT) (H0 : Heap) (r0 : Nat) (a1 : Int32) (r2 : Nat) (r3 : Nat) (n0 : Nat) (n2 : Nat) (n3 : Nat) (LC LS : Nat) : Met l yX3_withHypothesis (jw yX3_withHypothesis cX3_withHypothesis 4 (some (.object "ProofServer$Goal"))) ({ frames := 3, cells := LC - H0.size, slots := LS - jTot H0, locals := 105 }) (va_Pc [.ref r0, .int a1, .ref r2, .ref r3] (fun U => U.heap = H0 ∧ jX B base G0 [] H0 ∧ jG dC dI ca base U ∧ jK5 dC dI ca U ∧ G0 r0 = some (5, n0) ∧ G0 r2 = some (280, n2) ∧ G0 r3 = some (280, n3) ∧ jP (dC, dI) G0 H0 [] ∧ H0.size + 3 ≤ LC ∧ jTot H0 + 30 ≤ LS ∧ (n0 % 10 = 1 ∨ n0 % 10 = 2) ∧ n0 / 10 ≤ 8 ∧ n2 ≤ 80 ∧ n3 ≤ 80)) (jQx (S := Nat × jT) (fun v u => jRf u.2 5 u.1 v ∧ jNwv v H0 ∧ u.1 / 10 = n0 / 10 + 1 ∧ ((u.1 % 10 = 1 ∧ n0 % 10 = 1 ∧ n0 / 10 < 8) ∨ (u.1 % 10 = 2 ∧ n0 % 10 = 2) ∨ (u.1 % 10 = 3 ∧ 8 ≤ n0 / 10))) (fun u t => jRa (dC, dI) B base G0 u.2 EX3_withHypothesis H0 (3) (24) [] t.heap ∧ (jNk [0, 1, 2, 3, 4, 6, 7, 8, 9, 10, 11, 12, 13, 14, 15, 16, 17, 175]) G0 u.2) (jA base)) (LC - H0.size) (LS - jTot H0) (jA base) := by
  refine Met.ofW (cc := cX3_withHypothesis) (maxL := 4) (ret := (some (.object "ProofServer$Goal"))) (by decide) rfl ?_
  intro p e s m args below meth c s₁ Bd hml hv
  obtain ⟨rfl, hH0, hX, hG, hK5, hg_r0, hg_r2, hg_r3, hP0, hLC0, hLS0, hp0, hp1, hp2, hp3⟩ := hv
  have hK := hG.1
  have hx := Bd.exec
  have hb := Bd.bytes
  have hr := Bd.returns
  have hts := atoms_spec (ws := (jw yX3_withHypothesis cX3_withHypothesis 4 (some (.object "ProofServer$Goal")))) Bd.pre
  have htw : ∀ w ∈ jWl, w.before _ s = true := fun w h => hts w (List.mem_cons_of_mem _ h)
  have hown : s.vm.findClass RX3 = some m.cls := findClass_of_methodNamed Bd.named
  have hlocks := Bd.notSynchronized
  obtain ⟨Q, hQ⟩ : ∃ Q, Q = MQ below (jQx (S := Nat × jT) (fun v u => jRf u.2 5 u.1 v ∧ jNwv v H0 ∧ u.1 / 10 = n0 / 10 + 1 ∧ ((u.1 % 10 = 1 ∧ n0 % 10 = 1 ∧ n0 / 10 < 8) ∨ (u.1 % 10 = 2 ∧ n0 % 10 = 2) ∨ (u.1 % 10 = 3 ∧ 8 ≤ n0 / 10))) (fun u t => jRa (dC, dI) B base G0 u.2 EX3_withHypothesis H0 (3) (24) [] t.heap ∧ (jNk [0, 1, 2, 3, 4, 6, 7, 8, 9, 10, 11, 12, 13, 14, 15, 16, 17, 175]) G0 u.2) (jA base)) ([.ref r0, .int a1, .ref r2, .ref r3] : List Value).toArray s (LC - H0.size) (LS - jTot H0) (jA base) := ⟨_, rfl⟩
  rw [← hQ]
  have hl := lv_entry ([.ref r0, .int a1, .ref r2, .ref r3]) (n := 4) (Nat.le_of_ble_eq_true rfl)
  rw [lg_entry_eq]
  generalize (lg_sl ([.ref r0, .int a1, .ref r2, .ref r3]) ++ List.replicate (4 - (lg_sl ([.ref r0, .int a1, .ref r2, .ref r3])).length) Slot.unset).toArray = ls at hl ⊢
  have hl : lv_has ls 4 [(0, .ref r0), (1, .int a1), (2, .ref r2), (3, .ref r3)] := hl
  generalize hR : (headSpec (jw yX3_withHypothesis cX3_withHypothesis 4 (some (.object "ProofServer$Goal"))) ({ frames := 3, cells := LC - H0.size, slots := LS - jTot H0, locals := 105 })).room = R
  subst hH0
  have hh : jSt (dC, dI) B base G0 G0 EX3_withHypothesis s.heap 0 0 [] [] [] s.heap [] := jSt.start hX hP0 jMc.nil jIs.nil
  clear hX hP0
  have hk0 : (0 : Int32).toInt = 0 := by decide
  have hk1 : (1 : Int32).toInt = 1 := by decide
  have hly_5_0 := htw (u_lay RX3 TX3 0) (jWc_wsX30 _ (u_in_lay (by decide)))
  have hly_5_1 := htw (u_lay RX3 TX3 1) (jWc_wsX30 _ (u_in_lay (by decide)))
  have hly_5_2 := htw (u_lay RX3 TX3 2) (jWc_wsX30 _ (u_in_lay (by decide)))
  have hlk_9 := (htw (.fieldLink RX3 9 "ProofServer$Goal" "variables" "[I") (jWr_83 _ (List.mem_of_getElem? (i := 10) rfl)))
  have hlk_15 := (htw (.fieldLink RX3 15 "ProofServer$Goal" "names" "[I") (jWr_83 _ (List.mem_of_getElem? (i := 11) rfl)))
  have hlk_18 := (htw (.fieldLink RX3 18 "ProofServer$Goal" "hypotheses" "[[I") (jWr_83 _ (List.mem_of_getElem? (i := 12) rfl)))
  have hrg_a1 := jb_rng a1
  have hbs : base ≤ s.heap.size := Nat.le_of_lt (Nat.lt_of_le_of_lt (hh.ab hg_r0).1 (hh.ab hg_r0).2)
  have hRc : R.cells = LC - s.heap.size := by rw [← hR]; rfl
  have hRs : R.slots = LS - jTot s.heap := by rw [← hR]; rfl
  obtain ⟨kh, hqa, hqb⟩ : ∃ q : Nat, q / 10 = n0 / 10 + 1 ∧ ((q % 10 = 1 ∧ n0 % 10 = 1 ∧ n0 / 10 < 8) ∨ (q % 10 = 2 ∧ n0 % 10 = 2) ∨ (q % 10 = 3 ∧ n0 % 10 = 1 ∧ 8 ≤ n0 / 10)) := by
    rcases (by omega : (n0 % 10 = 1 ∧ n0 / 10 < 8) ∨ n0 % 10 = 2 ∨ (n0 % 10 = 1 ∧ 8 ≤ n0 / 10)) with h | h | h
    · exact ⟨10 * (n0 / 10 + 1) + 1, by omega, by omega⟩
    · exact ⟨10 * (n0 / 10 + 1) + 2, by omega, by omega⟩
    · exact ⟨10 * (n0 / 10 + 1) + 3, by omega, by omega⟩
  have hsz_1 := hh.2.2.2.2.2.1
  have htt_1 := hh.2.2.2.2.2.2.1
  refine j7_newo (k := 5) (C := RX3) (T := TX3) (N := 4) (fs := [.null, .null, .null, .null]) hx hb htw jWc_wsX30 (fun k => ([(.array .int), (.array .int), (.array (.array .int)), (.array .int)] : List FieldType).getD k .int) (by decide +kernel) hown (htw (.classLink RX3 10 RX3) (jWr_85 _ (List.mem_of_getElem? (i := 4) rfl))) (htw (.instantiable RX3 4) (jWr_82 _ (List.mem_of_getElem? (i := 9) rfl))) (htw (.initialized RX3) (jWr_82 _ (List.mem_of_getElem? (i := 10) rfl))) hK rfl (fun j hj => by rcases (by omega : j = 0 ∨ j = 1 ∨ j = 2 ∨ j = 3) with rfl | rfl | rfl | rfl <;> rfl) hh hB (by rw [hRc]; omega) (by rw [hRs]; omega) dX3_withHypothesis_0 (fun H_1 hraw_1 hfr_1 hnr_1 hh_1 => ?_)
  have hke_1 : jKe G0 G0 s.heap H_1 := jKe.raw hfr_1
  have hbr_1 : base ≤ s.heap.size := Nat.le_trans hbs hh.1.1
  have hsy_1 : s.heap.size ≤ s.heap.size := hh.1.1
  clear hh
  refine lv_dup hx hb dX3_withHypothesis_3 rfl ?_
  refine lv_aload_n hx hb dX3_withHypothesis_4 rfl (lv_at hl 0 rfl) ?_
  obtain ⟨v_2, hv_2, hh_3⟩ := hh_1.pin (C := RX3) (T := TX3) (N := 4) hB5 rfl (by decide) hg_r0 (i := 0) (by decide) rfl
  clear hh_1
  obtain ⟨variables_4, nvariables_4, rfl, hg_variables_4, hvavariables_4, hvbvariables_4, hvcvariables_4⟩ := hv_2
  refine j7_read hx hb hown hK (C := RX3) (T := TX3) (N := 4) rfl hly_5_0 hlk_9 (hh_3.at 0 rfl) dX3_withHypothesis_5 ?_
  refine lv_aload_n hx hb dX3_withHypothesis_8 rfl (lv_at hl 0 rfl) ?_
  obtain ⟨v_5, hv_5, hh_6⟩ := hh_3.pin (C := RX3) (T := TX3) (N := 4) hB5 rfl (by decide) hg_r0 (i := 1) (by decide) rfl
  clear hh_3
  obtain ⟨names_7, rfl, hg_names_7⟩ := hv_5
  refine j7_read hx hb hown hK (C := RX3) (T := TX3) (N := 4) rfl hly_5_1 hlk_15 (hh_6.at 0 rfl) dX3_withHypothesis_9 ?_
  refine lv_iload_n hx hb dX3_withHypothesis_12 rfl (lv_at hl 1 rfl) ?_
  have hsz_8 := hh_6.2.2.2.2.2.1
  have htt_8 := hh_6.2.2.2.2.2.2.1
  refine W.room (fun hrc_8 hrs_8 => ?_)
  refine j_callx (A0 := jA base) (H0 := s.heap) (va_runS (As := [.ref names_7, .int a1]) (rest := [.ref variables_4, .ref s.heap.size, .ref s.heap.size]) ⟨hx, hb, hml, hown, hts⟩ (uX9_longer l dC dI ca base B hB hAp hB101 G0 H_1 names_7 a1 (n0 / 10) LC LS) (va_cwS 2 hts (jgS (jWr_85 _ (List.mem_of_getElem? (i := 5) rfl)) (jWr_81 _ (List.mem_of_getElem? (i := 20) rfl)) (jWr_4 _ (List.mem_of_getElem? (i := 18) rfl)) (jWr_81 _ (List.mem_of_getElem? (i := 21) rfl))) rfl rfl rfl (by decide +kernel) ⟨by rw [← hR]; exact Nat.le_of_ble_eq_true rfl, by rw [← hR]; exact Nat.le_of_ble_eq_true rfl⟩) ⟨fun a U g mk q => by obtain ⟨q0, q1, q2, qK, q10, q11, q12⟩ := q; exact ⟨q0, q1, q2, jG.calling g mk a qK, q10, q11, q12⟩, fun U hU hW => ⟨rfl, hU, hh_6.2.1, hG.step hW hU hh_6.1, hg_names_7, jP.nil, by first | omega | rfl | assumption | decide | exact Or.inl rfl | exact Or.inr rfl | (simp only; omega)⟩⟩ rfl rfl hl.1 rfl (lv_room (Nat.le_of_ble_eq_true rfl)) dX3_withHypothesis_13 ⟨by rw [hRc]; omega, by rw [hRs]; omega⟩) hh_6.1 (fun q _ h => h) (fun q h => h) (fun r_9 u_8 t_8 H_8 locs_8 ht_8 hvm_8 hr_9 hb_8 hz_8 hk_8 hS_8 => ?_)
  rw [ht_8] at hb_8
  obtain ⟨m_ret_8, G_8⟩ := u_8
  simp only at hb_8
  obtain ⟨⟨hb_81, hb_82, hb_83, hb_84, hb_85, hb_86⟩, hN_8, hbK_8⟩ := hb_8
  have hN_8 : (jNk [0, 1, 2, 3, 4, 6, 7, 8, 9, 10, 11, 12, 13, 14, 15, 16, 17, 175]) G0 G_8 := hN_8.sub (by decide)
  have hh_8 : jSt (dC, dI) B base G0 G_8 EX3_withHypothesis s.heap ((0 + 1) + (1)) ((0 + 4) + (m_ret_8)) [(r0, 5, 1, .ref names_7), (r0, 5, 0, .ref variables_4)] [] [] H_8 locs_8 := (hh_6.callG hb_81 hb_82 hb_83 hb_84 hb_85 hS_8 rfl (L1 := [(r0, 5, 1, .ref names_7), (r0, 5, 0, .ref variables_4)]) [0, 1] rfl rfl (M1 := []) [] rfl rfl (I1 := []) [] rfl rfl).more hb_86
  have hNn_8 : (jNk [0, 1, 2, 3, 4, 6, 7, 8, 9, 10, 11, 12, 13, 14, 15, 16, 17, 175]) G0 G_8 := (jNk.rf).tr hN_8
  have hg_10 := hb_82 _ _ hg_r0
  have hg_11 := hb_82 _ _ hg_r2
  have hg_12 := hb_82 _ _ hg_r3
  have hg_13 := hb_82 _ _ hg_variables_4
  have hg_14 := hb_82 _ _ hg_names_7
  obtain ⟨hr_9, hr_9n, hr_9p⟩ := hr_9
  try simp only at hr_9p
  have hraw_15n := hbK_8.nr hraw_1.lt hnr_1
  have hraw_15 := hraw_1.kept (hbK_8.1 _ hraw_1.lt)
  obtain ⟨ret_16, rfl, hg_ret_16⟩ := hr_9
  have hsy_8 : s.heap.size ≤ ret_16 := Nat.le_trans hh_6.1.1 hr_9n.le
  refine lv_aload_n hx hb dX3_withHypothesis_16 rfl (lv_at hl 0 rfl) ?_
  obtain ⟨v_17, hv_17, hh_18⟩ := hh_8.pin (C := RX3) (T := TX3) (N := 4) hB5 rfl (by decide) hg_10 (i := 2) (by decide) rfl
  clear hh_8
  obtain ⟨hypotheses_19, khypotheses_19, rfl, hg_hypotheses_19, hhahypotheses_19, hhbhypotheses_19, hhchypotheses_19, hhdhypotheses_19, hhehypotheses_19⟩ := hv_17
  obtain rfl : khypotheses_19 = 313 := hhbhypotheses_19 (by omega)
  refine j7_read hx hb hown hK (C := RX3) (T := TX3) (N := 4) rfl hly_5_2 hlk_18 (hh_18.at 0 rfl) dX3_withHypothesis_17 ?_
  refine lv_aload_n hx hb dX3_withHypothesis_20 rfl (lv_at hl 2 rfl) ?_
  have hsz_20 := hh_18.2.2.2.2.2.1
  have htt_20 := hh_18.2.2.2.2.2.2.1
  refine W.room (fun hrc_20 hrs_20 => ?_)
  refine j_callx (A0 := jA base) (H0 := s.heap) (va_runS (As := [.ref hypotheses_19, .ref r2]) (rest := [.ref ret_16, .ref variables_4, .ref s.heap.size, .ref s.heap.size]) ⟨hx, hb, hml, hown, hts⟩ (uX9_longer_ l dC dI ca base B hB hAp hB280 hB313 G_8 H_8 hypotheses_19 r2 (n0 / 10) n2 LC LS) (va_cwS 2 hts (jgS (jWr_85 _ (List.mem_of_getElem? (i := 6) rfl)) (jWr_83 _ (List.mem_of_getElem? (i := 4) rfl)) (jWr_4 _ (List.mem_of_getElem? (i := 18) rfl)) (jWr_83 _ (List.mem_of_getElem? (i := 5) rfl))) rfl rfl rfl (by decide +kernel) ⟨by rw [← hR]; exact Nat.le_of_ble_eq_true rfl, by rw [← hR]; exact Nat.le_of_ble_eq_true rfl⟩) ⟨fun a U g mk q => by obtain ⟨q0, q1, q2, qK, q10, q11, q12, q13, q14⟩ := q; exact ⟨q0, q1, q2, jG.calling g mk a qK, (jK5.moved (Vm.Alike.refl U.vm) q10), q11, q12, q13, q14⟩, fun U hU hW => ⟨rfl, hU, hh_18.2.1, hG.step hW hU hh_18.1, jK5.moved hW.alike hK5, hg_hypotheses_19, hg_11, jP.nil, by first | omega | (refine ⟨?_, ?_⟩ <;> (first | omega | rfl | assumption | decide | exact Or.inl rfl | exact Or.inr rfl | (simp only; omega)))⟩⟩ rfl rfl hl.1 rfl (lv_room (Nat.le_of_ble_eq_true rfl)) dX3_withHypothesis_21 ⟨by rw [hRc]; omega, by rw [hRs]; omega⟩) hh_18.1 (fun q _ h => h) (fun q h => h) (fun r_21 u_20 t_20 H_20 locs_20 ht_20 hvm_20 hr_21 hb_20 hz_20 hk_20 hS_20 => ?_)
  rw [ht_20] at hb_20
  obtain ⟨m_ret_20, G_20⟩ := u_20
  simp only at hb_20
  obtain ⟨⟨hb_201, hb_202, hb_203, hb_204, hb_205, hb_206⟩, hN_20, hbK_20⟩ := hb_20
  have hN_20 : (jNk [0, 1, 2, 3, 4, 6, 7, 8, 9, 10, 11, 12, 13, 14, 15, 16, 17, 175]) G_8 G_20 := hN_20.sub (by decide)
  have hh_20 : jSt (dC, dI) B base G0 G_20 EX3_withHypothesis s.heap (((0 + 1) + (1)) + (1)) (((0 + 4) + (m_ret_8)) + (m_ret_20)) [(r0, 5, 2, .ref hypotheses_19), (r0, 5, 1, .ref names_7), (r0, 5, 0, .ref variables_4)] [] [] H_20 locs_20 := (hh_18.callG hb_201 hb_202 hb_203 hb_204 hb_205 hS_20 rfl (L1 := [(r0, 5, 2, .ref hypotheses_19), (r0, 5, 1, .ref names_7), (r0, 5, 0, .ref variables_4)]) [0, 1, 2] rfl rfl (M1 := []) [] rfl rfl (I1 := []) [] rfl rfl).more hb_206
  have hNn_20 : (jNk [0, 1, 2, 3, 4, 6, 7, 8, 9, 10, 11, 12, 13, 14, 15, 16, 17, 175]) G0 G_20 := (hNn_8).tr hN_20
  have hg_22 := hb_202 _ _ hg_10
  have hg_23 := hb_202 _ _ hg_11
  have hg_24 := hb_202 _ _ hg_12
  have hg_25 := hb_202 _ _ hg_ret_16
  have hg_26 := hb_202 _ _ hg_13
  have hg_27 := hb_202 _ _ hg_hypotheses_19
  have hg_28 := hb_202 _ _ hg_14
  obtain ⟨hr_21, hr_21n, hr_21p⟩ := hr_21
  try simp only at hr_21p
  have hraw_29n := hbK_20.nr hraw_15.lt hraw_15n
  have hraw_29 := hraw_15.kept (hbK_20.1 _ hraw_15.lt)
  obtain ⟨ret_30, rfl, hg_ret_30⟩ := hr_21
  have hsy_20 : s.heap.size ≤ ret_30 := Nat.le_trans hh_18.1.1 hr_21n.le
  refine lv_aload_n hx hb dX3_withHypothesis_24 rfl (lv_at hl 3 rfl) ?_
  have hsz_31 := hh_20.2.2.2.2.2.1
  have htt_31 := hh_20.2.2.2.2.2.2.1
  refine W.room (fun hrc_31 hrs_31 => ?_)
  refine va_callv (A0 := jA base) (H0 := s.heap) (va_runI (As := [.ref variables_4, .ref ret_16, .ref ret_30, .ref r3]) (rest := [.ref s.heap.size]) ⟨hx, hb, hml, hown, hts⟩ (uX3_init l dC dI ca base B hB hAp hB5 hB101 hB280 hB313 G_20 H_20 s.heap.size variables_4 ret_16 ret_30 r3 nvariables_4 m_ret_8 m_ret_20 n3 kh LC LS) (cwI 4 hts (jgW (jWr_83 _ (List.mem_of_getElem? (i := 8) rfl))) rfl rfl rfl (htw (.initialized RX3) (jWr_82 _ (List.mem_of_getElem? (i := 10) rfl))) (htw (.methodLink RX3 25 yX3_init) (jWr_85 _ (List.mem_of_getElem? (i := 7) rfl))) (htw (.instanceMethod yX3_init) (jWr_83 _ (List.mem_of_getElem? (i := 7) rfl))) rfl (by decide +kernel) ⟨by rw [← hR]; exact Nat.le_of_ble_eq_true rfl, by rw [← hR]; exact Nat.le_of_ble_eq_true rfl⟩) ⟨fun a U g mk q => by obtain ⟨q0, q1, q2, qK, q10, q11, q12, q13, q14, q15, q16, q17, q18⟩ := q; exact ⟨q0, q1, q2, jG.calling g mk a qK, q10, q11, q12, q13, q14, q15, q16, q17, q18⟩, fun U hU hW => ⟨rfl, hU, hh_20.2.1, hG.step hW hU hh_20.1, hg_26, hg_25, hg_ret_30, hg_24, hraw_29, hraw_29n, hbr_1, jP.nil, (by omega), (by omega), by first | omega | (refine ⟨?_, ?_, ?_, ?_, ?_, ?_⟩ <;> (first | omega | rfl | assumption | decide | exact Or.inl rfl | exact Or.inr rfl | (simp only; omega)))⟩⟩ rfl rfl hl.1 rfl (lv_room (Nat.le_of_ble_eq_true rfl)) dX3_withHypothesis_25 ⟨by rw [hRc]; omega, by rw [hRs]; omega⟩) hh_20.1 (fun q _ h => h) (fun q h => h) (fun u_31 t_31 H_31 locs_31 ht_31 hvm_31 hr_32 hb_31 hz_31 hk_31 hS_31 => ?_)
  rw [ht_31] at hb_31
  obtain ⟨G_31, rfl⟩ : ∃ z, z = u_31 := ⟨_, rfl⟩
  try simp only at hb_31
  obtain ⟨⟨hb_311, hb_312, hb_313, hb_314, hb_315, hb_316⟩, hN_31, hgc_31, hbX_31⟩ := hb_31
  have hh_31 : jSt (dC, dI) B base G0 G_31 EX3_withHypothesis s.heap ((((0 + 1) + (1)) + (1)) + (0)) ((((0 + 4) + (m_ret_8)) + (m_ret_20)) + (0)) [(r0, 5, 2, .ref hypotheses_19), (r0, 5, 1, .ref names_7), (r0, 5, 0, .ref variables_4)] [] [] H_31 locs_31 := (hh_20.callG hb_311 hb_312 hb_313 hb_314 hb_315 hS_31 rfl (L1 := [(r0, 5, 2, .ref hypotheses_19), (r0, 5, 1, .ref names_7), (r0, 5, 0, .ref variables_4)]) [0, 1, 2] rfl rfl (M1 := []) [] rfl rfl (I1 := []) [] rfl rfl).more hb_316
  have hNn_31 : (jNk [0, 1, 2, 3, 4, 6, 7, 8, 9, 10, 11, 12, 13, 14, 15, 16, 17, 175]) G0 G_31 := (hNn_20).tr hN_31
  have hg_33 := hb_312 _ _ hg_22
  have hg_34 := hb_312 _ _ hg_23
  have hg_35 := hb_312 _ _ hg_24
  have hg_36 := hb_312 _ _ hg_27
  have hg_37 := hb_312 _ _ hg_28
  have hg_38 := hb_312 _ _ hg_26
  try simp only at hr_32
  have hsz_39 := hh_31.2.2.2.2.2.1
  have htt_39 := hh_31.2.2.2.2.2.2.1
  refine W.room (fun hrc_39 hrs_39 => ?_)
  refine W.widen (k := LC - s.heap.size) (n := LS - jTot s.heap) (by omega) (by omega) ?_
  rw [hQ]
  exact W.aret (v := .ref s.heap.size) hx hb hr (Or.inl ⟨_, rfl⟩) (Or.inr ⟨_, rfl⟩) (fun t ht hW => ⟨⟨.ref s.heap.size, (kh, G_31), rfl, ⟨⟨_, rfl, hgc_31⟩, ⟨_, rfl, hsy_1⟩, by (try dsimp only); exact ⟨(by first | omega | rfl | assumption | fail), (by first | omega | rfl | assumption | fail)⟩⟩, ⟨hh_31.ra (by first | omega | (simp only; omega)) (by first | omega | (simp only; omega)) (M1 := []) [] rfl ht, hNn_31⟩⟩, by rw [ht]; try exact hh_31.1.1, fun q h9 hq => by rw [ht]; try exact hh_31.1.2.1 q h9 hq⟩) hh_31.1.2.2 dX3_withHypothesis_28
end
section
theorem dX3_without_0 : decode cX3_without 0 = .ok (.aload_n 0, 1) := by decide +kernel
theorem dX3_without_1 : decode cX3_without 1 = .ok (.getfield 15, 3) := by decide +kernel
theorem dX3_without_4 : decode cX3_without 4 = .ok (.arraylength, 1) := by decide +kernel
theorem dX3_without_5 : decode cX3_without 5 = .ok (.iconst 1, 1) := by decide +kernel
theorem dX3_without_6 : decode cX3_without 6 = .ok (.isub, 1) := by decide +kernel
theorem dX3_without_7 : decode cX3_without 7 = .ok (.iconst 0, 1) := by decide +kernel
theorem dX3_without_8 : decode cX3_without 8 = .ok (.invokestatic 37, 3) := by decide +kernel
theorem dX3_without_11 : decode cX3_without 11 = .ok (.istore_n 2, 1) := by decide +kernel
theorem dX3_without_12 : decode cX3_without 12 = .ok (.iload_n 2, 1) := by decide +kernel
theorem dX3_without_13 : decode cX3_without 13 = .ok (.newarray .int, 2) := by decide +kernel
theorem dX3_without_15 : decode cX3_without 15 = .ok (.astore_n 3, 1) := by decide +kernel
theorem dX3_without_16 : decode cX3_without 16 = .ok (.iload_n 2, 1) := by decide +kernel
theorem dX3_without_17 : decode cX3_without 17 = .ok (.anewarray 43, 3) := by decide +kernel
theorem dX3_without_20 : decode cX3_without 20 = .ok (.astore 4, 2) := by decide +kernel
theorem dX3_without_22 : decode cX3_without 22 = .ok (.iconst 0, 1) := by decide +kernel
theorem dX3_without_23 : decode cX3_without 23 = .ok (.istore 5, 2) := by decide +kernel
theorem dX3_without_25 : decode cX3_without 25 = .ok (.iload 5, 2) := by decide +kernel
theorem dX3_without_27 : decode cX3_without 27 = .ok (.iload_n 2, 1) := by decide +kernel
theorem dX3_without_28 : decode cX3_without 28 = .ok (.if_icmp .ge 49, 3) := by decide +kernel
theorem dX3_without_31 : decode cX3_without 31 = .ok (.iload 5, 2) := by decide +kernel
theorem dX3_without_33 : decode cX3_without 33 = .ok (.iload_n 1, 1) := by decide +kernel
theorem dX3_without_34 : decode cX3_without 34 = .ok (.if_icmp .ge 8, 3) := by decide +kernel
theorem dX3_without_37 : decode cX3_without 37 = .ok (.iload 5, 2) := by decide +kernel
theorem dX3_without_39 : decode cX3_without 39 = .ok (.goto 7, 3) := by decide +kernel
theorem dX3_without_42 : decode cX3_without 42 = .ok (.iload 5, 2) := by decide +kernel
theorem dX3_without_44 : decode cX3_without 44 = .ok (.iconst 1, 1) := by decide +kernel
theorem dX3_without_45 : decode cX3_without 45 = .ok (.iadd, 1) := by decide +kernel
theorem dX3_without_46 : decode cX3_without 46 = .ok (.istore 6, 2) := by decide +kernel
theorem dX3_without_48 : decode cX3_without 48 = .ok (.aload_n 3, 1) := by decide +kernel
theorem dX3_without_49 : decode cX3_without 49 = .ok (.iload 5, 2) := by decide +kernel
theorem dX3_without_51 : decode cX3_without 51 = .ok (.aload_n 0, 1) := by decide +kernel
theorem dX3_without_52 : decode cX3_without 52 = .ok (.getfield 15, 3) := by decide +kernel
theorem dX3_without_55 : decode cX3_without 55 = .ok (.iload 6, 2) := by decide +kernel
theorem dX3_without_57 : decode cX3_without 57 = .ok (.iaload, 1) := by decide +kernel
theorem dX3_without_58 : decode cX3_without 58 = .ok (.iastore, 1) := by decide +kernel
theorem dX3_without_59 : decode cX3_without 59 = .ok (.aload 4, 2) := by decide +kernel
theorem dX3_without_61 : decode cX3_without 61 = .ok (.iload 5, 2) := by decide +kernel
theorem dX3_without_63 : decode cX3_without 63 = .ok (.aload_n 0, 1) := by decide +kernel
theorem dX3_without_64 : decode cX3_without 64 = .ok (.getfield 18, 3) := by decide +kernel
theorem dX3_without_67 : decode cX3_without 67 = .ok (.iload 6, 2) := by decide +kernel
theorem dX3_without_69 : decode cX3_without 69 = .ok (.aaload, 1) := by decide +kernel
theorem dX3_without_70 : decode cX3_without 70 = .ok (.aastore, 1) := by decide +kernel
theorem dX3_without_71 : decode cX3_without 71 = .ok (.iinc 5 1, 3) := by decide +kernel
theorem dX3_without_74 : decode cX3_without 74 = .ok (.goto (-49), 3) := by decide +kernel
theorem dX3_without_77 : decode cX3_without 77 = .ok (.new 10, 3) := by decide +kernel
theorem dX3_without_80 : decode cX3_without 80 = .ok (.dup, 1) := by decide +kernel
theorem dX3_without_81 : decode cX3_without 81 = .ok (.aload_n 0, 1) := by decide +kernel
theorem dX3_without_82 : decode cX3_without 82 = .ok (.getfield 9, 3) := by decide +kernel
theorem dX3_without_85 : decode cX3_without 85 = .ok (.aload_n 3, 1) := by decide +kernel
theorem dX3_without_86 : decode cX3_without 86 = .ok (.aload 4, 2) := by decide +kernel
theorem dX3_without_88 : decode cX3_without 88 = .ok (.aload_n 0, 1) := by decide +kernel
theorem dX3_without_89 : decode cX3_without 89 = .ok (.getfield 22, 3) := by decide +kernel
theorem dX3_without_92 : decode cX3_without 92 = .ok (.invokespecial 25, 3) := by decide +kernel
theorem dX3_without_95 : decode cX3_without 95 = .ok (.areturn, 1) := by decide +kernel
def EX3_without : List (Nat × Nat) := [(101, 0)]
set_option maxHeartbeats 4000000 in
set_option maxRecDepth 20000 in
theorem uX3_without (l : Launch) (dC : Nat → ClassId) (dI : Nat → Nat → Nat) (ca : Nat → ClassId) (base : Nat) (B : jF) (hB : jBok B) (hAp : jAp (dC, dI)) (hB5 : ∀ n G a H, B 5 n G a H ↔ jOb (dC, dI) 5 4 (F5 n G) a H) (hB101 : ∀ n G a H, B 101 n G a H ↔ jAr (dC, dI) (ca 1) (fun j z => True) n a H) (hB280 : ∀ n G a H, B 280 n G a H ↔ jAr (dC, dI) (ca 1) (fun j z => -1 ≤ z.toInt) n a H) (hB313 : ∀ n G a H, B 313 n G a H ↔ jAq (dC, dI) (ca 8) (jQk 280 80) n G a H) (G0 : jT) (H0 : Heap) (r0 : Nat) (a1 : Int32) (n0 : Nat) (LC LS : Nat) : Met l yX3_without (jw yX3_without cX3_without 7 (some (.object "ProofServer$Goal"))) ({ frames := 2, cells := LC - H0.size, slots := LS - jTot H0, locals := 55 }) (va_Pc [.ref r0, .int a1] (fun U => U.heap = H0 ∧ jX B base G0 [] H0 ∧ jG dC dI ca base U ∧ jK5 dC dI ca U ∧ G0 r0 = some (5, n0) ∧ jP (dC, dI) G0 H0 [] ∧ H0.size + 3 ≤ LC ∧ jTot H0 + 30 ≤ LS ∧ n0 % 10 = 1 ∧ 0 ≤ a1.toInt ∧ a1.toInt < n0 / 10 ∧ n0 / 10 ≤ 8)) (jQx (S := Nat × jT) (fun v u => jRf u.2 5 u.1 v ∧ jNwv v H0 ∧ u.1 = n0 - 10) (fun u t => jRa (dC, dI) B base G0 u.2 EX3_without H0 (3) (24) [] t.heap ∧ (jNk [0, 1, 2, 3, 4, 6, 7, 8, 9, 10, 11, 12, 13, 14, 15, 16, 17, 175]) G0 u.2) (jA base)) (LC - H0.size) (LS - jTot H0) (jA base) := by
  refine Met.ofW (cc := cX3_without) (maxL := 7) (ret := (some (.object "ProofServer$Goal"))) (by decide) rfl ?_
  intro p e s m args below meth c s₁ Bd hml hv
  obtain ⟨rfl, hH0, hX, hG, hK5, hg_r0, hP0, hLC0, hLS0, hp0, hp1, hp2, hp3⟩ := hv
  have hK := hG.1
  have hx := Bd.exec
  have hb := Bd.bytes
  have hr := Bd.returns
  have hts := atoms_spec (ws := (jw yX3_without cX3_without 7 (some (.object "ProofServer$Goal")))) Bd.pre
  have htw : ∀ w ∈ jWl, w.before _ s = true := fun w h => hts w (List.mem_cons_of_mem _ h)
  have hown : s.vm.findClass RX3 = some m.cls := findClass_of_methodNamed Bd.named
  have hlocks := Bd.notSynchronized
  obtain ⟨Q, hQ⟩ : ∃ Q, Q = MQ below (jQx (S := Nat × jT) (fun v u => jRf u.2 5 u.1 v ∧ jNwv v H0 ∧ u.1 = n0 - 10) (fun u t => jRa (dC, dI) B base G0 u.2 EX3_without H0 (3) (24) [] t.heap ∧ (jNk [0, 1, 2, 3, 4, 6, 7, 8, 9, 10, 11, 12, 13, 14, 15, 16, 17, 175]) G0 u.2) (jA base)) ([.ref r0, .int a1] : List Value).toArray s (LC - H0.size) (LS - jTot H0) (jA base) := ⟨_, rfl⟩
  rw [← hQ]
  have hl := lv_entry ([.ref r0, .int a1]) (n := 7) (Nat.le_of_ble_eq_true rfl)
  rw [lg_entry_eq]
  generalize (lg_sl ([.ref r0, .int a1]) ++ List.replicate (7 - (lg_sl ([.ref r0, .int a1])).length) Slot.unset).toArray = ls at hl ⊢
  have hl : lv_has ls 7 [(0, .ref r0), (1, .int a1)] := hl
  generalize hR : (headSpec (jw yX3_without cX3_without 7 (some (.object "ProofServer$Goal"))) ({ frames := 2, cells := LC - H0.size, slots := LS - jTot H0, locals := 55 })).room = R
  subst hH0
  have hh : jSt (dC, dI) B base G0 G0 EX3_without s.heap 0 0 [] [] [] s.heap [] := jSt.start hX hP0 jMc.nil jIs.nil
  clear hX hP0
  have hk0 : (0 : Int32).toInt = 0 := by decide
  have hk1 : (1 : Int32).toInt = 1 := by decide
  have hly_5_0 := htw (u_lay RX3 TX3 0) (jWc_wsX30 _ (u_in_lay (by decide)))
  have hly_5_1 := htw (u_lay RX3 TX3 1) (jWc_wsX30 _ (u_in_lay (by decide)))
  have hly_5_2 := htw (u_lay RX3 TX3 2) (jWc_wsX30 _ (u_in_lay (by decide)))
  have hly_5_3 := htw (u_lay RX3 TX3 3) (jWc_wsX30 _ (u_in_lay (by decide)))
  have hlk_15 := (htw (.fieldLink RX3 15 "ProofServer$Goal" "names" "[I") (jWr_83 _ (List.mem_of_getElem? (i := 11) rfl)))
  have hlk_18 := (htw (.fieldLink RX3 18 "ProofServer$Goal" "hypotheses" "[[I") (jWr_83 _ (List.mem_of_getElem? (i := 12) rfl)))
  have hlk_9 := (htw (.fieldLink RX3 9 "ProofServer$Goal" "variables" "[I") (jWr_83 _ (List.mem_of_getElem? (i := 10) rfl)))
  have hlk_22 := (htw (.fieldLink RX3 22 "ProofServer$Goal" "formula" "[I") (jWr_83 _ (List.mem_of_getElem? (i := 13) rfl)))
  have hrg_a1 := jb_rng a1
  have hbs : base ≤ s.heap.size := Nat.le_of_lt (Nat.lt_of_le_of_lt (hh.ab hg_r0).1 (hh.ab hg_r0).2)
  have hRc : R.cells = LC - s.heap.size := by rw [← hR]; rfl
  have hRs : R.slots = LS - jTot s.heap := by rw [← hR]; rfl
  refine lv_aload_n hx hb dX3_without_0 rfl (lv_at hl 0 rfl) ?_
  obtain ⟨v_1, hv_1, hh_2⟩ := hh.pin (C := RX3) (T := TX3) (N := 4) hB5 rfl (by decide) hg_r0 (i := 1) (by decide) rfl
  clear hh
  obtain ⟨names_3, rfl, hg_names_3⟩ := hv_1
  refine j7_read hx hb hown hK (C := RX3) (T := TX3) (N := 4) rfl hly_5_1 hlk_15 (hh_2.at 0 rfl) dX3_without_1 ?_
  refine j7_len hx hb hK hh_2 hB101 1 rfl (by decide) hg_names_3 (by omega) dX3_without_4 (fun z_4 hz_4 => ?_)
  refine lv_iconst (v := 1) hx hb dX3_without_5 (by decide) ?_
  refine lv_isub hx hb dX3_without_6 ?_
  refine lv_topi (fun z_5 ez_5 => ?_)
  have hz_5 : z_5.toInt = z_4.toInt - 1 := by rw [ez_5]; exact jb_isub2 (rfl) ((by decide)) (by omega)
  refine lv_iconst (v := 0) hx hb dX3_without_7 (by decide) ?_
  have hsz_6 := hh_2.2.2.2.2.2.1
  have htt_6 := hh_2.2.2.2.2.2.2.1
  refine W.room (fun hrc_6 hrs_6 => ?_)
  refine va_mmax hx hb (by rw [hml]; exact hl.1.symm) hown (htw (.methodLink RX3 37 Lib.Math.max.name) (jWr_88 _ (List.mem_of_getElem? (i := 2) rfl))) (htw (.static Lib.Math.max.name) (jWr_3 _ (List.mem_of_getElem? (i := 6) rfl))) (htw (.initialized "java/lang/Math") (jWr_3 _ (List.mem_of_getElem? (i := 7) rfl))) (htw (.code Lib.Math.max.name Lib.Math.max.code 2 (some .int)) (jWr_3 _ (List.mem_of_getElem? (i := 8) rfl))) (by rw [← hR]; exact Nat.le_of_ble_eq_true rfl) (by rw [← hR]; exact Nat.le_of_ble_eq_true rfl) (by rw [hRc]; omega) (by rw [hRs]; omega) dX3_without_8 ?_
  refine lv_topi (fun z_7 ez_7 => ?_)
  have hz_7 := jb_max ez_7
  refine lv_istore_n (lv' := [(2, .int z_7), (0, .ref r0), (1, .int a1)]) hx hb dX3_without_11 rfl hl (by decide) rfl (fun ls hl => ?_)
  refine lv_iload_n hx hb dX3_without_12 rfl (lv_at hl 0 rfl) ?_
  have hsz_8 := hh_2.2.2.2.2.2.1
  have htt_8 := hh_2.2.2.2.2.2.2.1
  refine j7_newiK hx hb hK hh_2 hB (atype := .int) (ty := .int) (htw (.arrayClass .int) (jWr_3 _ (List.mem_of_getElem? (i := 20) rfl))) rfl rfl (fun _ h => h) hB101 1 rfl (by decide) (by decide) hbs (x := z_7.toInt) rfl (by omega) (fun j => by first | trivial | decide | rfl | exact Or.inl rfl | (refine ⟨?_, ?_⟩ <;> decide)) (by rw [hRc]; omega) (by rw [hRs]; omega) dX3_without_13 (fun H_8 hfr_8 hh_8 => ?_)
  have hh_8 : jSt (dC, dI) B base G0 (va_up G0 s.heap.size (some (101, (z_7.toInt).toNat))) EX3_without s.heap (0 + 1) (0 + (z_7.toInt).toNat) [(r0, 5, 1, .ref names_3)] [] [] H_8 [] := hh_8
  have hN_8 : (jNk [0, 1, 2, 3, 4, 6, 7, 8, 9, 10, 11, 12, 13, 14, 15, 16, 17, 175]) G0 (va_up G0 s.heap.size (some (101, (z_7.toInt).toNat))) := jNk.new (by decide)
  have hgn_8 : (va_up G0 s.heap.size (some (101, (z_7.toInt).toNat))) s.heap.size = some (101, (z_7.toInt).toNat) := jUp_self
  have hle_8 : jLe G0 (va_up G0 s.heap.size (some (101, (z_7.toInt).toNat))) := jLe.new hh_2.2.1.fresh
  have hke_8 : jKe G0 (va_up G0 s.heap.size (some (101, (z_7.toInt).toNat))) s.heap H_8 := jKe.new hfr_8
  have hsy_8 : s.heap.size ≤ s.heap.size := hh_2.1.1
  generalize (va_up G0 s.heap.size (some (101, (z_7.toInt).toNat))) = G_8 at hN_8 hgn_8 hle_8 hke_8 hh_8
  generalize hnc_8 : (z_7.toInt).toNat = nc_8 at hgn_8 hh_8 ⊢
  clear hh_2
  have hNn_8 : (jNk [0, 1, 2, 3, 4, 6, 7, 8, 9, 10, 11, 12, 13, 14, 15, 16, 17, 175]) G0 G_8 := (jNk.rf).tr hN_8
  have hg_9 := hle_8 _ _ hg_r0
  have hg_10 := hle_8 _ _ hg_names_3
  refine lv_astore_n (lv' := [(3, .ref s.heap.size), (2, .int z_7), (0, .ref r0), (1, .int a1)]) hx hb dX3_without_15 rfl hl (by decide) rfl (fun ls hl => ?_)
  refine lv_iload_n hx hb dX3_without_16 rfl (lv_at hl 1 rfl) ?_
  have hsz_11 := hh_8.2.2.2.2.2.1
  have htt_11 := hh_8.2.2.2.2.2.2.1
  have hsy_11 : s.heap.size ≤ H_8.size := hh_8.1.1
  refine j7_newaR hx hb hown (show (Cond.classLink RX3 43 (FieldType.array .int).toString).before _ s = true from htw (.classLink RX3 43 "[I") (jWr_88 _ (List.mem_of_getElem? (i := 3) rfl))) hK5 hh_8 hB (x := z_7.toInt) rfl (by omega) (by rw [hRc]; omega) (by rw [hRs]; omega) dX3_without_17 (fun H_11 hfr_11 hnr_11 hraw_11 hh_11 => ?_)
  have hke_11 : jKe G_8 G_8 H_8 H_11 := jKe.raw hfr_11
  have hbr_11 : base ≤ H_8.size := Nat.le_trans hbs hsy_11
  obtain ⟨nq_11, hnq_11⟩ : ∃ q : Nat, q = (z_7.toInt).toNat := ⟨_, rfl⟩
  rw [← hnq_11] at hraw_11 hh_11 ⊢
  clear hh_8
  refine lv_astore (lv' := [(4, .ref H_8.size), (3, .ref s.heap.size), (2, .int z_7), (0, .ref r0), (1, .int a1)]) hx hb dX3_without_20 hl (by decide) rfl (fun ls hl => ?_)
  refine lv_iconst (v := 0) hx hb dX3_without_22 (by decide) ?_
  refine lv_istore (lv' := [(5, .int 0), (4, .ref H_8.size), (3, .ref s.heap.size), (2, .int z_7), (0, .ref r0), (1, .int a1)]) hx hb dX3_without_23 hl (by decide) rfl (fun ls hl => ?_)
  have L25 : ∀ (N : Nat) (fq_12 : Nat → Option Nat) (v5_12 : Int32) (H_12 : Heap) (locs_12 : List Loc), jSt (dC, dI) B base G0 G_8 EX3_without s.heap ((0 + 1) + 1) ((0 + nc_8) + nq_11) [(r0, 5, 1, .ref names_3)] [] [] H_12 locs_12 → va_at (dC, dI) vwCl (H_8.size, .inl (ca 8, nq_11, .inr (.inr (.inr (.inr fq_12))))) H_12 → (0 ≤ v5_12.toInt ∧ v5_12.toInt ≤ z_7.toInt ∧ jFq G_8 fq_12 v5_12.toInt) → (z_7.toInt - v5_12.toInt : Int) < N → ∀ ls : Array Slot, lv_has ls 7 [(0, .ref r0), (1, .int a1), (2, .int z_7), (3, .ref s.heap.size), (4, .ref H_8.size), (5, .int v5_12)] → W p l e R s m ([.ref r0, .int a1] : List Value).toArray below meth c H_12 locs_12 ((0 + 1) + 1) ((0 + nc_8) + nq_11) Q (F0 m 25 ls []) := by
    intro N
    induction N with
    | zero => intro fq_12 v5_12 H_12 locs_12 hh_12 hraw_12 hi_12 hm; exact absurd hm (by omega)
    | succ N L25 =>
      intro fq_12 v5_12 H_12 locs_12 hh_12 hraw_12 hi_12 hm_12 ls hl
      obtain ⟨hi_12_0, hi_12_1, hi_12_2⟩ := hi_12
      refine lv_iload hx hb dX3_without_25 (lv_at hl 5 rfl) ?_
      refine lv_iload_n hx hb dX3_without_27 rfl (lv_at hl 2 rfl) ?_
      refine lv_icmp_ge (tgt := 77) hx hb dX3_without_28 (by decide) (fun c_13 => ?_) (fun c_13 => ?_)
      · skip
        have c_13' : v5_12.toInt ≥ z_7.toInt := jb_ge (rfl) (rfl) c_13
        have hle_14 : jLe G_8 (va_up G_8 H_8.size (some (313, nq_11))) := jLe.typ hnr_11
        have hh_14 := hh_12.typ (k := 313) (n := nq_11) hB hnr_11 hbr_11 hraw_12.lt (jAq.of hB313 hraw_12 (hi_12_2.all (by omega) hle_14))
        have hgn_14 : (va_up G_8 H_8.size (some (313, nq_11))) H_8.size = some (313, nq_11) := jUp_self
        have hN_14 : (jNk [0, 1, 2, 3, 4, 6, 7, 8, 9, 10, 11, 12, 13, 14, 15, 16, 17, 175]) G_8 (va_up G_8 H_8.size (some (313, nq_11))) := jNk.new (by decide)
        have hNn_14 : (jNk [0, 1, 2, 3, 4, 6, 7, 8, 9, 10, 11, 12, 13, 14, 15, 16, 17, 175]) G0 (va_up G_8 H_8.size (some (313, nq_11))) := (hNn_8).tr hN_14
        generalize (va_up G_8 H_8.size (some (313, nq_11))) = G_14 at hN_14 hNn_14 hgn_14 hle_14 hh_14
        have hg_15 := hle_14 _ _ hg_9
        have hg_16 := hle_14 _ _ hgn_8
        have hg_17 := hle_14 _ _ hg_10
        have hsz_18 := hh_14.2.2.2.2.2.1
        have htt_18 := hh_14.2.2.2.2.2.2.1
        refine j7_newo (k := 5) (C := RX3) (T := TX3) (N := 4) (fs := [.null, .null, .null, .null]) hx hb htw jWc_wsX30 (fun k => ([(.array .int), (.array .int), (.array (.array .int)), (.array .int)] : List FieldType).getD k .int) (by decide +kernel) hown (htw (.classLink RX3 10 RX3) (jWr_85 _ (List.mem_of_getElem? (i := 4) rfl))) (htw (.instantiable RX3 4) (jWr_82 _ (List.mem_of_getElem? (i := 9) rfl))) (htw (.initialized RX3) (jWr_82 _ (List.mem_of_getElem? (i := 10) rfl))) hK rfl (fun j hj => by rcases (by omega : j = 0 ∨ j = 1 ∨ j = 2 ∨ j = 3) with rfl | rfl | rfl | rfl <;> rfl) hh_14 hB (by rw [hRc]; omega) (by rw [hRs]; omega) dX3_without_77 (fun H_18 hraw_18 hfr_18 hnr_18 hh_18 => ?_)
        have hke_18 : jKe G_14 G_14 H_12 H_18 := jKe.raw hfr_18
        have hbr_18 : base ≤ H_12.size := Nat.le_trans hbs hh_14.1.1
        have hsy_18 : s.heap.size ≤ H_12.size := hh_14.1.1
        clear hh_14
        refine lv_dup hx hb dX3_without_80 rfl ?_
        refine lv_aload_n hx hb dX3_without_81 rfl (lv_at hl 0 rfl) ?_
        obtain ⟨v_19, hv_19, hh_20⟩ := hh_18.pin (C := RX3) (T := TX3) (N := 4) hB5 rfl (by decide) hg_15 (i := 0) (by decide) rfl
        clear hh_18
        obtain ⟨variables_21, nvariables_21, rfl, hg_variables_21, hvavariables_21, hvbvariables_21, hvcvariables_21⟩ := hv_19
        refine j7_read hx hb hown hK (C := RX3) (T := TX3) (N := 4) rfl hly_5_0 hlk_9 (hh_20.at 0 rfl) dX3_without_82 ?_
        refine lv_aload_n hx hb dX3_without_85 rfl (lv_at hl 3 rfl) ?_
        refine lv_aload hx hb dX3_without_86 (lv_at hl 4 rfl) ?_
        refine lv_aload_n hx hb dX3_without_88 rfl (lv_at hl 0 rfl) ?_
        obtain ⟨v_22, hv_22, hh_23⟩ := hh_20.pin (C := RX3) (T := TX3) (N := 4) hB5 rfl (by decide) hg_15 (i := 3) (by decide) rfl
        clear hh_20
        rcases hv_22 with ⟨rfl, hcv_22⟩ | ⟨formula_24, nformula_24, rfl, hg_formula_24, hn_formula_24, hcv_22, hdv_22⟩
        · exact absurd hcv_22 (by omega)
        refine j7_read hx hb hown hK (C := RX3) (T := TX3) (N := 4) rfl hly_5_3 hlk_22 (hh_23.at 0 rfl) dX3_without_89 ?_
        have hsz_25 := hh_23.2.2.2.2.2.1
        have htt_25 := hh_23.2.2.2.2.2.2.1
        refine W.room (fun hrc_25 hrs_25 => ?_)
        refine va_callv (A0 := jA base) (H0 := s.heap) (va_runI (As := [.ref variables_21, .ref s.heap.size, .ref H_8.size, .ref formula_24]) (rest := [.ref H_12.size]) ⟨hx, hb, hml, hown, hts⟩ (uX3_init l dC dI ca base B hB hAp hB5 hB101 hB280 hB313 G_14 H_18 H_12.size variables_21 s.heap.size H_8.size formula_24 nvariables_21 nc_8 nq_11 nformula_24 (n0 - 10) LC LS) (cwI 4 hts (jgW (jWr_83 _ (List.mem_of_getElem? (i := 8) rfl))) rfl rfl rfl (htw (.initialized RX3) (jWr_82 _ (List.mem_of_getElem? (i := 10) rfl))) (htw (.methodLink RX3 25 yX3_init) (jWr_85 _ (List.mem_of_getElem? (i := 7) rfl))) (htw (.instanceMethod yX3_init) (jWr_83 _ (List.mem_of_getElem? (i := 7) rfl))) rfl (by decide +kernel) ⟨by rw [← hR]; exact Nat.le_of_ble_eq_true rfl, by rw [← hR]; exact Nat.le_of_ble_eq_true rfl⟩) ⟨fun a U g mk q => by obtain ⟨q0, q1, q2, qK, q10, q11, q12, q13, q14, q15, q16, q17, q18⟩ := q; exact ⟨q0, q1, q2, jG.calling g mk a qK, q10, q11, q12, q13, q14, q15, q16, q17, q18⟩, fun U hU hW => ⟨rfl, hU, hh_23.2.1, hG.step hW hU hh_23.1, hg_variables_21, hg_16, hgn_14, hg_formula_24, hraw_18, hnr_18, hbr_18, jP.nil, (by omega), (by omega), by first | omega | (refine ⟨?_, ?_, ?_, ?_, ?_, ?_⟩ <;> (first | omega | rfl | assumption | decide | exact Or.inl rfl | exact Or.inr rfl | (simp only; omega)))⟩⟩ rfl rfl hl.1 rfl (lv_room (Nat.le_of_ble_eq_true rfl)) dX3_without_92 ⟨by rw [hRc]; omega, by rw [hRs]; omega⟩) hh_23.1 (fun q _ h => h) (fun q h => h) (fun u_25 t_25 H_25 locs_25 ht_25 hvm_25 hr_26 hb_25 hz_25 hk_25 hS_25 => ?_)
        rw [ht_25] at hb_25
        obtain ⟨G_25, rfl⟩ : ∃ z, z = u_25 := ⟨_, rfl⟩
        try simp only at hb_25
        obtain ⟨⟨hb_251, hb_252, hb_253, hb_254, hb_255, hb_256⟩, hN_25, hgc_25, hbX_25⟩ := hb_25
        have hh_25 : jSt (dC, dI) B base G0 G_25 EX3_without s.heap ((((0 + 1) + 1) + 1) + (0)) ((((0 + nc_8) + nq_11) + 4) + (0)) [(r0, 5, 3, .ref formula_24), (r0, 5, 0, .ref variables_21), (r0, 5, 1, .ref names_3)] [] [] H_25 locs_25 := (hh_23.callG hb_251 hb_252 hb_253 hb_254 hb_255 hS_25 rfl (L1 := [(r0, 5, 3, .ref formula_24), (r0, 5, 0, .ref variables_21), (r0, 5, 1, .ref names_3)]) [0, 1, 2] rfl rfl (M1 := []) [] rfl rfl (I1 := []) [] rfl rfl).more hb_256
        have hNn_25 : (jNk [0, 1, 2, 3, 4, 6, 7, 8, 9, 10, 11, 12, 13, 14, 15, 16, 17, 175]) G0 G_25 := (hNn_14).tr hN_25
        have hg_27 := hb_252 _ _ hg_15
        have hg_28 := hb_252 _ _ hg_16
        have hg_29 := hb_252 _ _ hgn_14
        have hg_30 := hb_252 _ _ hg_formula_24
        have hg_31 := hb_252 _ _ hg_variables_21
        have hg_32 := hb_252 _ _ hg_17
        try simp only at hr_26
        have hsz_33 := hh_25.2.2.2.2.2.1
        have htt_33 := hh_25.2.2.2.2.2.2.1
        refine W.room (fun hrc_33 hrs_33 => ?_)
        refine W.widen (k := LC - s.heap.size) (n := LS - jTot s.heap) (by omega) (by omega) ?_
        rw [hQ]
        exact W.aret (v := .ref H_12.size) hx hb hr (Or.inl ⟨_, rfl⟩) (Or.inr ⟨_, rfl⟩) (fun t ht hW => ⟨⟨.ref H_12.size, ((n0 - 10), G_25), rfl, ⟨⟨_, rfl, hgc_25⟩, ⟨_, rfl, hsy_18⟩, by first | rfl | ((try dsimp only); first | omega | rfl | assumption | fail)⟩, ⟨hh_25.ra (by first | omega | (simp only; omega)) (by first | omega | (simp only; omega)) (M1 := []) [] rfl ht, hNn_25⟩⟩, by rw [ht]; try exact hh_25.1.1, fun q h9 hq => by rw [ht]; try exact hh_25.1.2.1 q h9 hq⟩) hh_25.1.2.2 dX3_without_95
      · skip
        have c_13' : v5_12.toInt < z_7.toInt := jb_ge_n (rfl) (rfl) c_13
        refine lv_iload hx hb dX3_without_31 (lv_at hl 5 rfl) ?_
        refine lv_iload_n hx hb dX3_without_33 rfl (lv_at hl 1 rfl) ?_
        refine lv_icmp_ge (tgt := 42) hx hb dX3_without_34 (by decide) (fun c_34 => ?_) (fun c_34 => ?_)
        · skip
          have c_34' : v5_12.toInt ≥ a1.toInt := jb_ge (rfl) (rfl) c_34
          refine lv_iload hx hb dX3_without_42 (lv_at hl 5 rfl) ?_
          refine lv_iconst (v := 1) hx hb dX3_without_44 (by decide) ?_
          refine lv_iadd hx hb dX3_without_45 ?_
          refine lv_topi (fun z_35 ez_35 => ?_)
          have hz_35 : z_35.toInt = v5_12.toInt + 1 := by rw [ez_35]; exact jb_iadd2 (rfl) ((by decide)) (by omega)
          refine lv_istore (lv' := [(6, .int z_35), (0, .ref r0), (1, .int a1), (2, .int z_7), (3, .ref s.heap.size), (4, .ref H_8.size), (5, .int v5_12)]) hx hb dX3_without_46 hl (by decide) rfl (fun ls hl => ?_)
          refine lv_aload_n hx hb dX3_without_48 rfl (lv_at hl 4 rfl) ?_
          refine lv_iload hx hb dX3_without_49 (lv_at hl 6 rfl) ?_
          refine lv_aload_n hx hb dX3_without_51 rfl (lv_at hl 1 rfl) ?_
          refine j7_read hx hb hown hK (C := RX3) (T := TX3) (N := 4) rfl hly_5_1 hlk_15 (hh_12.at 0 rfl) dX3_without_52 ?_
          refine lv_iload hx hb dX3_without_55 (lv_at hl 0 rfl) ?_
          refine j7_iald hx hb hK hh_12 hB101 1 rfl (by decide) hg_10 (x := z_35.toInt) (rfl) (by omega) dX3_without_57 (fun z_36 (hz_36 : True) => ?_)
          refine j7_iastF hx hb hK hh_12 hB hB101 1 rfl (by decide) (by decide) rfl rfl rfl hgn_8 (x := v5_12.toInt) (rfl) (by omega) (trivial) dX3_without_58 (fun H_37 locs_37 hr_37 hh_37 => ?_)
          have hraw_38 := hraw_12.kept (hr_37 (H_8.size) (fun (e9 : H_8.size = s.heap.size) => hnr_11 _ ((congrArg G_8 e9).trans hgn_8)))
          clear hr_37
          clear hh_12
          refine lv_aload hx hb dX3_without_59 (lv_at hl 5 rfl) ?_
          refine lv_iload hx hb dX3_without_61 (lv_at hl 6 rfl) ?_
          refine lv_aload_n hx hb dX3_without_63 rfl (lv_at hl 1 rfl) ?_
          obtain ⟨v_39, hv_39, hh_40⟩ := hh_37.pin (C := RX3) (T := TX3) (N := 4) hB5 rfl (by decide) hg_9 (i := 2) (by decide) rfl
          clear hh_37
          obtain ⟨hypotheses_41, khypotheses_41, rfl, hg_hypotheses_41, hhahypotheses_41, hhbhypotheses_41, hhchypotheses_41, hhdhypotheses_41, hhehypotheses_41⟩ := hv_39
          obtain rfl : khypotheses_41 = 313 := hhbhypotheses_41 (by omega)
          refine j7_read hx hb hown hK (C := RX3) (T := TX3) (N := 4) rfl hly_5_2 hlk_18 (hh_40.at 0 rfl) dX3_without_64 ?_
          refine lv_iload hx hb dX3_without_67 (lv_at hl 0 rfl) ?_
          refine j7_qaldA hx hb hK5 hh_40 hB313 (by decide) hg_hypotheses_41 (x := z_35.toInt) (rfl) (by omega) dX3_without_69 (fun o_42 ho_42 => ?_)
          obtain ⟨el_43, nel_43, rfl, hg_el_43, hn_el_43⟩ := ho_42
          simp only [va_rf]
          refine j7_qastA hx hb hK5 hh_40 hB hraw_38 hnr_11 hbr_11 (x := v5_12.toInt) (rfl) (by omega) hB280 (by decide) hg_el_43 dX3_without_70 (fun H_44 locs_44 hraw_44 hr_44 hh_44 => ?_)
          clear hr_44
          clear hh_40
          obtain ⟨z_45, ez_45⟩ : ∃ y : Int32, y = v5_12 + 1 := ⟨_, rfl⟩
          refine lv_iinc (v := z_45) (lv' := [(5, .int z_45), (6, .int z_35), (0, .ref r0), (1, .int a1), (2, .int z_7), (3, .ref s.heap.size), (4, .ref H_8.size)]) hx hb dX3_without_71 hl (k := 6) rfl (by rw [ez_45]; rfl) (by decide) rfl (fun ls hl => ?_)
          have hz_45 : z_45.toInt = v5_12.toInt + 1 := by rw [ez_45]; exact jb_iadd2 (rfl) (by decide) (by omega)
          refine lv_goto (tgt := 25) hx hb dX3_without_74 (by decide) ?_
          refine W.tight (c2 := ((0 + 1) + 1)) (n2 := ((0 + nc_8) + nq_11)) hh_44.2.2.2.2.2.1 hh_44.2.2.2.2.2.2.1 ?_
          exact L25 (va_up fq_12 (v5_12.toInt).toNat (some el_43)) z_45 _ _ (hh_44.sub (L1 := [(r0, 5, 1, .ref names_3)]) [1] rfl (M1 := []) [] rfl (I1 := []) [] rfl) (hraw_44) (by refine ⟨by omega, by omega, ?_⟩; exact hi_12_2.put rfl (by omega) (by omega) (by assumption) (by assumption)) (by omega) _ (lv_sub hl [2, 3, 4, 5, 6, 0] rfl)
        · skip
          have c_34' : v5_12.toInt < a1.toInt := jb_ge_n (rfl) (rfl) c_34
          refine lv_iload hx hb dX3_without_37 (lv_at hl 5 rfl) ?_
          refine lv_goto (tgt := 46) hx hb dX3_without_39 (by decide) ?_
          refine lv_istore (lv' := [(6, .int v5_12), (0, .ref r0), (1, .int a1), (2, .int z_7), (3, .ref s.heap.size), (4, .ref H_8.size), (5, .int v5_12)]) hx hb dX3_without_46 hl (by decide) rfl (fun ls hl => ?_)
          refine lv_aload_n hx hb dX3_without_48 rfl (lv_at hl 4 rfl) ?_
          refine lv_iload hx hb dX3_without_49 (lv_at hl 6 rfl) ?_
          refine lv_aload_n hx hb dX3_without_51 rfl (lv_at hl 1 rfl) ?_
          refine j7_read hx hb hown hK (C := RX3) (T := TX3) (N := 4) rfl hly_5_1 hlk_15 (hh_12.at 0 rfl) dX3_without_52 ?_
          refine lv_iload hx hb dX3_without_55 (lv_at hl 0 rfl) ?_
          refine j7_iald hx hb hK hh_12 hB101 1 rfl (by decide) hg_10 (x := v5_12.toInt) (rfl) (by omega) dX3_without_57 (fun z_46 (hz_46 : True) => ?_)
          refine j7_iastF hx hb hK hh_12 hB hB101 1 rfl (by decide) (by decide) rfl rfl rfl hgn_8 (x := v5_12.toInt) (rfl) (by omega) (trivial) dX3_without_58 (fun H_47 locs_47 hr_47 hh_47 => ?_)
          have hraw_48 := hraw_12.kept (hr_47 (H_8.size) (fun (e9 : H_8.size = s.heap.size) => hnr_11 _ ((congrArg G_8 e9).trans hgn_8)))
          clear hr_47
          clear hh_12
          refine lv_aload hx hb dX3_without_59 (lv_at hl 5 rfl) ?_
          refine lv_iload hx hb dX3_without_61 (lv_at hl 6 rfl) ?_
          refine lv_aload_n hx hb dX3_without_63 rfl (lv_at hl 1 rfl) ?_
          obtain ⟨v_49, hv_49, hh_50⟩ := hh_47.pin (C := RX3) (T := TX3) (N := 4) hB5 rfl (by decide) hg_9 (i := 2) (by decide) rfl
          clear hh_47
          obtain ⟨hypotheses_51, khypotheses_51, rfl, hg_hypotheses_51, hhahypotheses_51, hhbhypotheses_51, hhchypotheses_51, hhdhypotheses_51, hhehypotheses_51⟩ := hv_49
          obtain rfl : khypotheses_51 = 313 := hhbhypotheses_51 (by omega)
          refine j7_read hx hb hown hK (C := RX3) (T := TX3) (N := 4) rfl hly_5_2 hlk_18 (hh_50.at 0 rfl) dX3_without_64 ?_
          refine lv_iload hx hb dX3_without_67 (lv_at hl 0 rfl) ?_
          refine j7_qaldA hx hb hK5 hh_50 hB313 (by decide) hg_hypotheses_51 (x := v5_12.toInt) (rfl) (by omega) dX3_without_69 (fun o_52 ho_52 => ?_)
          obtain ⟨el_53, nel_53, rfl, hg_el_53, hn_el_53⟩ := ho_52
          simp only [va_rf]
          refine j7_qastA hx hb hK5 hh_50 hB hraw_48 hnr_11 hbr_11 (x := v5_12.toInt) (rfl) (by omega) hB280 (by decide) hg_el_53 dX3_without_70 (fun H_54 locs_54 hraw_54 hr_54 hh_54 => ?_)
          clear hr_54
          clear hh_50
          obtain ⟨z_55, ez_55⟩ : ∃ y : Int32, y = v5_12 + 1 := ⟨_, rfl⟩
          refine lv_iinc (v := z_55) (lv' := [(5, .int z_55), (6, .int v5_12), (0, .ref r0), (1, .int a1), (2, .int z_7), (3, .ref s.heap.size), (4, .ref H_8.size)]) hx hb dX3_without_71 hl (k := 6) rfl (by rw [ez_55]; rfl) (by decide) rfl (fun ls hl => ?_)
          have hz_55 : z_55.toInt = v5_12.toInt + 1 := by rw [ez_55]; exact jb_iadd2 (rfl) (by decide) (by omega)
          refine lv_goto (tgt := 25) hx hb dX3_without_74 (by decide) ?_
          refine W.tight (c2 := ((0 + 1) + 1)) (n2 := ((0 + nc_8) + nq_11)) hh_54.2.2.2.2.2.1 hh_54.2.2.2.2.2.2.1 ?_
          exact L25 (va_up fq_12 (v5_12.toInt).toNat (some el_53)) z_55 _ _ (hh_54.sub (L1 := [(r0, 5, 1, .ref names_3)]) [1] rfl (M1 := []) [] rfl (I1 := []) [] rfl) (hraw_54) (by refine ⟨by omega, by omega, ?_⟩; exact hi_12_2.put rfl (by omega) (by omega) (by assumption) (by assumption)) (by omega) _ (lv_sub hl [2, 3, 4, 5, 6, 0] rfl)
  refine W.tight (c2 := ((0 + 1) + 1)) (n2 := ((0 + nc_8) + nq_11)) hh_11.2.2.2.2.2.1 hh_11.2.2.2.2.2.2.1 ?_
  exact L25 (z_7.toInt - (0 : Int32).toInt : Int).toNat.succ (fun _ => none) 0 _ _ hh_11 (hraw_11) (by refine ⟨by omega, by omega, jFq.zero (by omega)⟩) (by omega) _ (lv_sub hl [4, 5, 3, 2, 1, 0] rfl)
end
section
theorem dX9_addFact_0 : decode cX9_addFact 0 = .ok (.aload_n 0, 1) := by decide +kernel
theorem dX9_addFact_1 : decode cX9_addFact 1 = .ok (.aload_n 0, 1) := by decide +kernel
theorem dX9_addFact_2 : decode cX9_addFact 2 = .ok (.getfield 15, 3) := by decide +kernel
theorem dX9_addFact_5 : decode cX9_addFact 5 = .ok (.iload_n 1, 1) := by decide +kernel
theorem dX9_addFact_6 : decode cX9_addFact 6 = .ok (.invokestatic 49, 3) := by decide +kernel
theorem dX9_addFact_9 : decode cX9_addFact 9 = .ok (.putfield 15, 3) := by decide +kernel
theorem dX9_addFact_12 : decode cX9_addFact 12 = .ok (.aload_n 0, 1) := by decide +kernel
theorem dX9_addFact_13 : decode cX9_addFact 13 = .ok (.aload_n 0, 1) := by decide +kernel
theorem dX9_addFact_14 : decode cX9_addFact 14 = .ok (.getfield 19, 3) := by decide +kernel
theorem dX9_addFact_17 : decode cX9_addFact 17 = .ok (.aload_n 2, 1) := by decide +kernel
theorem dX9_addFact_18 : decode cX9_addFact 18 = .ok (.invokestatic 52, 3) := by decide +kernel
theorem dX9_addFact_21 : decode cX9_addFact 21 = .ok (.putfield 19, 3) := by decide +kernel
theorem dX9_addFact_24 : decode cX9_addFact 24 = .ok (.return_, 1) := by decide +kernel
def EX9_addFact : List (Nat × Nat) := [(11, 4), (11, 5), (101, 0)]
set_option maxHeartbeats 4000000 in
set_option maxRecDepth 20000 in
theorem uX9_addFact (l : Launch) (dC : Nat → ClassId) (dI : Nat → Nat → Nat) (ca : Nat → ClassId) (base : Nat) (B : jF) (hB : jBok B) (hAp : jAp (dC, dI)) (hB11 : ∀ n G a H, B 11 n G a H ↔ jOb (dC, dI) 11 9 (F11 n G) a H) (hB101 : ∀ n G a H, B 101 n G a H ↔ jAr (dC, dI) (ca 1) (fun j z => True) n a H) (hB280 : ∀ n G a H, B 280 n G a H ↔ jAr (dC, dI) (ca 1) (fun j z => -1 ≤ z.toInt) n a H) (hB313 : ∀ n G a H, B 313 n G a H ↔ jAq (dC, dI) (ca 8) (jQk 280 80) n G a H) (G0 : jT) (H0 : Heap) (r0 : Nat) (a1 : Int32) (r2 : Nat) (n2 : Nat) (fa : Nat) (n_fa : Nat) (fc : Nat) (n_fc : Nat) (LC LS : Nat) : Met l yX9_addFact (jw yX9_addFact cX9_addFact 3 none) ({ frames := 3, cells := LC - H0.size, slots := LS - jTot H0, locals := 105 }) (va_Pc [.ref r0, .int a1, .ref r2] (fun U => U.heap = H0 ∧ jX B base G0 [] H0 ∧ jG dC dI ca base U ∧ jK5 dC dI ca U ∧ G0 r0 = some (11, 0) ∧ G0 r2 = some (280, n2) ∧ G0 fa = some (101, n_fa) ∧ G0 fc = some (313, n_fc) ∧ jP (dC, dI) G0 H0 [(r0, 11, 4, .ref fa), (r0, 11, 5, .ref fc)] ∧ H0.size + 2 ≤ LC ∧ jTot H0 + 60 ≤ LS ∧ n_fa ≤ 15 ∧ n_fc ≤ 15 ∧ n2 ≤ 80)) (va_Qv (S := Nat × Nat × Nat × Nat × jT) (fun u => u.2.1 = n_fa + 1 ∧ u.2.2.2.1 = n_fc + 1) (fun u t => jRa (dC, dI) B base G0 u.2.2.2.2 EX9_addFact H0 (2) (40) [(r0, 11, 4, .ref u.1), (r0, 11, 5, .ref u.2.2.1)] t.heap ∧ u.2.2.2.2 u.1 = some (101, u.2.1) ∧ u.2.2.2.2 u.2.2.1 = some (313, u.2.2.2.1) ∧ (jNk [0, 1, 2, 3, 4, 5, 6, 7, 8, 9, 10, 11, 12, 13, 14, 15, 16, 17, 175]) G0 u.2.2.2.2 ∧ jOw (dC, dI) G0 11 r0 H0 t.heap) (jA base)) (LC - H0.size) (LS - jTot H0) (jA base) := by
  refine Met.ofW (cc := cX9_addFact) (maxL := 3) (ret := none) (by decide) rfl ?_
  intro p e s m args below meth c s₁ Bd hml hv
  obtain ⟨rfl, hH0, hX, hG, hK5, hg_r0, hg_r2, hg_fa, hg_fc, hP0, hLC0, hLS0, hp0, hp1, hp2⟩ := hv
  have hK := hG.1
  have hx := Bd.exec
  have hb := Bd.bytes
  have hr := Bd.returns
  have hts := atoms_spec (ws := (jw yX9_addFact cX9_addFact 3 none)) Bd.pre
  have htw : ∀ w ∈ jWl, w.before _ s = true := fun w h => hts w (List.mem_cons_of_mem _ h)
  have hown : s.vm.findClass RX9 = some m.cls := findClass_of_methodNamed Bd.named
  have hlocks := Bd.notSynchronized
  obtain ⟨Q, hQ⟩ : ∃ Q, Q = MQ below (va_Qv (S := Nat × Nat × Nat × Nat × jT) (fun u => u.2.1 = n_fa + 1 ∧ u.2.2.2.1 = n_fc + 1) (fun u t => jRa (dC, dI) B base G0 u.2.2.2.2 EX9_addFact H0 (2) (40) [(r0, 11, 4, .ref u.1), (r0, 11, 5, .ref u.2.2.1)] t.heap ∧ u.2.2.2.2 u.1 = some (101, u.2.1) ∧ u.2.2.2.2 u.2.2.1 = some (313, u.2.2.2.1) ∧ (jNk [0, 1, 2, 3, 4, 5, 6, 7, 8, 9, 10, 11, 12, 13, 14, 15, 16, 17, 175]) G0 u.2.2.2.2 ∧ jOw (dC, dI) G0 11 r0 H0 t.heap) (jA base)) ([.ref r0, .int a1, .ref r2] : List Value).toArray s (LC - H0.size) (LS - jTot H0) (jA base) := ⟨_, rfl⟩
  rw [← hQ]
  have hl := lv_entry ([.ref r0, .int a1, .ref r2]) (n := 3) (Nat.le_of_ble_eq_true rfl)
  rw [lg_entry_eq]
  generalize (lg_sl ([.ref r0, .int a1, .ref r2]) ++ List.replicate (3 - (lg_sl ([.ref r0, .int a1, .ref r2])).length) Slot.unset).toArray = ls at hl ⊢
  have hl : lv_has ls 3 [(0, .ref r0), (1, .int a1), (2, .ref r2)] := hl
  generalize hR : (headSpec (jw yX9_addFact cX9_addFact 3 none) ({ frames := 3, cells := LC - H0.size, slots := LS - jTot H0, locals := 105 })).room = R
  subst hH0
  have hh : jSt (dC, dI) B base G0 G0 EX9_addFact s.heap 0 0 [(r0, 11, 4, .ref fa), (r0, 11, 5, .ref fc)] [] [] s.heap [] := jSt.start hX hP0 jMc.nil jIs.nil
  clear hX hP0
  have hk0 : (0 : Int32).toInt = 0 := by decide
  have hk1 : (1 : Int32).toInt = 1 := by decide
  have hly_11_4 := htw (u_lay RX9 TX9 4) (jWc_wsX90 _ (u_in_lay (by decide)))
  have hly_11_5 := htw (u_lay RX9 TX9 5) (jWc_wsX90 _ (u_in_lay (by decide)))
  have hlk_15 := (htw (.fieldLink RX9 15 "ProofServer$State" "factNames" "[I") (jWr_8 _ (List.mem_of_getElem? (i := 18) rfl)))
  have hlk_19 := (htw (.fieldLink RX9 19 "ProofServer$State" "facts" "[[I") (jWr_8 _ (List.mem_of_getElem? (i := 20) rfl)))
  have hrg_a1 := jb_rng a1
  have hbs : base ≤ s.heap.size := Nat.le_of_lt (Nat.lt_of_le_of_lt (hh.ab hg_r0).1 (hh.ab hg_r0).2)
  have hRc : R.cells = LC - s.heap.size := by rw [← hR]; rfl
  have hRs : R.slots = LS - jTot s.heap := by rw [← hR]; rfl
  have hh_1 := hh.addI (jOw.ie (dC := dC) (dI := dI) (G0 := G0) (k := 11) (r := r0) (H0 := s.heap) (F := [(11, 0), (11, 1), (11, 2), (11, 3), (11, 4), (11, 5), (11, 6), (11, 7), (11, 8)]) (C := RX9) (T := TX9) (N := 9) rfl (by decide) hh.2.2.2.2.1 (jOw.rf))
  clear hh
  refine lv_aload_n hx hb dX9_addFact_0 rfl (lv_at hl 0 rfl) ?_
  refine lv_aload_n hx hb dX9_addFact_1 rfl (lv_at hl 0 rfl) ?_
  refine j7_read hx hb hown hK (C := RX9) (T := TX9) (N := 9) rfl hly_11_4 hlk_15 (hh_1.at 0 rfl) dX9_addFact_2 ?_
  refine lv_iload_n hx hb dX9_addFact_5 rfl (lv_at hl 1 rfl) ?_
  have hsz_2 := hh_1.2.2.2.2.2.1
  have htt_2 := hh_1.2.2.2.2.2.2.1
  refine W.room (fun hrc_2 hrs_2 => ?_)
  refine j_callx (A0 := jA base) (H0 := s.heap) (va_runS (As := [.ref fa, .int a1]) (rest := [.ref r0]) ⟨hx, hb, hml, hown, hts⟩ (uX9_longer l dC dI ca base B hB hAp hB101 G0 s.heap fa a1 n_fa LC LS) (va_cwS 2 hts (jgS (jWr_83 _ (List.mem_of_getElem? (i := 2) rfl)) (jWr_81 _ (List.mem_of_getElem? (i := 20) rfl)) (jWr_4 _ (List.mem_of_getElem? (i := 18) rfl)) (jWr_81 _ (List.mem_of_getElem? (i := 21) rfl))) rfl rfl rfl (by decide +kernel) ⟨by rw [← hR]; exact Nat.le_of_ble_eq_true rfl, by rw [← hR]; exact Nat.le_of_ble_eq_true rfl⟩) ⟨fun a U g mk q => by obtain ⟨q0, q1, q2, qK, q10, q11, q12⟩ := q; exact ⟨q0, q1, q2, jG.calling g mk a qK, q10, q11, q12⟩, fun U hU hW => ⟨rfl, hU, hh_1.2.1, hG.step hW hU hh_1.1, hg_fa, jP.nil, by first | omega | rfl | assumption | decide | exact Or.inl rfl | exact Or.inr rfl | (simp only; omega)⟩⟩ rfl rfl hl.1 rfl (lv_room (Nat.le_of_ble_eq_true rfl)) dX9_addFact_6 ⟨by rw [hRc]; omega, by rw [hRs]; omega⟩) hh_1.1 (fun q _ h => h) (fun q h => h) (fun r_3 u_2 t_2 H_2 locs_2 ht_2 hvm_2 hr_3 hb_2 hz_2 hk_2 hS_2 => ?_)
  rw [ht_2] at hb_2
  obtain ⟨m_ret_2, G_2⟩ := u_2
  simp only at hb_2
  obtain ⟨⟨hb_21, hb_22, hb_23, hb_24, hb_25, hb_26⟩, hN_2, hbK_2⟩ := hb_2
  have hh_2 : jSt (dC, dI) B base G0 G_2 EX9_addFact s.heap (0 + (1)) (0 + (m_ret_2)) [(r0, 11, 4, .ref fa), (r0, 11, 5, .ref fc)] [] [([(11, 0), (11, 1), (11, 2), (11, 3), (11, 4), (11, 5), (11, 6), (11, 7), (11, 8)], jOw (dC, dI) G0 11 r0 s.heap)] H_2 locs_2 := (hh_1.callG hb_21 hb_22 hb_23 hb_24 hb_25 hS_2 rfl (L1 := [(r0, 11, 4, .ref fa), (r0, 11, 5, .ref fc)]) [0, 1] rfl rfl (M1 := []) [] rfl rfl (I1 := [([(11, 0), (11, 1), (11, 2), (11, 3), (11, 4), (11, 5), (11, 6), (11, 7), (11, 8)], jOw (dC, dI) G0 11 r0 s.heap)]) [0] rfl rfl).more hb_26
  have hNn_2 : (jNk [0, 1, 2, 3, 4, 5, 6, 7, 8, 9, 10, 11, 12, 13, 14, 15, 16, 17, 175]) G0 G_2 := (jNk.rf).tr hN_2
  have hg_4 := hb_22 _ _ hg_r0
  have hg_5 := hb_22 _ _ hg_r2
  have hg_6 := hb_22 _ _ hg_fa
  have hg_7 := hb_22 _ _ hg_fc
  obtain ⟨hr_3, hr_3n, hr_3p⟩ := hr_3
  try simp only at hr_3p
  obtain ⟨ret_8, rfl, hg_ret_8⟩ := hr_3
  have hsy_2 : s.heap.size ≤ ret_8 := Nat.le_trans hh_1.1.1 hr_3n.le
  have hd_10 := hh_2.iv 0 rfl
  have hh_11 := hh_2.sub (L1 := [(r0, 11, 4, .ref fa), (r0, 11, 5, .ref fc)]) [0, 1] rfl (M1 := []) [] rfl (I1 := []) [] rfl
  clear hh_2
  refine j7_putX hx hb hown hK hh_11 hB hAp hB11 (C := RX9) (T := TX9) (N := 9) rfl (by decide) hg_4 (i := 4) (by decide) hly_11_4 rfl hlk_15 rfl (ty := (.array .int)) (v := .ref ret_8) (by decide +kernel) rfl rfl (⟨_, _, rfl, hg_ret_8, by omega⟩) rfl (L1 := [(r0, 11, 5, .ref fc)]) [1] rfl rfl rfl dX9_addFact_9 (fun H_9 locs_9 hr_9 hh_9 => ?_)
  clear hh_11
  have hd_10n := jOw.put hd_10 hr_9
  have hh_12 := hh_9.addI (jOw.ie (dC := dC) (dI := dI) (G0 := G0) (k := 11) (r := r0) (H0 := s.heap) (F := [(11, 0), (11, 1), (11, 2), (11, 3), (11, 4), (11, 5), (11, 6), (11, 7), (11, 8)]) (C := RX9) (T := TX9) (N := 9) rfl (by decide) hh_9.2.2.2.2.1 (hd_10n))
  clear hh_9
  clear hd_10 hd_10n hr_9
  refine lv_aload_n hx hb dX9_addFact_12 rfl (lv_at hl 0 rfl) ?_
  refine lv_aload_n hx hb dX9_addFact_13 rfl (lv_at hl 0 rfl) ?_
  refine j7_read hx hb hown hK (C := RX9) (T := TX9) (N := 9) rfl hly_11_5 hlk_19 (hh_12.at 1 rfl) dX9_addFact_14 ?_
  refine lv_aload_n hx hb dX9_addFact_17 rfl (lv_at hl 2 rfl) ?_
  have hsz_13 := hh_12.2.2.2.2.2.1
  have htt_13 := hh_12.2.2.2.2.2.2.1
  refine W.room (fun hrc_13 hrs_13 => ?_)
  refine j_callx (A0 := jA base) (H0 := s.heap) (va_runS (As := [.ref fc, .ref r2]) (rest := [.ref r0]) ⟨hx, hb, hml, hown, hts⟩ (uX9_longer_ l dC dI ca base B hB hAp hB280 hB313 G_2 H_9 fc r2 n_fc n2 LC LS) (va_cwS 2 hts (jgS (jWr_83 _ (List.mem_of_getElem? (i := 3) rfl)) (jWr_83 _ (List.mem_of_getElem? (i := 4) rfl)) (jWr_4 _ (List.mem_of_getElem? (i := 18) rfl)) (jWr_83 _ (List.mem_of_getElem? (i := 5) rfl))) rfl rfl rfl (by decide +kernel) ⟨by rw [← hR]; exact Nat.le_of_ble_eq_true rfl, by rw [← hR]; exact Nat.le_of_ble_eq_true rfl⟩) ⟨fun a U g mk q => by obtain ⟨q0, q1, q2, qK, q10, q11, q12, q13, q14⟩ := q; exact ⟨q0, q1, q2, jG.calling g mk a qK, (jK5.moved (Vm.Alike.refl U.vm) q10), q11, q12, q13, q14⟩, fun U hU hW => ⟨rfl, hU, hh_12.2.1, hG.step hW hU hh_12.1, jK5.moved hW.alike hK5, hg_7, hg_5, jP.nil, by first | omega | (refine ⟨?_, ?_⟩ <;> (first | omega | rfl | assumption | decide | exact Or.inl rfl | exact Or.inr rfl | (simp only; omega)))⟩⟩ rfl rfl hl.1 rfl (lv_room (Nat.le_of_ble_eq_true rfl)) dX9_addFact_18 ⟨by rw [hRc]; omega, by rw [hRs]; omega⟩) hh_12.1 (fun q _ h => h) (fun q h => h) (fun r_14 u_13 t_13 H_13 locs_13 ht_13 hvm_13 hr_14 hb_13 hz_13 hk_13 hS_13 => ?_)
  rw [ht_13] at hb_13
  obtain ⟨m_ret_13, G_13⟩ := u_13
  simp only at hb_13
  obtain ⟨⟨hb_131, hb_132, hb_133, hb_134, hb_135, hb_136⟩, hN_13, hbK_13⟩ := hb_13
  have hh_13 : jSt (dC, dI) B base G0 G_13 EX9_addFact s.heap ((0 + (1)) + (1)) ((0 + (m_ret_2)) + (m_ret_13)) [(r0, 11, 4, .ref ret_8), (r0, 11, 5, .ref fc)] [] [([(11, 0), (11, 1), (11, 2), (11, 3), (11, 4), (11, 5), (11, 6), (11, 7), (11, 8)], jOw (dC, dI) G0 11 r0 s.heap)] H_13 locs_13 := (hh_12.callG hb_131 hb_132 hb_133 hb_134 hb_135 hS_13 rfl (L1 := [(r0, 11, 4, .ref ret_8), (r0, 11, 5, .ref fc)]) [0, 1] rfl rfl (M1 := []) [] rfl rfl (I1 := [([(11, 0), (11, 1), (11, 2), (11, 3), (11, 4), (11, 5), (11, 6), (11, 7), (11, 8)], jOw (dC, dI) G0 11 r0 s.heap)]) [0] rfl rfl).more hb_136
  have hNn_13 : (jNk [0, 1, 2, 3, 4, 5, 6, 7, 8, 9, 10, 11, 12, 13, 14, 15, 16, 17, 175]) G0 G_13 := (hNn_2).tr hN_13
  have hg_15 := hb_132 _ _ hg_4
  have hg_16 := hb_132 _ _ hg_5
  have hg_17 := hb_132 _ _ hg_ret_8
  have hg_18 := hb_132 _ _ hg_7
  obtain ⟨hr_14, hr_14n, hr_14p⟩ := hr_14
  try simp only at hr_14p
  obtain ⟨ret_19, rfl, hg_ret_19⟩ := hr_14
  have hsy_13 : s.heap.size ≤ ret_19 := Nat.le_trans hh_12.1.1 hr_14n.le
  have hd_21 := hh_13.iv 0 rfl
  have hh_22 := hh_13.sub (L1 := [(r0, 11, 4, .ref ret_8), (r0, 11, 5, .ref fc)]) [0, 1] rfl (M1 := []) [] rfl (I1 := []) [] rfl
  clear hh_13
  refine j7_putX hx hb hown hK hh_22 hB hAp hB11 (C := RX9) (T := TX9) (N := 9) rfl (by decide) hg_15 (i := 5) (by decide) hly_11_5 rfl hlk_19 rfl (ty := (.array (.array .int))) (v := .ref ret_19) (by decide +kernel) rfl rfl (⟨_, _, rfl, hg_ret_19, by omega⟩) rfl (L1 := [(r0, 11, 4, .ref ret_8)]) [0] rfl rfl rfl dX9_addFact_21 (fun H_20 locs_20 hr_20 hh_20 => ?_)
  clear hh_22
  have hd_21n := jOw.put hd_21 hr_20
  have hh_23 := hh_20.addI (jOw.ie (dC := dC) (dI := dI) (G0 := G0) (k := 11) (r := r0) (H0 := s.heap) (F := [(11, 0), (11, 1), (11, 2), (11, 3), (11, 4), (11, 5), (11, 6), (11, 7), (11, 8)]) (C := RX9) (T := TX9) (N := 9) rfl (by decide) hh_20.2.2.2.2.1 (hd_21n))
  clear hh_20
  clear hd_21 hd_21n hr_20
  have hsz_24 := hh_23.2.2.2.2.2.1
  have htt_24 := hh_23.2.2.2.2.2.2.1
  refine W.room (fun hrc_24 hrs_24 => ?_)
  refine W.widen (k := LC - s.heap.size) (n := LS - jTot s.heap) (by omega) (by omega) ?_
  rw [hQ]
  exact W.vret hx hb hr (fun t ht hW => ⟨⟨(ret_8, m_ret_2, ret_19, m_ret_13, G_13), rfl, by (try dsimp only); exact ⟨(by first | omega | rfl | assumption | fail), (by first | omega | rfl | assumption | fail)⟩, ⟨hh_23.ra (by first | omega | (simp only; omega)) (by first | omega | (simp only; omega)) (M1 := [(r0, 11, 4, .ref ret_8), (r0, 11, 5, .ref ret_19)]) [1, 0] rfl ht, hg_17, hg_ret_19, hNn_13, by rw [ht]; exact hh_23.iv 0 rfl⟩⟩, by rw [ht]; try exact hh_23.1.1, fun q h9 hq => by rw [ht]; try exact hh_23.1.2.1 q h9 hq⟩) hh_23.1.2.2 dX9_addFact_24
end
section
theorem dX5_isTaken_0 : decode cX5_isTaken 0 = .ok (.aload_n 0, 1) := by decide +kernel
theorem dX5_isTaken_1 : decode cX5_isTaken 1 = .ok (.iload_n 2, 1) := by decide +kernel
theorem dX5_isTaken_2 : decode cX5_isTaken 2 = .ok (.invokevirtual 170, 3) := by decide +kernel
theorem dX5_isTaken_5 : decode cX5_isTaken 5 = .ok (.ifCond .ge 40, 3) := by decide +kernel
theorem dX5_isTaken_8 : decode cX5_isTaken 8 = .ok (.aload_n 0, 1) := by decide +kernel
theorem dX5_isTaken_9 : decode cX5_isTaken 9 = .ok (.getfield 174, 3) := by decide +kernel
theorem dX5_isTaken_12 : decode cX5_isTaken 12 = .ok (.iload_n 2, 1) := by decide +kernel
theorem dX5_isTaken_13 : decode cX5_isTaken 13 = .ok (.invokestatic 166, 3) := by decide +kernel
theorem dX5_isTaken_16 : decode cX5_isTaken 16 = .ok (.ifCond .ge 29, 3) := by decide +kernel
theorem dX5_isTaken_19 : decode cX5_isTaken 19 = .ok (.aload_n 1, 1) := by decide +kernel
theorem dX5_isTaken_20 : decode cX5_isTaken 20 = .ok (.ifnull 29, 3) := by decide +kernel
theorem dX5_isTaken_23 : decode cX5_isTaken 23 = .ok (.aload_n 1, 1) := by decide +kernel
theorem dX5_isTaken_24 : decode cX5_isTaken 24 = .ok (.getfield 177, 3) := by decide +kernel
theorem dX5_isTaken_27 : decode cX5_isTaken 27 = .ok (.iload_n 2, 1) := by decide +kernel
theorem dX5_isTaken_28 : decode cX5_isTaken 28 = .ok (.invokestatic 166, 3) := by decide +kernel
theorem dX5_isTaken_31 : decode cX5_isTaken 31 = .ok (.ifCond .ge 14, 3) := by decide +kernel
theorem dX5_isTaken_34 : decode cX5_isTaken 34 = .ok (.aload_n 1, 1) := by decide +kernel
theorem dX5_isTaken_35 : decode cX5_isTaken 35 = .ok (.getfield 164, 3) := by decide +kernel
theorem dX5_isTaken_38 : decode cX5_isTaken 38 = .ok (.iload_n 2, 1) := by decide +kernel
theorem dX5_isTaken_39 : decode cX5_isTaken 39 = .ok (.invokestatic 166, 3) := by decide +kernel
theorem dX5_isTaken_42 : decode cX5_isTaken 42 = .ok (.ifCond .lt 7, 3) := by decide +kernel
theorem dX5_isTaken_45 : decode cX5_isTaken 45 = .ok (.iconst 1, 1) := by decide +kernel
theorem dX5_isTaken_46 : decode cX5_isTaken 46 = .ok (.goto 4, 3) := by decide +kernel
theorem dX5_isTaken_49 : decode cX5_isTaken 49 = .ok (.iconst 0, 1) := by decide +kernel
theorem dX5_isTaken_50 : decode cX5_isTaken 50 = .ok (.ireturn, 1) := by decide +kernel
def EX5_isTaken : List (Nat × Nat) := []
def EX5_isTakenZ : List (Nat × Nat) := []
set_option maxHeartbeats 4000000 in
set_option maxRecDepth 20000 in
theorem uX5_isTaken (l : Launch) (dC : Nat → ClassId) (dI : Nat → Nat → Nat) (ca : Nat → ClassId) (base : Nat) (B : jF) (hB : jBok B) (hAp : jAp (dC, dI)) (hB5 : ∀ n G a H, B 5 n G a H ↔ jOb (dC, dI) 5 4 (F5 n G) a H) (hB11 : ∀ n G a H, B 11 n G a H ↔ jOb (dC, dI) 11 9 (F11 n G) a H) (hB101 : ∀ n G a H, B 101 n G a H ↔ jAr (dC, dI) (ca 1) (fun j z => True) n a H) (G0 : jT) (H0 : Heap) (r0 : Nat) (r1 : Nat) (a2 : Int32) (n1 : Nat) : Met l yX5_isTaken (jw yX5_isTaken cX5_isTaken 3 (some .boolean)) ({ frames := 1, cells := 0, slots := 0, locals := 22 }) (va_Pc [.ref r0, .ref r1, .int a2] (fun U => U.heap = H0 ∧ jX B base G0 [] H0 ∧ jG dC dI ca base U ∧ G0 r0 = some (11, 0) ∧ G0 r1 = some (5, n1) ∧ jP (dC, dI) G0 H0 [] ∧ n1 % 10 = 1 ∧ n1 ≤ 1000)) (va_Qi (S := Unit) (fun r u => (r = 0 ∨ r = 1) ∧ (True)) (fun u t => jRt (dC, dI) B base G0 EX5_isTaken H0 [] t.heap) (jA base)) 0 0 (jA base) := by
  refine Met.ofW (cc := cX5_isTaken) (maxL := 3) (ret := (some .boolean)) (by decide) rfl ?_
  intro p e s m args below meth c s₁ Bd hml hv
  obtain ⟨rfl, hH0, hX, hG, hg_r0, hg_r1, hP0, hp0, hp1⟩ := hv
  have hK := hG.1
  have hx := Bd.exec
  have hb := Bd.bytes
  have hr := Bd.returns
  have hts := atoms_spec (ws := (jw yX5_isTaken cX5_isTaken 3 (some .boolean))) Bd.pre
  have htw : ∀ w ∈ jWl, w.before _ s = true := fun w h => hts w (List.mem_cons_of_mem _ h)
  have hown : s.vm.findClass RX5 = some m.cls := findClass_of_methodNamed Bd.named
  have hlocks := Bd.notSynchronized
  obtain ⟨Q, hQ⟩ : ∃ Q, Q = MQ below (va_Qi (S := Unit) (fun r u => (r = 0 ∨ r = 1) ∧ (True)) (fun u t => jRt (dC, dI) B base G0 EX5_isTaken H0 [] t.heap) (jA base)) ([.ref r0, .ref r1, .int a2] : List Value).toArray s 0 0 (jA base) := ⟨_, rfl⟩
  rw [← hQ]
  have hl := lv_entry ([.ref r0, .ref r1, .int a2]) (n := 3) (Nat.le_of_ble_eq_true rfl)
  rw [lg_entry_eq]
  generalize (lg_sl ([.ref r0, .ref r1, .int a2]) ++ List.replicate (3 - (lg_sl ([.ref r0, .ref r1, .int a2])).length) Slot.unset).toArray = ls at hl ⊢
  have hl : lv_has ls 3 [(0, .ref r0), (1, .ref r1), (2, .int a2)] := hl
  generalize hR : (headSpec (jw yX5_isTaken cX5_isTaken 3 (some .boolean)) ({ frames := 1, cells := 0, slots := 0, locals := 22 })).room = R
  subst hH0
  have hh : jSt (dC, dI) B base G0 G0 EX5_isTaken s.heap 0 0 [] [] [] s.heap [] := jSt.start hX hP0 jMc.nil jIs.nil
  clear hX hP0
  have hk0 : (0 : Int32).toInt = 0 := by decide
  have hk1 : (1 : Int32).toInt = 1 := by decide
  have hly_5_0 := htw (u_lay RX3 TX3 0) (jWc_wsX30 _ (u_in_lay (by decide)))
  have hly_5_1 := htw (u_lay RX3 TX3 1) (jWc_wsX30 _ (u_in_lay (by decide)))
  have hly_11_4 := htw (u_lay RX9 TX9 4) (jWc_wsX90 _ (u_in_lay (by decide)))
  have hlk_174 := (htw (.fieldLink RX5 174 "ProofServer$State" "factNames" "[I") (jWr_81 _ (List.mem_of_getElem? (i := 14) rfl)))
  have hlk_177 := (htw (.fieldLink RX5 177 "ProofServer$Goal" "variables" "[I") (jWr_81 _ (List.mem_of_getElem? (i := 15) rfl)))
  have hlk_164 := (htw (.fieldLink RX5 164 "ProofServer$Goal" "names" "[I") (jWr_81 _ (List.mem_of_getElem? (i := 16) rfl)))
  have hrg_a2 := jb_rng a2
  refine lv_aload_n hx hb dX5_isTaken_0 rfl (lv_at hl 0 rfl) ?_
  refine lv_iload_n hx hb dX5_isTaken_1 rfl (lv_at hl 2 rfl) ?_
  refine va_calli (A0 := jA base) (H0 := s.heap) (va_runV (As := [.int a2]) (rest := []) ⟨hx, hb, hml, hown, hts⟩ (uX9_symbolOf l dC dI ca base B hB hAp hB11 hB101 G0 s.heap r0 a2) (cwV 1 hts (jgV (jWr_81 _ (List.mem_of_getElem? (i := 17) rfl)) (jWr_30 _ (List.mem_of_getElem? (i := 23) rfl)) (jWr_31 _ (List.mem_of_getElem? (i := 0) rfl)) (jWr_4 _ (List.mem_of_getElem? (i := 18) rfl)) (jWr_31 _ (List.mem_of_getElem? (i := 1) rfl))) rfl rfl rfl (by decide +kernel) ⟨by rw [← hR]; exact Nat.le_of_ble_eq_true rfl, by rw [← hR]; exact Nat.le_of_ble_eq_true rfl⟩) ⟨fun a U g mk q => by obtain ⟨q0, q1, q2, qK, q10, q11, q12⟩ := q; exact ⟨q0, q1, q2, jG.calling g mk a qK, q10, q11, q12⟩, hh.recv (C := RX9) (T := TX9) (N := 9) hB11 rfl (by decide) hg_r0 hK, fun U hU hW => ⟨rfl, hU, hh.2.1, hG.step hW hU hh.1, hg_r0, jP.nil, trivial⟩⟩ rfl rfl hl.1 rfl (lv_room (Nat.le_of_ble_eq_true rfl)) dX5_isTaken_2 ⟨Nat.zero_le _, Nat.zero_le _⟩) hh.1 (fun q _ h => h) (fun q h => h) (fun r_2 u_1 t_1 H_1 locs_1 ht_1 hvm_1 hr_2 hb_1 hz_1 hk_1 hS_1 => ?_)
  rw [ht_1] at hb_1
  obtain ⟨hb_11, hb_12, hb_13, hb_14, hb_15⟩ := hb_1
  have hh_1 : jSt (dC, dI) B base G0 G0 EX5_isTaken s.heap 0 0 [] [] [] H_1 locs_1 := ((hh.call hb_11 hb_12 hb_13 hb_14 hS_1 rfl (L1 := []) [] rfl rfl (M1 := []) [] rfl rfl (I1 := []) [] rfl rfl).more hb_15)
  clear hh ht_1 hvm_1 hz_1 hk_1 hS_1 hb_11 hb_12 hb_13 hb_14 hb_15
  refine lv_if_ge (tgt := 45) hx hb dX5_isTaken_5 (by decide) (fun c_3 => ?_) (fun c_3 => ?_)
  · skip
    have c_3' : r_2.toInt ≥ 0 := jb_ge (rfl) ((by decide)) c_3
    refine lv_iconst (v := 1) hx hb dX5_isTaken_45 (by decide) ?_
    refine lv_goto (tgt := 50) hx hb dX5_isTaken_46 (by decide) ?_
    rw [hQ]
    exact W.zret (v := 1) hx hb hr (jb_nz (Or.inr rfl)) (fun t ht hW => ⟨⟨1, (), rfl, ⟨(Or.inr rfl), trivial⟩, hh_1.rt (M1 := []) [] rfl ht⟩, by rw [ht]; try exact hh_1.1.1, fun q h9 hq => by rw [ht]; try exact hh_1.1.2.1 q h9 hq⟩) hh_1.1.2.2 dX5_isTaken_50
  · skip
    have c_3' : r_2.toInt < 0 := jb_ge_n (rfl) ((by decide)) c_3
    refine lv_aload_n hx hb dX5_isTaken_8 rfl (lv_at hl 0 rfl) ?_
    obtain ⟨v_4, hv_4, hh_5⟩ := hh_1.pin (C := RX9) (T := TX9) (N := 9) hB11 rfl (by decide) hg_r0 (i := 4) (by decide) rfl
    clear hh_1
    obtain ⟨factNames_6, nfactNames_6, rfl, hg_factNames_6, hn_factNames_6⟩ := hv_4
    refine j7_read hx hb hown hK (C := RX9) (T := TX9) (N := 9) rfl hly_11_4 hlk_174 (hh_5.at 0 rfl) dX5_isTaken_9 ?_
    refine lv_iload_n hx hb dX5_isTaken_12 rfl (lv_at hl 2 rfl) ?_
    refine va_calli (A0 := jA base) (H0 := s.heap) (va_runS (As := [.ref factNames_6, .int a2]) (rest := []) ⟨hx, hb, hml, hown, hts⟩ (uX9_find l dC dI ca base B hB hAp hB101 G0 H_1 factNames_6 a2 nfactNames_6) (va_cwS 2 hts (jgS (jWr_81 _ (List.mem_of_getElem? (i := 18) rfl)) (jWr_30 _ (List.mem_of_getElem? (i := 20) rfl)) (jWr_4 _ (List.mem_of_getElem? (i := 18) rfl)) (jWr_30 _ (List.mem_of_getElem? (i := 21) rfl))) rfl rfl rfl (by decide +kernel) ⟨by rw [← hR]; exact Nat.le_of_ble_eq_true rfl, by rw [← hR]; exact Nat.le_of_ble_eq_true rfl⟩) ⟨fun a U g mk q => by obtain ⟨q0, q1, q2, qK, q10, q11, q12⟩ := q; exact ⟨q0, q1, q2, jG.calling g mk a qK, q10, q11, q12⟩, fun U hU hW => ⟨rfl, hU, hh_5.2.1, hG.step hW hU hh_5.1, hg_factNames_6, jP.nil, by first | omega | rfl | assumption | decide | exact Or.inl rfl | exact Or.inr rfl | (simp only; omega)⟩⟩ rfl rfl hl.1 rfl (lv_room (Nat.le_of_ble_eq_true rfl)) dX5_isTaken_13 ⟨Nat.zero_le _, Nat.zero_le _⟩) hh_5.1 (fun q _ h => h) (fun q h => h) (fun r_8 u_7 t_7 H_7 locs_7 ht_7 hvm_7 hr_8 hb_7 hz_7 hk_7 hS_7 => ?_)
    rw [ht_7] at hb_7
    obtain ⟨hb_71, hb_72, hb_73, hb_74, hb_75⟩ := hb_7
    have hh_7 : jSt (dC, dI) B base G0 G0 EX5_isTaken s.heap 0 0 [(r0, 11, 4, .ref factNames_6)] [] [] H_7 locs_7 := ((hh_5.call hb_71 hb_72 hb_73 hb_74 hS_7 rfl (L1 := [(r0, 11, 4, .ref factNames_6)]) [0] rfl rfl (M1 := []) [] rfl rfl (I1 := []) [] rfl rfl).more hb_75)
    clear hh_5 ht_7 hvm_7 hz_7 hk_7 hS_7 hb_71 hb_72 hb_73 hb_74 hb_75
    obtain ⟨hr_8_0, hr_8_1⟩ := hr_8
    refine lv_if_ge (tgt := 45) hx hb dX5_isTaken_16 (by decide) (fun c_9 => ?_) (fun c_9 => ?_)
    · skip
      have c_9' : r_8.toInt ≥ 0 := jb_ge (rfl) ((by decide)) c_9
      refine lv_iconst (v := 1) hx hb dX5_isTaken_45 (by decide) ?_
      refine lv_goto (tgt := 50) hx hb dX5_isTaken_46 (by decide) ?_
      rw [hQ]
      exact W.zret (v := 1) hx hb hr (jb_nz (Or.inr rfl)) (fun t ht hW => ⟨⟨1, (), rfl, ⟨(Or.inr rfl), trivial⟩, hh_7.rt (M1 := []) [] rfl ht⟩, by rw [ht]; try exact hh_7.1.1, fun q h9 hq => by rw [ht]; try exact hh_7.1.2.1 q h9 hq⟩) hh_7.1.2.2 dX5_isTaken_50
    · skip
      have c_9' : r_8.toInt < 0 := jb_ge_n (rfl) ((by decide)) c_9
      refine lv_aload_n hx hb dX5_isTaken_19 rfl (lv_at hl 1 rfl) ?_
      refine lv_ifnull hx hb dX5_isTaken_20 ?_
      refine lv_aload_n hx hb dX5_isTaken_23 rfl (lv_at hl 1 rfl) ?_
      obtain ⟨v_10, hv_10, hh_11⟩ := hh_7.pin (C := RX3) (T := TX3) (N := 4) hB5 rfl (by decide) hg_r1 (i := 0) (by decide) rfl
      clear hh_7
      obtain ⟨variables_12, nvariables_12, rfl, hg_variables_12, hvavariables_12, hvbvariables_12, hvcvariables_12⟩ := hv_10
      refine j7_read hx hb hown hK (C := RX3) (T := TX3) (N := 4) rfl hly_5_0 hlk_177 (hh_11.at 0 rfl) dX5_isTaken_24 ?_
      refine lv_iload_n hx hb dX5_isTaken_27 rfl (lv_at hl 2 rfl) ?_
      refine va_calli (A0 := jA base) (H0 := s.heap) (va_runS (As := [.ref variables_12, .int a2]) (rest := []) ⟨hx, hb, hml, hown, hts⟩ (uX9_find l dC dI ca base B hB hAp hB101 G0 H_7 variables_12 a2 nvariables_12) (va_cwS 2 hts (jgS (jWr_81 _ (List.mem_of_getElem? (i := 18) rfl)) (jWr_30 _ (List.mem_of_getElem? (i := 20) rfl)) (jWr_4 _ (List.mem_of_getElem? (i := 18) rfl)) (jWr_30 _ (List.mem_of_getElem? (i := 21) rfl))) rfl rfl rfl (by decide +kernel) ⟨by rw [← hR]; exact Nat.le_of_ble_eq_true rfl, by rw [← hR]; exact Nat.le_of_ble_eq_true rfl⟩) ⟨fun a U g mk q => by obtain ⟨q0, q1, q2, qK, q10, q11, q12⟩ := q; exact ⟨q0, q1, q2, jG.calling g mk a qK, q10, q11, q12⟩, fun U hU hW => ⟨rfl, hU, hh_11.2.1, hG.step hW hU hh_11.1, hg_variables_12, jP.nil, by first | omega | rfl | assumption | decide | exact Or.inl rfl | exact Or.inr rfl | (simp only; omega)⟩⟩ rfl rfl hl.1 rfl (lv_room (Nat.le_of_ble_eq_true rfl)) dX5_isTaken_28 ⟨Nat.zero_le _, Nat.zero_le _⟩) hh_11.1 (fun q _ h => h) (fun q h => h) (fun r_14 u_13 t_13 H_13 locs_13 ht_13 hvm_13 hr_14 hb_13 hz_13 hk_13 hS_13 => ?_)
      rw [ht_13] at hb_13
      obtain ⟨hb_131, hb_132, hb_133, hb_134, hb_135⟩ := hb_13
      have hh_13 : jSt (dC, dI) B base G0 G0 EX5_isTaken s.heap 0 0 [(r1, 5, 0, .ref variables_12), (r0, 11, 4, .ref factNames_6)] [] [] H_13 locs_13 := ((hh_11.call hb_131 hb_132 hb_133 hb_134 hS_13 rfl (L1 := [(r1, 5, 0, .ref variables_12), (r0, 11, 4, .ref factNames_6)]) [0, 1] rfl rfl (M1 := []) [] rfl rfl (I1 := []) [] rfl rfl).more hb_135)
      clear hh_11 ht_13 hvm_13 hz_13 hk_13 hS_13 hb_131 hb_132 hb_133 hb_134 hb_135
      obtain ⟨hr_14_0, hr_14_1⟩ := hr_14
      refine lv_if_ge (tgt := 45) hx hb dX5_isTaken_31 (by decide) (fun c_15 => ?_) (fun c_15 => ?_)
      · skip
        have c_15' : r_14.toInt ≥ 0 := jb_ge (rfl) ((by decide)) c_15
        refine lv_iconst (v := 1) hx hb dX5_isTaken_45 (by decide) ?_
        refine lv_goto (tgt := 50) hx hb dX5_isTaken_46 (by decide) ?_
        rw [hQ]
        exact W.zret (v := 1) hx hb hr (jb_nz (Or.inr rfl)) (fun t ht hW => ⟨⟨1, (), rfl, ⟨(Or.inr rfl), trivial⟩, hh_13.rt (M1 := []) [] rfl ht⟩, by rw [ht]; try exact hh_13.1.1, fun q h9 hq => by rw [ht]; try exact hh_13.1.2.1 q h9 hq⟩) hh_13.1.2.2 dX5_isTaken_50
      · skip
        have c_15' : r_14.toInt < 0 := jb_ge_n (rfl) ((by decide)) c_15
        refine lv_aload_n hx hb dX5_isTaken_34 rfl (lv_at hl 1 rfl) ?_
        obtain ⟨v_16, hv_16, hh_17⟩ := hh_13.pin (C := RX3) (T := TX3) (N := 4) hB5 rfl (by decide) hg_r1 (i := 1) (by decide) rfl
        clear hh_13
        obtain ⟨names_18, rfl, hg_names_18⟩ := hv_16
        refine j7_read hx hb hown hK (C := RX3) (T := TX3) (N := 4) rfl hly_5_1 hlk_164 (hh_17.at 0 rfl) dX5_isTaken_35 ?_
        refine lv_iload_n hx hb dX5_isTaken_38 rfl (lv_at hl 2 rfl) ?_
        refine va_calli (A0 := jA base) (H0 := s.heap) (va_runS (As := [.ref names_18, .int a2]) (rest := []) ⟨hx, hb, hml, hown, hts⟩ (uX9_find l dC dI ca base B hB hAp hB101 G0 H_13 names_18 a2 (n1 / 10)) (va_cwS 2 hts (jgS (jWr_81 _ (List.mem_of_getElem? (i := 18) rfl)) (jWr_30 _ (List.mem_of_getElem? (i := 20) rfl)) (jWr_4 _ (List.mem_of_getElem? (i := 18) rfl)) (jWr_30 _ (List.mem_of_getElem? (i := 21) rfl))) rfl rfl rfl (by decide +kernel) ⟨by rw [← hR]; exact Nat.le_of_ble_eq_true rfl, by rw [← hR]; exact Nat.le_of_ble_eq_true rfl⟩) ⟨fun a U g mk q => by obtain ⟨q0, q1, q2, qK, q10, q11, q12⟩ := q; exact ⟨q0, q1, q2, jG.calling g mk a qK, q10, q11, q12⟩, fun U hU hW => ⟨rfl, hU, hh_17.2.1, hG.step hW hU hh_17.1, hg_names_18, jP.nil, by first | omega | rfl | assumption | decide | exact Or.inl rfl | exact Or.inr rfl | (simp only; omega)⟩⟩ rfl rfl hl.1 rfl (lv_room (Nat.le_of_ble_eq_true rfl)) dX5_isTaken_39 ⟨Nat.zero_le _, Nat.zero_le _⟩) hh_17.1 (fun q _ h => h) (fun q h => h) (fun r_20 u_19 t_19 H_19 locs_19 ht_19 hvm_19 hr_20 hb_19 hz_19 hk_19 hS_19 => ?_)
        rw [ht_19] at hb_19
        obtain ⟨hb_191, hb_192, hb_193, hb_194, hb_195⟩ := hb_19
        have hh_19 : jSt (dC, dI) B base G0 G0 EX5_isTaken s.heap 0 0 [(r1, 5, 1, .ref names_18), (r1, 5, 0, .ref variables_12), (r0, 11, 4, .ref factNames_6)] [] [] H_19 locs_19 := ((hh_17.call hb_191 hb_192 hb_193 hb_194 hS_19 rfl (L1 := [(r1, 5, 1, .ref names_18), (r1, 5, 0, .ref variables_12), (r0, 11, 4, .ref factNames_6)]) [0, 1, 2] rfl rfl (M1 := []) [] rfl rfl (I1 := []) [] rfl rfl).more hb_195)
        clear hh_17 ht_19 hvm_19 hz_19 hk_19 hS_19 hb_191 hb_192 hb_193 hb_194 hb_195
        obtain ⟨hr_20_0, hr_20_1⟩ := hr_20
        refine lv_if_lt (tgt := 49) hx hb dX5_isTaken_42 (by decide) (fun c_21 => ?_) (fun c_21 => ?_)
        · skip
          have c_21' : r_20.toInt < 0 := jb_lt (rfl) ((by decide)) c_21
          refine lv_iconst (v := 0) hx hb dX5_isTaken_49 (by decide) ?_
          rw [hQ]
          exact W.zret (v := 0) hx hb hr (jb_nz (Or.inl rfl)) (fun t ht hW => ⟨⟨0, (), rfl, ⟨(Or.inl rfl), trivial⟩, hh_19.rt (M1 := []) [] rfl ht⟩, by rw [ht]; try exact hh_19.1.1, fun q h9 hq => by rw [ht]; try exact hh_19.1.2.1 q h9 hq⟩) hh_19.1.2.2 dX5_isTaken_50
        · skip
          have c_21' : r_20.toInt ≥ 0 := jb_lt_n (rfl) ((by decide)) c_21
          refine lv_iconst (v := 1) hx hb dX5_isTaken_45 (by decide) ?_
          refine lv_goto (tgt := 50) hx hb dX5_isTaken_46 (by decide) ?_
          rw [hQ]
          exact W.zret (v := 1) hx hb hr (jb_nz (Or.inr rfl)) (fun t ht hW => ⟨⟨1, (), rfl, ⟨(Or.inr rfl), trivial⟩, hh_19.rt (M1 := []) [] rfl ht⟩, by rw [ht]; try exact hh_19.1.1, fun q h9 hq => by rw [ht]; try exact hh_19.1.2.1 q h9 hq⟩) hh_19.1.2.2 dX5_isTaken_50
set_option maxHeartbeats 4000000 in
set_option maxRecDepth 20000 in
theorem uX5_isTakenZ (l : Launch) (dC : Nat → ClassId) (dI : Nat → Nat → Nat) (ca : Nat → ClassId) (base : Nat) (B : jF) (hB : jBok B) (hAp : jAp (dC, dI)) (hB5 : ∀ n G a H, B 5 n G a H ↔ jOb (dC, dI) 5 4 (F5 n G) a H) (hB11 : ∀ n G a H, B 11 n G a H ↔ jOb (dC, dI) 11 9 (F11 n G) a H) (hB101 : ∀ n G a H, B 101 n G a H ↔ jAr (dC, dI) (ca 1) (fun j z => True) n a H) (G0 : jT) (H0 : Heap) (r0 : Nat) (a2 : Int32) : Met l yX5_isTaken (jw yX5_isTaken cX5_isTaken 3 (some .boolean)) ({ frames := 1, cells := 0, slots := 0, locals := 22 }) (va_Pc [.ref r0, .null, .int a2] (fun U => U.heap = H0 ∧ jX B base G0 [] H0 ∧ jG dC dI ca base U ∧ G0 r0 = some (11, 0) ∧ jP (dC, dI) G0 H0 [] ∧ True)) (va_Qi (S := Unit) (fun r u => (r = 0 ∨ r = 1) ∧ (True)) (fun u t => jRt (dC, dI) B base G0 EX5_isTakenZ H0 [] t.heap) (jA base)) 0 0 (jA base) := by
  refine Met.ofW (cc := cX5_isTaken) (maxL := 3) (ret := (some .boolean)) (by decide) rfl ?_
  intro p e s m args below meth c s₁ Bd hml hv
  obtain ⟨rfl, hH0, hX, hG, hg_r0, hP0, hp0⟩ := hv
  have hK := hG.1
  have hx := Bd.exec
  have hb := Bd.bytes
  have hr := Bd.returns
  have hts := atoms_spec (ws := (jw yX5_isTaken cX5_isTaken 3 (some .boolean))) Bd.pre
  have htw : ∀ w ∈ jWl, w.before _ s = true := fun w h => hts w (List.mem_cons_of_mem _ h)
  have hown : s.vm.findClass RX5 = some m.cls := findClass_of_methodNamed Bd.named
  have hlocks := Bd.notSynchronized
  obtain ⟨Q, hQ⟩ : ∃ Q, Q = MQ below (va_Qi (S := Unit) (fun r u => (r = 0 ∨ r = 1) ∧ (True)) (fun u t => jRt (dC, dI) B base G0 EX5_isTakenZ H0 [] t.heap) (jA base)) ([.ref r0, .null, .int a2] : List Value).toArray s 0 0 (jA base) := ⟨_, rfl⟩
  rw [← hQ]
  have hl := lv_entry ([.ref r0, .null, .int a2]) (n := 3) (Nat.le_of_ble_eq_true rfl)
  rw [lg_entry_eq]
  generalize (lg_sl ([.ref r0, .null, .int a2]) ++ List.replicate (3 - (lg_sl ([.ref r0, .null, .int a2])).length) Slot.unset).toArray = ls at hl ⊢
  have hl : lv_has ls 3 [(0, .ref r0), (1, .null), (2, .int a2)] := hl
  generalize hR : (headSpec (jw yX5_isTaken cX5_isTaken 3 (some .boolean)) ({ frames := 1, cells := 0, slots := 0, locals := 22 })).room = R
  subst hH0
  have hh : jSt (dC, dI) B base G0 G0 EX5_isTakenZ s.heap 0 0 [] [] [] s.heap [] := jSt.start hX hP0 jMc.nil jIs.nil
  clear hX hP0
  have hk0 : (0 : Int32).toInt = 0 := by decide
  have hk1 : (1 : Int32).toInt = 1 := by decide
  have hly_5_0 := htw (u_lay RX3 TX3 0) (jWc_wsX30 _ (u_in_lay (by decide)))
  have hly_5_1 := htw (u_lay RX3 TX3 1) (jWc_wsX30 _ (u_in_lay (by decide)))
  have hly_11_4 := htw (u_lay RX9 TX9 4) (jWc_wsX90 _ (u_in_lay (by decide)))
  have hlk_174 := (htw (.fieldLink RX5 174 "ProofServer$State" "factNames" "[I") (jWr_81 _ (List.mem_of_getElem? (i := 14) rfl)))
  have hlk_177 := (htw (.fieldLink RX5 177 "ProofServer$Goal" "variables" "[I") (jWr_81 _ (List.mem_of_getElem? (i := 15) rfl)))
  have hlk_164 := (htw (.fieldLink RX5 164 "ProofServer$Goal" "names" "[I") (jWr_81 _ (List.mem_of_getElem? (i := 16) rfl)))
  have hrg_a2 := jb_rng a2
  refine lv_aload_n hx hb dX5_isTaken_0 rfl (lv_at hl 0 rfl) ?_
  refine lv_iload_n hx hb dX5_isTaken_1 rfl (lv_at hl 2 rfl) ?_
  refine va_calli (A0 := jA base) (H0 := s.heap) (va_runV (As := [.int a2]) (rest := []) ⟨hx, hb, hml, hown, hts⟩ (uX9_symbolOf l dC dI ca base B hB hAp hB11 hB101 G0 s.heap r0 a2) (cwV 1 hts (jgV (jWr_81 _ (List.mem_of_getElem? (i := 17) rfl)) (jWr_30 _ (List.mem_of_getElem? (i := 23) rfl)) (jWr_31 _ (List.mem_of_getElem? (i := 0) rfl)) (jWr_4 _ (List.mem_of_getElem? (i := 18) rfl)) (jWr_31 _ (List.mem_of_getElem? (i := 1) rfl))) rfl rfl rfl (by decide +kernel) ⟨by rw [← hR]; exact Nat.le_of_ble_eq_true rfl, by rw [← hR]; exact Nat.le_of_ble_eq_true rfl⟩) ⟨fun a U g mk q => by obtain ⟨q0, q1, q2, qK, q10, q11, q12⟩ := q; exact ⟨q0, q1, q2, jG.calling g mk a qK, q10, q11, q12⟩, hh.recv (C := RX9) (T := TX9) (N := 9) hB11 rfl (by decide) hg_r0 hK, fun U hU hW => ⟨rfl, hU, hh.2.1, hG.step hW hU hh.1, hg_r0, jP.nil, trivial⟩⟩ rfl rfl hl.1 rfl (lv_room (Nat.le_of_ble_eq_true rfl)) dX5_isTaken_2 ⟨Nat.zero_le _, Nat.zero_le _⟩) hh.1 (fun q _ h => h) (fun q h => h) (fun r_2 u_1 t_1 H_1 locs_1 ht_1 hvm_1 hr_2 hb_1 hz_1 hk_1 hS_1 => ?_)
  rw [ht_1] at hb_1
  obtain ⟨hb_11, hb_12, hb_13, hb_14, hb_15⟩ := hb_1
  have hh_1 : jSt (dC, dI) B base G0 G0 EX5_isTakenZ s.heap 0 0 [] [] [] H_1 locs_1 := ((hh.call hb_11 hb_12 hb_13 hb_14 hS_1 rfl (L1 := []) [] rfl rfl (M1 := []) [] rfl rfl (I1 := []) [] rfl rfl).more hb_15)
  clear hh ht_1 hvm_1 hz_1 hk_1 hS_1 hb_11 hb_12 hb_13 hb_14 hb_15
  refine lv_if_ge (tgt := 45) hx hb dX5_isTaken_5 (by decide) (fun c_3 => ?_) (fun c_3 => ?_)
  · skip
    have c_3' : r_2.toInt ≥ 0 := jb_ge (rfl) ((by decide)) c_3
    refine lv_iconst (v := 1) hx hb dX5_isTaken_45 (by decide) ?_
    refine lv_goto (tgt := 50) hx hb dX5_isTaken_46 (by decide) ?_
    rw [hQ]
    exact W.zret (v := 1) hx hb hr (jb_nz (Or.inr rfl)) (fun t ht hW => ⟨⟨1, (), rfl, ⟨(Or.inr rfl), trivial⟩, hh_1.rt (M1 := []) [] rfl ht⟩, by rw [ht]; try exact hh_1.1.1, fun q h9 hq => by rw [ht]; try exact hh_1.1.2.1 q h9 hq⟩) hh_1.1.2.2 dX5_isTaken_50
  · skip
    have c_3' : r_2.toInt < 0 := jb_ge_n (rfl) ((by decide)) c_3
    refine lv_aload_n hx hb dX5_isTaken_8 rfl (lv_at hl 0 rfl) ?_
    obtain ⟨v_4, hv_4, hh_5⟩ := hh_1.pin (C := RX9) (T := TX9) (N := 9) hB11 rfl (by decide) hg_r0 (i := 4) (by decide) rfl
    clear hh_1
    obtain ⟨factNames_6, nfactNames_6, rfl, hg_factNames_6, hn_factNames_6⟩ := hv_4
    refine j7_read hx hb hown hK (C := RX9) (T := TX9) (N := 9) rfl hly_11_4 hlk_174 (hh_5.at 0 rfl) dX5_isTaken_9 ?_
    refine lv_iload_n hx hb dX5_isTaken_12 rfl (lv_at hl 2 rfl) ?_
    refine va_calli (A0 := jA base) (H0 := s.heap) (va_runS (As := [.ref factNames_6, .int a2]) (rest := []) ⟨hx, hb, hml, hown, hts⟩ (uX9_find l dC dI ca base B hB hAp hB101 G0 H_1 factNames_6 a2 nfactNames_6) (va_cwS 2 hts (jgS (jWr_81 _ (List.mem_of_getElem? (i := 18) rfl)) (jWr_30 _ (List.mem_of_getElem? (i := 20) rfl)) (jWr_4 _ (List.mem_of_getElem? (i := 18) rfl)) (jWr_30 _ (List.mem_of_getElem? (i := 21) rfl))) rfl rfl rfl (by decide +kernel) ⟨by rw [← hR]; exact Nat.le_of_ble_eq_true rfl, by rw [← hR]; exact Nat.le_of_ble_eq_true rfl⟩) ⟨fun a U g mk q => by obtain ⟨q0, q1, q2, qK, q10, q11, q12⟩ := q; exact ⟨q0, q1, q2, jG.calling g mk a qK, q10, q11, q12⟩, fun U hU hW => ⟨rfl, hU, hh_5.2.1, hG.step hW hU hh_5.1, hg_factNames_6, jP.nil, by first | omega | rfl | assumption | decide | exact Or.inl rfl | exact Or.inr rfl | (simp only; omega)⟩⟩ rfl rfl hl.1 rfl (lv_room (Nat.le_of_ble_eq_true rfl)) dX5_isTaken_13 ⟨Nat.zero_le _, Nat.zero_le _⟩) hh_5.1 (fun q _ h => h) (fun q h => h) (fun r_8 u_7 t_7 H_7 locs_7 ht_7 hvm_7 hr_8 hb_7 hz_7 hk_7 hS_7 => ?_)
    rw [ht_7] at hb_7
    obtain ⟨hb_71, hb_72, hb_73, hb_74, hb_75⟩ := hb_7
    have hh_7 : jSt (dC, dI) B base G0 G0 EX5_isTakenZ s.heap 0 0 [(r0, 11, 4, .ref factNames_6)] [] [] H_7 locs_7 := ((hh_5.call hb_71 hb_72 hb_73 hb_74 hS_7 rfl (L1 := [(r0, 11, 4, .ref factNames_6)]) [0] rfl rfl (M1 := []) [] rfl rfl (I1 := []) [] rfl rfl).more hb_75)
    clear hh_5 ht_7 hvm_7 hz_7 hk_7 hS_7 hb_71 hb_72 hb_73 hb_74 hb_75
    obtain ⟨hr_8_0, hr_8_1⟩ := hr_8
    refine lv_if_ge (tgt := 45) hx hb dX5_isTaken_16 (by decide) (fun c_9 => ?_) (fun c_9 => ?_)
    · skip
      have c_9' : r_8.toInt ≥ 0 := jb_ge (rfl) ((by decide)) c_9
      refine lv_iconst (v := 1) hx hb dX5_isTaken_45 (by decide) ?_
      refine lv_goto (tgt := 50) hx hb dX5_isTaken_46 (by decide) ?_
      rw [hQ]
      exact W.zret (v := 1) hx hb hr (jb_nz (Or.inr rfl)) (fun t ht hW => ⟨⟨1, (), rfl, ⟨(Or.inr rfl), trivial⟩, hh_7.rt (M1 := []) [] rfl ht⟩, by rw [ht]; try exact hh_7.1.1, fun q h9 hq => by rw [ht]; try exact hh_7.1.2.1 q h9 hq⟩) hh_7.1.2.2 dX5_isTaken_50
    · skip
      have c_9' : r_8.toInt < 0 := jb_ge_n (rfl) ((by decide)) c_9
      refine j7_nld_n hx hb dX5_isTaken_19 rfl (lv_at hl 1 rfl) ?_
      refine lv_ifnullN (tgt := 49) hx hb dX5_isTaken_20 (by decide) ?_
      refine lv_iconst (v := 0) hx hb dX5_isTaken_49 (by decide) ?_
      rw [hQ]
      exact W.zret (v := 0) hx hb hr (jb_nz (Or.inl rfl)) (fun t ht hW => ⟨⟨0, (), rfl, ⟨(Or.inl rfl), trivial⟩, hh_7.rt (M1 := []) [] rfl ht⟩, by rw [ht]; try exact hh_7.1.1, fun q h9 hq => by rw [ht]; try exact hh_7.1.2.1 q h9 hq⟩) hh_7.1.2.2 dX5_isTaken_50
end
section
-- what the kernel's walks need: raw arrays of ints, arrays whose last element is null, states, new goals
section J30
variable {p : Program} {l : Launch} {e : Env} {R : Room} {s : State} {m : MethodId} {args : Array Value} {below : List Frame} {meth : Method} {c : Code} {H : Heap} {locs : List Loc} {cells slots : Nat} {Q : State → Prop}
variable {cc : ByteArray} {pc : Nat} {ls : Array Slot} {rest : List Value} {dC : Nat → ClassId} {dI : Nat → Nat → Nat} {ca : Nat → ClassId} {B : jF} {base : Nat} {G0 G : jT} {E : List (Nat × Nat)} {H0 : Heap} {zc zs : Nat} {L : List jPin} {M : List jCt} {I : List jIv} {a a0 k k0 n n0 index : Nat} {tys : List (ClassId × FieldType)} {own C : String} {cA : ClassId}
theorem j7_iastR {f : Nat → Int32} (hexec : p.tables.exec = Jvm.exec) (hb : c.code = cc) (hK : va_K (dC, dI) vwCl tys s) (hh : jSt (dC, dI) B base G0 G E H0 zc zs L M I H locs) (hB : jBok B) (hraw : va_at (dC, dI) vwCl (a, .inl (cA, n, .inl f)) H) (hnr : ∀ t, G a ≠ some t) (hba : base ≤ a) (t0 : Nat) (ht : tys[t0]? = some (cA, .int)) {i v : Int32} {x : Int} (hi : i.toInt = x) (h12 : 0 ≤ x ∧ x < n) (hdg : decode cc pc = .ok (.iastore, 1))
    (kk : ∀ (H1 : Heap) (locs1 : List Loc), va_at (dC, dI) vwCl (a, .inl (cA, n, .inl (upd f x.toNat v))) H1 → (∀ q, q ≠ a → H1[q]? = H[q]?) → jSt (dC, dI) B base G0 G E H0 zc zs L M I H1 locs1 → W p l e R s m args below meth c H1 locs1 cells slots Q (F0 m (pc + 1) ls rest)) : W p l e R s m args below meth c H locs cells slots Q (F0 m pc ls (.int v :: .int i :: .ref a :: rest)) := by
  obtain ⟨h1, h2⟩ := h12
  exact j_iast (A := jA base) hexec hb hK t0 hraw hba hh.1.2.2 ht (jb_in hi h1 h2) hdg (fun H1 locs1 hat hsz hfr hT hL => kk H1 locs1 (by rw [jb_cl hi h1] at hat; exact hat) hfr (hh.rawput hB hnr hba hsz hfr hT hL))
theorem j7_acopyR {P0 : Nat → Int32 → Prop} {g : Nat → Int32} (hexec : p.tables.exec = Jvm.exec) (hb : c.code = cc) (hml : c.maxLocals = ls.size) (hown : s.vm.findClass own = some m.cls) (hlink : (Cond.methodLink own index arraycopyName).before args s = true) (hnat : (Cond.native arraycopyName).before args s = true) (hstat : (Cond.static arraycopyName).before args s = true) (hini : (Cond.initialized "java/lang/System").before args s = true)
    (hK : va_K (dC, dI) vwCl tys s) (hh : jSt (dC, dI) B base G0 G E H0 zc zs L M I H locs) (hB : jBok B) (hBk0 : ∀ n G a H, B k0 n G a H ↔ jAr (dC, dI) cA P0 n a H) (t0 : Nat) (ht : tys[t0]? = some (cA, .int)) (hk0 : k0 < 1000) (ha0 : G a0 = some (k0, n0)) (hraw : va_at (dC, dI) vwCl (a, .inl (cA, n, .inl g)) H) (hnr : ∀ t, G a ≠ some t) (hba : base ≤ a)
    {sp dp w : Int32} {x y z : Int} (hx : sp.toInt = x) (hy : dp.toInt = y) (hz : w.toInt = z) (h1 : 0 ≤ x ∧ 0 ≤ y ∧ 0 ≤ z ∧ x + z ≤ n0 ∧ y + z ≤ n)
    (hframes : 1 ≤ R.frames) (hlocals : (rest.map fun v => v.category).sum + (nativeFrameWords "java/lang/System" "arraycopy" 5 + 11) ≤ R.locals) (hdg : decode cc pc = .ok (.invokestatic index, 3))
    (kk : ∀ (H1 : Heap) (locs1 : List Loc) (g1 : Nat → Int32), va_at (dC, dI) vwCl (a, .inl (cA, n, .inl g1)) H1 → (∀ j, g1 j = g j ∨ ∃ i, P0 i (g1 j)) → (∀ q, q ≠ a → H1[q]? = H[q]?) → jSt (dC, dI) B base G0 G E H0 zc zs L M I H1 locs1 → W p l e R s m args below meth c H1 locs1 cells slots Q (F0 m (pc + 3) ls rest)) : W p l e R s m args below meth c H locs cells slots Q (F0 m pc ls (.int w :: .int dp :: .ref a :: .int sp :: .ref a0 :: rest)) := by
  obtain ⟨q1, q2, q3, q4, q5⟩ := h1
  obtain ⟨f, f1, f2⟩ := hh.ar hBk0 hk0 ha0
  have g1 := hraw
  have s0 : ¬ sp < 0 := jb_n0 hx q1
  have d0 : ¬ dp < 0 := jb_n0 hy q2
  have w0 : ¬ w < 0 := jb_n0 hz q3
  have es : sp.toNatClampNeg = x.toNat := jb_cl hx q1
  have ed : dp.toNatClampNeg = y.toNat := jb_cl hy q2
  have ew : w.toNatClampNeg = z.toNat := jb_cl hz q3
  have h4 : sp.toNatClampNeg + w.toNatClampNeg ≤ n0 := by rw [es, ew]; omega
  have c0 : H[a0]? = some (vp_cell cA (n0, .inl f)) := f1
  have c1 : H[a]? = some (vp_cell cA (n, .inl g)) := g1
  intro T hT X
  obtain ⟨-, k9, hk9, cm9, hkk9⟩ := (hK.2 t0 _ ht).1 n0 (fun j => .int (f j))
  obtain ⟨-, k8, hk8, cm8, hkk8⟩ := (hK.2 t0 _ ht).1 n (fun j => .int (g j))
  obtain ⟨vm', X', step⟩ := X.arraycopy hexec hown hlink hnat hstat hini (src := a0) (dst := a) (cs := vp_cell cA (n0, .inl f)) (cd := vp_cell cA (n, .inl g)) (srcPos := sp) (destPos := dp) (n := w) (by rw [hT]; exact c0) (by rw [hT]; exact c1)
    (fun _ h => by cases h) (fun _ h => by cases h) (fun h => by cases h) (fun h => by cases h) hk9 hk8 hkk9 hkk8 (by simp [refKind]) s0 d0 w0
    (by rw [hx, hz]; show ¬ _ > ((arrV cA n0 (fun j => .int (f j))).slots.size : Int); rw [arrV_size]; omega)
    (by rw [hy, hz]; show ¬ _ > ((arrV cA n (fun j => .int (g j))).slots.size : Int); rw [arrV_size]; omega)
    (fun vm₁ _ i hi => by
      have e9 : (vp_cell cA (n0, .inl f)).slots.getD (sp.toNatClampNeg + i) .null = .int (f (sp.toNatClampNeg + i)) := by
        show (arrV cA n0 (fun j => .int (f j))).slots.getD _ _ = _
        rw [Array.getD_eq_getD_getElem?, arrV_read _ _ (by omega)]
        rfl
      rw [e9]
      exact ⟨rfl, trivial⟩)
    (g := F0 m pc ls (.int w :: .int dp :: .ref a :: .int sp :: .ref a0 :: rest)) rfl (by rw [hml]) (rest := rest) rfl (by rw [hb]; exact hdg) hframes (by show 2 * 0 + _ + _ ≤ _; omega)
  have e1 : copied (vp_cell cA (n0, .inl f)) (vp_cell cA (n, .inl g)) sp dp w = vp_cell cA (n, .inl (va_cpy f g sp.toNatClampNeg dp.toNatClampNeg w.toNatClampNeg)) := va_copied (fun z => .int z) cA cA f g h4
  rw [e1] at X' step
  have hl : a < H.size := (Array.getElem?_eq_some_iff.mp c1).1
  have hheap : ((T.setVm vm').setCell a (vp_cell cA (n, .inl (va_cpy f g sp.toNatClampNeg dp.toNatClampNeg w.toNatClampNeg)))).heap = H.setIfInBounds a (vp_cell cA (n, .inl (va_cpy f g sp.toNatClampNeg dp.toNatClampNeg w.toNatClampNeg))) := by rw [← hT]; rfl
  have oq : ∀ q : Nat, q ≠ a → (H.setIfInBounds a (vp_cell cA (n, .inl (va_cpy f g sp.toNatClampNeg dp.toNatClampNeg w.toNatClampNeg))))[q]? = H[q]? := fun q hq => by simp [Array.getElem?_setIfInBounds, Ne.symm hq]
  have ha1 : (H.setIfInBounds a (vp_cell cA (n, .inl (va_cpy f g sp.toNatClampNeg dp.toNatClampNeg w.toNatClampNeg))))[a]? = some (vp_cell cA (n, .inl (va_cpy f g sp.toNatClampNeg dp.toNatClampNeg w.toNatClampNeg))) := by simp [Array.getElem?_setIfInBounds, hl]
  have hsz : (H.setIfInBounds a (vp_cell cA (n, .inl (va_cpy f g sp.toNatClampNeg dp.toNatClampNeg w.toNatClampNeg)))).size = H.size := by simp
  obtain ⟨t, a1, b1⟩ := kk _ _ (va_cpy f g sp.toNatClampNeg dp.toNatClampNeg w.toNatClampNeg) ha1 (fun j => by
      unfold va_cpy
      split
      · rename_i hc
        exact Or.inr ⟨_, f2 (sp.toNatClampNeg + (j - dp.toNatClampNeg)) (by omega)⟩
      · exact Or.inl rfl) oq (hh.rawput hB hnr hba hsz oq (jTot_set hsz c1 ha1 (by rw [vp_cell_i, vp_cell_i, arrV_size, arrV_size]) oq) (fun q hq => by
      rcases List.mem_append.mp hq with h | h
      · exact hh.1.2.2 q h
      · obtain ⟨z9, -, hz9⟩ := List.mem_map.mp h
        rw [← hz9]
        exact hba)) _ hheap X'
  exact ⟨t, step t a1, b1⟩
theorem jSt.aqZ (hh : jSt (dC, dI) B base G0 G E H0 zc zs L M I H locs) (hBk : ∀ n G a H, B k n G a H ↔ jAqZ (dC, dI) cA n a H) (hk : k < 1000) (ha : G a = some (k, n)) : ∃ f : Nat → Option Nat, va_at (dC, dI) vwCl (a, .inl (cA, n, .inr (.inr (.inr (.inr f))))) H ∧ (0 < n → f (n - 1) = none) := (hBk _ _ _ _).mp (hh.2.1.1 a k n ha hk (fun h => by cases h))
theorem j7_qlenZ (hexec : p.tables.exec = Jvm.exec) (hb : c.code = cc) (hK : va_K (dC, dI) vwCl tys s) (hh : jSt (dC, dI) B base G0 G E H0 zc zs L M I H locs) (hBk : ∀ n G a H, B k n G a H ↔ jAqZ (dC, dI) cA n a H) (t0 : Nat) {ty : FieldType} (ht : tys[t0]? = some (cA, ty)) (hk : k < 1000) (ha : G a = some (k, n)) (hn : n < 2147483648) (hdg : decode cc pc = .ok (.arraylength, 1))
    (kk : ∀ z : Int32, z.toInt = n → W p l e R s m args below meth c H locs cells slots Q (F0 m (pc + 1) ls (.int z :: rest))) : W p l e R s m args below meth c H locs cells slots Q (F0 m pc ls (.ref a :: rest)) := by
  obtain ⟨f, h1, -⟩ := hh.aqZ hBk hk ha
  exact va_alen (v := Int32.ofNat n) hexec hb hK (jp_one h1) 0 t0 rfl ht rfl hdg (kk _ (jb_nat hn))
theorem j7_qaldZ (hexec : p.tables.exec = Jvm.exec) (hb : c.code = cc) (hK5 : jK5 dC dI ca s) (hh : jSt (dC, dI) B base G0 G E H0 zc zs L M I H locs) (hBk : ∀ n G a H, B k n G a H ↔ jAqZ (dC, dI) (ca 8) n a H) (hk : k < 1000) (ha : G a = some (k, n)) {i : Int32} {x : Int} (hi : i.toInt = x) (h12 : 0 ≤ x ∧ x < n) (hlast : x + 1 = n) (hdg : decode cc pc = .ok (.aaload, 1))
    (kk : W p l e R s m args below meth c H locs cells slots Q (F0 m (pc + 1) ls (.null :: rest))) : W p l e R s m args below meth c H locs cells slots Q (F0 m pc ls (.int i :: .ref a :: rest)) := by
  obtain ⟨h1, h2⟩ := h12
  obtain ⟨f, g1, g2⟩ := hh.aqZ hBk hk ha
  have hlt := jb_cl_lt hi h1 h2
  have c1 : H[a]? = some (vp_cell (ca 8) (n, .inr (.inr (.inr (.inr f))))) := g1
  have e1 : f i.toNatClampNeg = none := by
    have := g2 (by omega)
    rw [jb_cl hi h1, show x.toNat = n - 1 by omega]
    exact this
  exact W.aald (v := va_rf (f i.toNatClampNeg)) (ty := .array .int) hexec hb c1 ((hK5.1.2 0 _ rfl).1 n (fun j => va_rf (f j))) rfl (fun q => by cases q) (by show ¬ (i < 0 ∨ (arrV _ _ _).slots.size ≤ _); rw [arrV_size]; exact jb_in hi h1 h2) (by show (arrV _ _ _).slots[_]? = _; rw [arrV_read _ _ hlt]) rfl rfl hdg (by rw [e1]; exact kk)
theorem j7_aastN0 {T : State} (X : Stand p l e R s m args below meth c T locs cells slots) (hexec : p.tables.exec = Jvm.exec) {a : Addr} {cell : Cell} {j : Int32} (hcell : T.heap[a]? = some cell) (harr : s.isArrayOf cell (.array .int)) (hknown : cell.vm ≠ .unknown)
    (hin : ¬ (j < 0 ∨ cell.slots.size ≤ j.toNatClampNeg))
    {g : JFrame} (hg : g.method = m) {rest : List Value} (hstack : g.stack = .null :: .int j :: .ref a :: rest) (hdg : decode c.code g.pc = .ok (.aastore, 1)) :
    Stand p l e R s m args below meth c (T.setCell a (cell.setSlot j.toNatClampNeg .null)) (locs ++ [⟨a, j.toNatClampNeg⟩]) cells slots ∧
      ∀ target, Steps p.tables e below ((T.setCell a (cell.setSlot j.toNatClampNeg .null)).setTop { g with pc := g.pc + 1, stack := rest }) target → Steps p.tables e below (T.setTop g) target := by
  have hT := State.isArrayOf_alike X.warmed.alike harr
  have hfit : T.fitsSlot cell.cls cell.vm j.toNatClampNeg .null = true := by
    obtain ⟨hobj, k, hk, comp, hkind⟩ := hT
    cases hvm : cell.vm <;> first | exact absurd hvm (hobj _) | simp [State.fitsSlot, State.slotType?, hk, hkind, fits]
  refine ⟨X.stored hcell _ _, fun target hrest => ?_⟩
  subst hg
  jvm_step X.here [hexec, hdg]
  refine aastore.wp_of_null (c := cell) (t := .array .int) X.here.top hstack hcell hT hin hknown (Nat.not_le.mp fun q => hin (Or.inr q)) hfit ?_
  intro acts
  rw [afterInstr_ok]
  exact hrest
theorem j7_WaastN (hexec : p.tables.exec = Jvm.exec) (hb : c.code = cc) {a : Addr} {cell : Cell} {j : Int32} (hcell : H[a]? = some cell) (harr : s.isArrayOf cell (.array .int)) (hknown : cell.vm ≠ .unknown) (hin : ¬ (j < 0 ∨ cell.slots.size ≤ j.toNatClampNeg))
    {g : JFrame} (hg : g.method = m) {rest : List Value} (hstack : g.stack = .null :: .int j :: .ref a :: rest) (hdg : decode cc g.pc = .ok (.aastore, 1))
    (kk : ∀ H' : Heap, H'[a]? = some (cell.setSlot j.toNatClampNeg .null) → H'.size = H.size → (∀ q, q ≠ a → H'[q]? = H[q]?) → W p l e R s m args below meth c H' (locs ++ [⟨a, j.toNatClampNeg⟩]) cells slots Q { g with pc := g.pc + 1, stack := rest }) :
    W p l e R s m args below meth c H locs cells slots Q g := by
  intro T hT X
  have hT' : T.heap[a]? = some cell := by rw [hT]; exact hcell
  obtain ⟨X', st⟩ := j7_aastN0 X hexec hT' harr hknown hin hg hstack (by rw [hb]; exact hdg)
  have hlt : a < T.heap.size := (Array.getElem?_eq_some_iff.mp hT').1
  obtain ⟨t', a1, b1⟩ := kk _ (heapAt_setCell_self _ hlt) (by rw [size_setCell, hT]) (fun q hq => by rw [heapAt_setCell_ne _ (Ne.symm hq), hT]) (T.setCell a (cell.setSlot j.toNatClampNeg .null)) rfl X'
  exact ⟨t', st t' a1, b1⟩
theorem j7_qastAN {f : Nat → Option Nat} (hexec : p.tables.exec = Jvm.exec) (hb : c.code = cc) (hK5 : jK5 dC dI ca s) (hh : jSt (dC, dI) B base G0 G E H0 zc zs L M I H locs) (hB : jBok B) (hraw : va_at (dC, dI) vwCl (a, .inl (ca 8, n, .inr (.inr (.inr (.inr f))))) H) (hnr : ∀ t, G a ≠ some t) (hba : base ≤ a) {i : Int32} {x : Int} (hi : i.toInt = x) (h12 : 0 ≤ x ∧ x < n) (hdg : decode cc pc = .ok (.aastore, 1))
    (kk : ∀ (H1 : Heap) (locs1 : List Loc), va_at (dC, dI) vwCl (a, .inl (ca 8, n, .inr (.inr (.inr (.inr (va_up f x.toNat none)))))) H1 → (∀ q, q ≠ a → H1[q]? = H[q]?) → jSt (dC, dI) B base G0 G E H0 zc zs L M I H1 locs1 → W p l e R s m args below meth c H1 locs1 cells slots Q (F0 m (pc + 1) ls rest)) : W p l e R s m args below meth c H locs cells slots Q (F0 m pc ls (.null :: .int i :: .ref a :: rest)) := by
  obtain ⟨h1, h2⟩ := h12
  have g1 : H[a]? = some (vp_cell (ca 8) (n, .inr (.inr (.inr (.inr f))))) := hraw
  have hcl := jb_cl hi h1
  refine j7_WaastN hexec hb g1 ((hK5.1.2 0 _ rfl).1 n (fun j => va_rf (f j))) (fun h => by cases h) (by show ¬ (i < 0 ∨ (arrV _ _ _).slots.size ≤ _); rw [arrV_size]; exact jb_in hi h1 h2) rfl rfl hdg fun H1 e1 z oq => ?_
  refine kk H1 _ ?_ oq (hh.rawput hB hnr hba z oq (jTot_set z g1 e1 (jSet_sz _ _ _) oq) (fun q hq => ?_))
  · show H1[a]? = some (vp_cell _ _)
    rw [e1, vp_cell_q, vp_cell_q, arrV_store, hcl]
    congr 2
    funext q
    by_cases hq : q = x.toNat
    · subst hq
      simp [updV, va_up, va_rf]
    · simp [updV, va_up, hq]
  · rcases List.mem_append.mp hq with h | h
    · exact hh.1.2.2 q h
    · cases List.mem_singleton.mp h; exact hba
/-- a reference is read from an array that has no kind yet -/
theorem j7_qaldR {f : Nat → Option Nat} (hexec : p.tables.exec = Jvm.exec) (hb : c.code = cc) (hK : va_K (dC, dI) vwCl tys s) (hraw : va_at (dC, dI) vwCl (a, .inl (cA, n, .inr (.inr (.inr (.inr f))))) H) (t0 : Nat) (ht : tys[t0]? = some (cA, .object C)) {i : Int32} {x : Int} (hi : i.toInt = x) (h12 : 0 ≤ x ∧ x < n) {v : Nat} (hv : f x.toNat = some v) (hdg : decode cc pc = .ok (.aaload, 1))
    (kk : W p l e R s m args below meth c H locs cells slots Q (F0 m (pc + 1) ls (.ref v :: rest))) : W p l e R s m args below meth c H locs cells slots Q (F0 m pc ls (.int i :: .ref a :: rest)) := by
  obtain ⟨h1, h2⟩ := h12
  have hlt := jb_cl_lt hi h1 h2
  have c1 : H[a]? = some (vp_cell cA (n, .inr (.inr (.inr (.inr f))))) := hraw
  have e1 : f i.toNatClampNeg = some v := by rw [jb_cl hi h1]; exact hv
  exact W.aald (v := va_rf (f i.toNatClampNeg)) (ty := .object C) hexec hb c1 ((hK.2 t0 _ ht).1 n (fun j => va_rf (f j))) rfl (fun q => by cases q) (by show ¬ (i < 0 ∨ (arrV _ _ _).slots.size ≤ _); rw [arrV_size]; exact jb_in hi h1 h2) (by show (arrV _ _ _).slots[_]? = _; rw [arrV_read _ _ hlt]) rfl rfl hdg (by rw [e1]; exact kk)
/-- an array without elements has its kind at once -/
theorem j7_newq0 {P : jT → Option Nat → Prop} (hexec : p.tables.exec = Jvm.exec) (hb : c.code = cc) (hown : s.vm.findClass own = some m.cls) (hclink : (Cond.classLink own index C).before args s = true) (hover : va_AO C s) (hK : va_K (dC, dI) vwCl tys s) (hh : jSt (dC, dI) B base G0 G E s.heap zc zs L M I H locs) (hB : jBok B) (hBk : ∀ n G a H, B k n G a H ↔ jAq (dC, dI) cA P n G a H) (t0 : Nat) (ht : tys[t0]? = some (cA, .object C)) (hk : k < 1000) (hb0 : base ≤ s.heap.size) {z : Int32} (hi : z.toInt = 0) (hR : zc + 1 ≤ R.cells) (hR2 : zs + 0 ≤ R.slots) (hdg : decode cc pc = .ok (.anewarray index, 3))
    (kk : ∀ (H1 : Heap), (∀ q, q < H.size → H1[q]? = H[q]?) → jSt (dC, dI) B base G0 (va_up G H.size (some (k, 0))) E s.heap (zc + 1) (zs + 0) L M I H1 locs → W p l e R s m args below meth c H1 locs (zc + 1) (zs + 0) Q (F0 m (pc + 3) ls (.ref H.size :: rest))) : W p l e R s m args below meth c H locs cells slots Q (F0 m pc ls (.int z :: rest)) :=
  j7_newqR hexec hb hown hclink hover hK hh hB t0 ht (x := 0) hi (by omega) hR hR2 hdg (fun H1 hfr hnr hraw hh1 => kk H1 hfr (hh1.typ hB hnr (Nat.le_trans hb0 hh.1.1) hraw.lt (jAq.of hBk hraw (fun j hj => absurd hj (Nat.not_lt_zero j)))))
theorem j7_newa0 {P : jT → Option Nat → Prop} (hexec : p.tables.exec = Jvm.exec) (hb : c.code = cc) (hown : s.vm.findClass own = some m.cls) (hclink : (Cond.classLink own index (FieldType.array .int).toString).before args s = true) (hK5 : jK5 dC dI ca s) (hh : jSt (dC, dI) B base G0 G E s.heap zc zs L M I H locs) (hB : jBok B) (hBk : ∀ n G a H, B k n G a H ↔ jAq (dC, dI) (ca 8) P n G a H) (hk : k < 1000) (hb0 : base ≤ s.heap.size) {z : Int32} (hi : z.toInt = 0) (hR : zc + 1 ≤ R.cells) (hR2 : zs + 0 ≤ R.slots) (hdg : decode cc pc = .ok (.anewarray index, 3))
    (kk : ∀ (H1 : Heap), (∀ q, q < H.size → H1[q]? = H[q]?) → jSt (dC, dI) B base G0 (va_up G H.size (some (k, 0))) E s.heap (zc + 1) (zs + 0) L M I H1 locs → W p l e R s m args below meth c H1 locs (zc + 1) (zs + 0) Q (F0 m (pc + 3) ls (.ref H.size :: rest))) : W p l e R s m args below meth c H locs cells slots Q (F0 m pc ls (.int z :: rest)) :=
  j7_newaR hexec hb hown hclink hK5 hh hB (x := 0) hi (by omega) hR hR2 hdg (fun H1 hfr hnr hraw hh1 => kk H1 hfr (hh1.typ hB hnr (Nat.le_trans hb0 hh.1.1) hraw.lt (jAq.of hBk hraw (fun j hj => absurd hj (Nat.not_lt_zero j)))))
/-- contents that are known keep to the kind -/
theorem jSt.allP {P : Nat → Int32 → Prop} {f : Nat → Int32} {cB : ClassId} (hh : jSt (dC, dI) B base G0 G E H0 zc zs L M I H locs) (hBk : ∀ n G a H, B k n G a H ↔ jAr (dC, dI) cA P n a H) (hk : k < 1000) (j : Nat) (hj : M[j]? = some (a, k, n, cB, f)) : ∀ i, i < n → P i (f i) := by
  obtain ⟨q1, -, -, q4⟩ := hh.2.2.2.2.2.2.2.1 _ (List.mem_of_getElem? hj)
  have q1' : G a = some (k, n) := q1
  have q4' : va_at (dC, dI) vwCl (a, .inl (cB, n, .inl f)) H := q4
  obtain ⟨f', g1, g2⟩ := hh.ar hBk hk q1'
  intro i hi
  have e : f i = f' i := jCt_eq q4' g1 hi
  rw [e]
  exact g2 i hi
end J30
theorem jFp.cpy {g g1 : Nat → Int32} (h : jFp g) (hc : ∀ j, g1 j = g j ∨ ∃ _i : Nat, -1 ≤ (g1 j).toInt) : jFp g1 := fun j => by
  rcases hc j with e | ⟨_, e⟩
  · rw [e]; exact h j
  · exact e
theorem jPqk.told {f g : Nat → Int32} {b i0 i s i1 s1 y : Int} (h : jPqk f g b i0 i s) (hi : i1 = i + 1) (h1 : jSo f i % 16 = 10) (h2 : jSo f i / 32768 < b) (hy : y = jSo f i / 32768) (hs : s1 = s + jSo g y) : jPqk f g b i0 i1 s1 := h.step hi (by rw [hs, hy]; unfold jW; rw [if_pos ⟨h1, h2⟩])
theorem jPqk.toldq {f g : Nat → Int32} {b i0 i s i1 s1 y z : Int} (h : jPqk f g b i0 i s) (hq : z = jSo g y) (hi : i1 = i + 1) (h1 : jSo f i % 16 = 10) (h2 : jSo f i / 32768 < b) (hy : y = jSo f i / 32768) (hs : s1 = s + z) : jPqk f g b i0 i1 s1 := h.told hi h1 h2 hy (by rw [hs, hq])
theorem jPqk.fit {f g : Nat → Int32} {b i0 i s e t : Int} (h : jPqk f g b i0 i s) (h1 : jPqk f g b i0 e t) (hie : i < e) (hn : ∀ j, i0 ≤ j → j < e → 0 ≤ jW f g b j) : s + jW f g b i ≤ t := by
  have h2 := h.step rfl rfl
  obtain ⟨q1, q2⟩ := h2
  obtain ⟨p1, p2⟩ := h1
  rw [q2, p2]
  exact jPs.mono hn _ _ (by omega) (by omega)
theorem jPqk.fitT {f g : Nat → Int32} {b i0 i s e t y : Int} {n : Nat} (h : jPqk f g b i0 i s) (h1 : jPqk f g b i0 e t) (hie : i < e) (hf : jNn1 f n) (hen : e ≤ n ∨ e ≤ i0) (h0 : 0 ≤ i0) (hg : jNn0 g 13) (hb : b ≤ 13) (c1 : jSo f i % 16 = 10) (c2 : jSo f i / 32768 < b) (hy : y = jSo f i / 32768) : s + jSo g y ≤ t := by
  have h2 := h.fit h1 hie (fun j q1 q2 => jW.nn (hf j (by omega) (by omega)) hg hb)
  unfold jW at h2
  rw [if_pos ⟨c1, c2⟩, ← hy] at h2
  exact h2
theorem jUpN {f : Nat → Option Nat} {i j : Nat} (h : j = i) : va_up f i none j = none := by subst h; simp [va_up]
-- goals that fit
end
section
-- all cells but these stay
section J31
variable {p : Program} {l : Launch} {e : Env} {R : Room} {s : State} {m : MethodId} {args : Array Value} {below : List Frame} {meth : Method} {c : Code} {H : Heap} {locs : List Loc} {cells slots : Nat} {Q : State → Prop}
variable {cc : ByteArray} {pc : Nat} {ls : Array Slot} {rest : List Value} {dC : Nat → ClassId} {dI : Nat → Nat → Nat} {ca : Nat → ClassId} {B : jF} {base : Nat} {G0 G : jT} {E : List (Nat × Nat)} {H0 : Heap} {zc zs : Nat} {L : List jPin} {M : List jCt} {I : List jIv} {a k n : Nat} {tys : List (ClassId × FieldType)} {cA : ClassId}
theorem j7_lastF (hexec : p.tables.exec = Jvm.exec) (hb : c.code = cc) (hK : va_K (dC, dI) vwCl tys s) (hh : jSt (dC, dI) B base G0 G E H0 zc zs L M I H locs) (hB : jBok B) (hBk : ∀ n G a H, B k n G a H ↔ jAl (dC, dI) cA n a H) (t0 : Nat) (ht : tys[t0]? = some (cA, .long)) (hk : k < 1000) (hk2 : 18 ≤ k) (hE : E.contains (k, 0) = true) (hM : M.all (fun q => !(q.2.1 == k)) = true) (hI : I.all (fun q => !(q.1.contains (k, 0))) = true) (ha : G a = some (k, n)) {i : Int32} {v : Int64} {x : Int} (hi : i.toInt = x) (h12 : 0 ≤ x ∧ x < n) (hdg : decode cc pc = .ok (.lastore, 1))
    (kk : ∀ (H1 : Heap) (locs1 : List Loc), (∀ q, q ≠ a → H1[q]? = H[q]?) → jSt (dC, dI) B base G0 G E H0 zc zs L M I H1 locs1 → W p l e R s m args below meth c H1 locs1 cells slots Q (F0 m (pc + 1) ls rest)) : W p l e R s m args below meth c H locs cells slots Q (F0 m pc ls (.long v :: .int i :: .ref a :: rest)) := by
  obtain ⟨h1, h2⟩ := h12
  obtain ⟨f, g1⟩ := hh.al hBk hk ha
  exact j_last (A := jA base) hexec hb hK t0 g1 (hh.ab ha).1 hh.1.2.2 ht (jb_in hi h1 h2) hdg (fun H1 locs1 hat hsz hfr hT hL => kk H1 locs1 hfr (hh.arr hB ha hk hk2 hE hM hI hsz hfr hT hL ((hBk _ _ _ _).mpr ⟨_, hat⟩)))
end J31
end
