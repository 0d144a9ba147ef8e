theorem dX9_longer_0 : decode cX9_longer 0 = .ok (.aload_n 0, 1) := by decide +kernel
theorem dX9_longer_1 : decode cX9_longer 1 = .ok (.aload_n 0, 1) := by decide +kernel
theorem dX9_longer_2 : decode cX9_longer 2 = .ok (.arraylength, 1) := by decide +kernel
theorem dX9_longer_3 : decode cX9_longer 3 = .ok (.iconst 1, 1) := by decide +kernel
theorem dX9_longer_4 : decode cX9_longer 4 = .ok (.iadd, 1) := by decide +kernel
theorem dX9_longer_5 : decode cX9_longer 5 = .ok (.invokestatic 43, 3) := by decide +kernel
theorem dX9_longer_8 : decode cX9_longer 8 = .ok (.astore_n 2, 1) := by decide +kernel
theorem dX9_longer_9 : decode cX9_longer 9 = .ok (.aload_n 2, 1) := by decide +kernel
theorem dX9_longer_10 : decode cX9_longer 10 = .ok (.aload_n 0, 1) := by decide +kernel
theorem dX9_longer_11 : decode cX9_longer 11 = .ok (.arraylength, 1) := by decide +kernel
theorem dX9_longer_12 : decode cX9_longer 12 = .ok (.iload_n 1, 1) := by decide +kernel
theorem dX9_longer_13 : decode cX9_longer 13 = .ok (.iastore, 1) := by decide +kernel
theorem dX9_longer_14 : decode cX9_longer 14 = .ok (.aload_n 2, 1) := by decide +kernel
theorem dX9_longer_15 : decode cX9_longer 15 = .ok (.areturn, 1) := by decide +kernel
theorem dX9_longer__0 : decode cX9_longer_ 0 = .ok (.aload_n 0, 1) := by decide +kernel
theorem dX9_longer__1 : decode cX9_longer_ 1 = .ok (.arraylength, 1) := by decide +kernel
theorem dX9_longer__2 : decode cX9_longer_ 2 = .ok (.iconst 1, 1) := by decide +kernel
theorem dX9_longer__3 : decode cX9_longer_ 3 = .ok (.iadd, 1) := by decide +kernel
theorem dX9_longer__4 : decode cX9_longer_ 4 = .ok (.anewarray 18, 3) := by decide +kernel
theorem dX9_longer__7 : decode cX9_longer_ 7 = .ok (.astore_n 2, 1) := by decide +kernel
theorem dX9_longer__8 : decode cX9_longer_ 8 = .ok (.iconst 0, 1) := by decide +kernel
theorem dX9_longer__9 : decode cX9_longer_ 9 = .ok (.istore_n 3, 1) := by decide +kernel
theorem dX9_longer__10 : decode cX9_longer_ 10 = .ok (.iload_n 3, 1) := by decide +kernel
theorem dX9_longer__11 : decode cX9_longer_ 11 = .ok (.aload_n 0, 1) := by decide +kernel
theorem dX9_longer__12 : decode cX9_longer_ 12 = .ok (.arraylength, 1) := by decide +kernel
theorem dX9_longer__13 : decode cX9_longer_ 13 = .ok (.if_icmp .ge 15, 3) := by decide +kernel
theorem dX9_longer__16 : decode cX9_longer_ 16 = .ok (.aload_n 2, 1) := by decide +kernel
theorem dX9_longer__17 : decode cX9_longer_ 17 = .ok (.iload_n 3, 1) := by decide +kernel
theorem dX9_longer__18 : decode cX9_longer_ 18 = .ok (.aload_n 0, 1) := by decide +kernel
theorem dX9_longer__19 : decode cX9_longer_ 19 = .ok (.iload_n 3, 1) := by decide +kernel
theorem dX9_longer__20 : decode cX9_longer_ 20 = .ok (.aaload, 1) := by decide +kernel
theorem dX9_longer__21 : decode cX9_longer_ 21 = .ok (.aastore, 1) := by decide +kernel
theorem dX9_longer__22 : decode cX9_longer_ 22 = .ok (.iinc 3 1, 3) := by decide +kernel
theorem dX9_longer__25 : decode cX9_longer_ 25 = .ok (.goto (-15), 3) := by decide +kernel
theorem dX9_longer__28 : decode cX9_longer_ 28 = .ok (.aload_n 2, 1) := by decide +kernel
theorem dX9_longer__29 : decode cX9_longer_ 29 = .ok (.aload_n 0, 1) := by decide +kernel
theorem dX9_longer__30 : decode cX9_longer_ 30 = .ok (.arraylength, 1) := by decide +kernel
theorem dX9_longer__31 : decode cX9_longer_ 31 = .ok (.aload_n 1, 1) := by decide +kernel
theorem dX9_longer__32 : decode cX9_longer_ 32 = .ok (.aastore, 1) := by decide +kernel
theorem dX9_longer__33 : decode cX9_longer_ 33 = .ok (.aload_n 2, 1) := by decide +kernel
theorem dX9_longer__34 : decode cX9_longer_ 34 = .ok (.areturn, 1) := by decide +kernel
theorem dJ7_copyOf_59c91_0 : decode cJ7_copyOf_59c91 0 = .ok (.iload_n 1, 1) := by decide +kernel
theorem dJ7_copyOf_59c91_1 : decode cJ7_copyOf_59c91 1 = .ok (.aload_n 0, 1) := by decide +kernel
theorem dJ7_copyOf_59c91_2 : decode cJ7_copyOf_59c91 2 = .ok (.arraylength, 1) := by decide +kernel
theorem dJ7_copyOf_59c91_3 : decode cJ7_copyOf_59c91 3 = .ok (.if_icmp .ne 11, 3) := by decide +kernel
theorem dJ7_copyOf_59c91_6 : decode cJ7_copyOf_59c91 6 = .ok (.aload_n 0, 1) := by decide +kernel
theorem dJ7_copyOf_59c91_7 : decode cJ7_copyOf_59c91 7 = .ok (.invokevirtual 316, 3) := by decide +kernel
theorem dJ7_copyOf_59c91_10 : decode cJ7_copyOf_59c91 10 = .ok (.checkcast 317, 3) := by decide +kernel
theorem dJ7_copyOf_59c91_13 : decode cJ7_copyOf_59c91 13 = .ok (.areturn, 1) := by decide +kernel
theorem dJ7_copyOf_59c91_14 : decode cJ7_copyOf_59c91 14 = .ok (.iload_n 1, 1) := by decide +kernel
theorem dJ7_copyOf_59c91_15 : decode cJ7_copyOf_59c91 15 = .ok (.newarray .int, 2) := by decide +kernel
theorem dJ7_copyOf_59c91_17 : decode cJ7_copyOf_59c91 17 = .ok (.astore_n 2, 1) := by decide +kernel
theorem dJ7_copyOf_59c91_18 : decode cJ7_copyOf_59c91 18 = .ok (.aload_n 0, 1) := by decide +kernel
theorem dJ7_copyOf_59c91_19 : decode cJ7_copyOf_59c91 19 = .ok (.iconst 0, 1) := by decide +kernel
theorem dJ7_copyOf_59c91_20 : decode cJ7_copyOf_59c91 20 = .ok (.aload_n 2, 1) := by decide +kernel
theorem dJ7_copyOf_59c91_21 : decode cJ7_copyOf_59c91 21 = .ok (.iconst 0, 1) := by decide +kernel
theorem dJ7_copyOf_59c91_22 : decode cJ7_copyOf_59c91 22 = .ok (.aload_n 0, 1) := by decide +kernel
theorem dJ7_copyOf_59c91_23 : decode cJ7_copyOf_59c91 23 = .ok (.arraylength, 1) := by decide +kernel
theorem dJ7_copyOf_59c91_24 : decode cJ7_copyOf_59c91 24 = .ok (.iload_n 1, 1) := by decide +kernel
theorem dJ7_copyOf_59c91_25 : decode cJ7_copyOf_59c91 25 = .ok (.invokestatic 304, 3) := by decide +kernel
theorem dJ7_copyOf_59c91_28 : decode cJ7_copyOf_59c91 28 = .ok (.invokestatic 150, 3) := by decide +kernel
theorem dJ7_copyOf_59c91_31 : decode cJ7_copyOf_59c91 31 = .ok (.aload_n 2, 1) := by decide +kernel
theorem dJ7_copyOf_59c91_32 : decode cJ7_copyOf_59c91 32 = .ok (.areturn, 1) := by decide +kernel
def EJ7_copyOf_59c91 : List (Nat × Nat) := [(101, 0)]
def EX9_longer : List (Nat × Nat) := [(101, 0)]
set_option maxHeartbeats 4000000 in
set_option maxRecDepth 20000 in
theorem uJ7_copyOf_59c91 (l : Launch) (dC : Nat → ClassId) (dI : Nat → Nat → Nat) (ca : Nat → ClassId) (base : Nat) (B : jF) (hB : jBok B) (hAp : jAp (dC, dI)) (hB101 : ∀ n G a H, B 101 n G a H ↔ jAr (dC, dI) (ca 1) (fun j z => True) n a H) (G0 : jT) (H0 : Heap) (r0 : Nat) (a1 : Int32) (n0 : Nat) (LC LS : Nat) : Met l yJ7_copyOf_59c91 (jw yJ7_copyOf_59c91 cJ7_copyOf_59c91 3 (some (.array .int))) ({ frames := 1, cells := LC - H0.size, slots := LS - jTot H0, locals := 61 }) (va_Pc [.ref r0, .int a1] (fun U => U.heap = H0 ∧ jX B base G0 [] H0 ∧ jG dC dI ca base U ∧ G0 r0 = some (101, n0) ∧ jP (dC, dI) G0 H0 [] ∧ H0.size + 1 ≤ LC ∧ jTot H0 + a1.toInt.toNat ≤ LS ∧ 0 ≤ a1.toInt ∧ a1.toInt ≤ 3000 ∧ n0 ≤ 3000 ∧ a1.toInt ≠ n0)) (jQx (S := Nat × jT) (fun v u => jRf u.2 101 u.1 v ∧ jNwv v H0 ∧ u.1 = a1.toInt) (fun u t => jRa (dC, dI) B base G0 u.2 EJ7_copyOf_59c91 H0 (1) (u.1) [] t.heap ∧ (jNk [0, 1, 2, 3, 4, 5, 6, 7, 8, 9, 10, 11, 12, 13, 14, 15, 16]) G0 u.2 ∧ jKe G0 u.2 H0 t.heap) (jA base)) (LC - H0.size) (LS - jTot H0) (jA base) := by
  refine Met.ofW (cc := cJ7_copyOf_59c91) (maxL := 3) (ret := (some (.array .int))) (by decide) rfl ?_
  intro p e s m args below meth c s₁ Bd hml hv
  obtain ⟨rfl, hH0, hX, hG, hg_r0, hP0, hLC0, hLS0, hp0, hp1, hp2, hp3⟩ := hv
  have hK := hG.1
  have hx := Bd.exec
  have hb := Bd.bytes
  have hr := Bd.returns
  have hts := atoms_spec (ws := (jw yJ7_copyOf_59c91 cJ7_copyOf_59c91 3 (some (.array .int)))) Bd.pre
  have htw : ∀ w ∈ jWl, w.before _ s = true := fun w h => hts w (List.mem_cons_of_mem _ h)
  have hown : s.vm.findClass RJ7 = some m.cls := findClass_of_methodNamed Bd.named
  have hlocks := Bd.notSynchronized
  obtain ⟨Q, hQ⟩ : ∃ Q, Q = MQ below (jQx (S := Nat × jT) (fun v u => jRf u.2 101 u.1 v ∧ jNwv v H0 ∧ u.1 = a1.toInt) (fun u t => jRa (dC, dI) B base G0 u.2 EJ7_copyOf_59c91 H0 (1) (u.1) [] t.heap ∧ (jNk [0, 1, 2, 3, 4, 5, 6, 7, 8, 9, 10, 11, 12, 13, 14, 15, 16]) G0 u.2 ∧ jKe G0 u.2 H0 t.heap) (jA base)) ([.ref r0, .int a1] : List Value).toArray s (LC - H0.size) (LS - jTot H0) (jA base) := ⟨_, rfl⟩
  rw [← hQ]
  have hl := lv_entry ([.ref r0, .int a1]) (n := 3) (Nat.le_of_ble_eq_true rfl)
  rw [lg_entry_eq]
  generalize (lg_sl ([.ref r0, .int a1]) ++ List.replicate (3 - (lg_sl ([.ref r0, .int a1])).length) Slot.unset).toArray = ls at hl ⊢
  have hl : lv_has ls 3 [(0, .ref r0), (1, .int a1)] := hl
  generalize hR : (headSpec (jw yJ7_copyOf_59c91 cJ7_copyOf_59c91 3 (some (.array .int))) ({ frames := 1, cells := LC - H0.size, slots := LS - jTot H0, locals := 61 })).room = R
  subst hH0
  have hh : jSt (dC, dI) B base G0 G0 EJ7_copyOf_59c91 s.heap 0 0 [] [] [] s.heap [] := jSt.start hX hP0 jMc.nil jIs.nil
  clear hX hP0
  have hk0 : (0 : Int32).toInt = 0 := by decide
  have hk1 : (1 : Int32).toInt = 1 := by decide
  have hrg_a1 := jb_rng a1
  have hbs : base ≤ s.heap.size := Nat.le_of_lt (Nat.lt_of_le_of_lt (hh.ab hg_r0).1 (hh.ab hg_r0).2)
  have hRc : R.cells = LC - s.heap.size := by rw [← hR]; rfl
  have hRs : R.slots = LS - jTot s.heap := by rw [← hR]; rfl
  have hkp : jKe G0 G0 s.heap s.heap := jKe.rf
  refine lv_iload_n hx hb dJ7_copyOf_59c91_0 rfl (lv_at hl 1 rfl) ?_
  refine lv_aload_n hx hb dJ7_copyOf_59c91_1 rfl (lv_at hl 0 rfl) ?_
  refine j7_len hx hb hK hh hB101 1 rfl (by decide) hg_r0 (by omega) dJ7_copyOf_59c91_2 (fun z_1 hz_1 => ?_)
  refine lv_icmp_ne (tgt := 14) hx hb dJ7_copyOf_59c91_3 (by decide) (fun c_2 => ?_) (fun c_2 => ?_)
  · skip
    have c_2' : a1.toInt ≠ z_1.toInt := jb_ne (rfl) (rfl) c_2
    refine lv_iload_n hx hb dJ7_copyOf_59c91_14 rfl (lv_at hl 1 rfl) ?_
    have hsz_3 := hh.2.2.2.2.2.1
    have htt_3 := hh.2.2.2.2.2.2.1
    refine j7_newiK hx hb hK hh hB (atype := .int) (ty := .int) (htw (.arrayClass .int) (jWr_3 _ (List.mem_of_getElem? (i := 20) rfl))) rfl rfl (fun _ h => h) hB101 1 rfl (by decide) (by decide) hbs (x := a1.toInt) rfl (by omega) (fun j => by first | trivial | decide | rfl | exact Or.inl rfl | (refine ⟨?_, ?_⟩ <;> decide)) (by rw [hRc]; omega) (by rw [hRs]; omega) dJ7_copyOf_59c91_15 (fun H_3 hfr_3 hh_3 => ?_)
    have hh_3 : jSt (dC, dI) B base G0 (va_up G0 s.heap.size (some (101, (a1.toInt).toNat))) EJ7_copyOf_59c91 s.heap (0 + 1) (0 + (a1.toInt).toNat) [] [] [] H_3 [] := hh_3
    have hN_3 : (jNk [0, 1, 2, 3, 4, 5, 6, 7, 8, 9, 10, 11, 12, 13, 14, 15, 16]) G0 (va_up G0 s.heap.size (some (101, (a1.toInt).toNat))) := jNk.new (by decide)
    have hgn_3 : (va_up G0 s.heap.size (some (101, (a1.toInt).toNat))) s.heap.size = some (101, (a1.toInt).toNat) := jUp_self
    have hle_3 : jLe G0 (va_up G0 s.heap.size (some (101, (a1.toInt).toNat))) := jLe.new hh.2.1.fresh
    have hke_3 : jKe G0 (va_up G0 s.heap.size (some (101, (a1.toInt).toNat))) s.heap H_3 := jKe.new hfr_3
    have hsy_3 : s.heap.size ≤ s.heap.size := hh.1.1
    generalize (va_up G0 s.heap.size (some (101, (a1.toInt).toNat))) = G_3 at hN_3 hgn_3 hle_3 hke_3 hh_3
    generalize hnc_3 : (a1.toInt).toNat = nc_3 at hgn_3 hh_3 ⊢
    clear hh
    have hNn_3 : (jNk [0, 1, 2, 3, 4, 5, 6, 7, 8, 9, 10, 11, 12, 13, 14, 15, 16]) G0 G_3 := (jNk.rf).tr hN_3
    have hg_4 := hle_3 _ _ hg_r0
    have hkp_5 := hkp.tr hke_3
    refine lv_astore_n (lv' := [(2, .ref s.heap.size), (0, .ref r0), (1, .int a1)]) hx hb dJ7_copyOf_59c91_17 rfl hl (by decide) rfl (fun ls hl => ?_)
    refine lv_aload_n hx hb dJ7_copyOf_59c91_18 rfl (lv_at hl 1 rfl) ?_
    refine lv_iconst (v := 0) hx hb dJ7_copyOf_59c91_19 (by decide) ?_
    refine lv_aload_n hx hb dJ7_copyOf_59c91_20 rfl (lv_at hl 0 rfl) ?_
    refine lv_iconst (v := 0) hx hb dJ7_copyOf_59c91_21 (by decide) ?_
    refine lv_aload_n hx hb dJ7_copyOf_59c91_22 rfl (lv_at hl 1 rfl) ?_
    refine j7_len hx hb hK hh_3 hB101 1 rfl (by decide) hg_4 (by omega) dJ7_copyOf_59c91_23 (fun z_6 hz_6 => ?_)
    refine lv_iload_n hx hb dJ7_copyOf_59c91_24 rfl (lv_at hl 2 rfl) ?_
    have hsz_7 := hh_3.2.2.2.2.2.1
    have htt_7 := hh_3.2.2.2.2.2.2.1
    refine W.room (fun hrc_7 hrs_7 => ?_)
    refine va_mmin hx hb (by rw [hml]; exact hl.1.symm) hown (htw (.methodLink RJ7 304 Lib.Math.min.name) (jWr_16 _ (List.mem_of_getElem? (i := 15) rfl))) (htw (.static Lib.Math.min.name) (jWr_16 _ (List.mem_of_getElem? (i := 16) rfl))) (htw (.initialized "java/lang/Math") (jWr_3 _ (List.mem_of_getElem? (i := 7) rfl))) (htw (.code Lib.Math.min.name Lib.Math.min.code 2 (some .int)) (jWr_16 _ (List.mem_of_getElem? (i := 17) rfl))) (by rw [← hR]; exact Nat.le_of_ble_eq_true rfl) (by rw [← hR]; exact Nat.le_of_ble_eq_true rfl) (by rw [hRc]; omega) (by rw [hRs]; omega) dJ7_copyOf_59c91_25 ?_
    refine lv_topi (fun z_8 ez_8 => ?_)
    have hz_8 := jb_min ez_8
    refine j7_acopyi hx hb (by rw [hml]; exact hl.1.symm) hown (htw (.methodLink RJ7 150 arraycopyName) (jWr_16 _ (List.mem_of_getElem? (i := 18) rfl))) (htw (.native arraycopyName) (jWr_16 _ (List.mem_of_getElem? (i := 19) rfl))) (htw (.static arraycopyName) (jWr_16 _ (List.mem_of_getElem? (i := 20) rfl))) (htw (.initialized "java/lang/System") (jWr_16 _ (List.mem_of_getElem? (i := 21) rfl))) hK hh_3 hB hB101 hB101 1 rfl (by decide) (by decide) (by decide) rfl rfl rfl hg_4 hgn_3 (x := 0) (y := 0) (z := z_8.toInt) (by decide) (by decide) rfl (by omega) (fun _ _ _ => trivial) (by rw [← hR]; exact Nat.le_of_ble_eq_true rfl) (by rw [← hR]; exact Nat.le_of_ble_eq_true rfl) dJ7_copyOf_59c91_28 (fun H_9 locs_9 hr_9 hh_9 => ?_)
    have hkp_10 := hkp_5.st hsy_3 hr_9
    clear hr_9
    clear hh_3
    refine lv_aload_n hx hb dJ7_copyOf_59c91_31 rfl (lv_at hl 0 rfl) ?_
    have hsz_11 := hh_9.2.2.2.2.2.1
    have htt_11 := hh_9.2.2.2.2.2.2.1
    refine W.room (fun hrc_11 hrs_11 => ?_)
    refine W.widen (k := LC - s.heap.size) (n := LS - jTot s.heap) (by omega) (by omega) ?_
    rw [hQ]
    exact W.aret (v := .ref s.heap.size) hx hb hr (Or.inr ⟨_, rfl⟩) (Or.inr ⟨_, rfl⟩) (fun t ht hW => ⟨⟨.ref s.heap.size, (nc_3, G_3), rfl, ⟨⟨_, rfl, hgn_3⟩, ⟨_, rfl, hsy_3⟩, by (try dsimp only); first | omega | rfl | assumption | fail⟩, ⟨hh_9.ra (by first | omega | (simp only; omega)) (by first | omega | (simp only; omega)) (M1 := []) [] rfl ht, hNn_3, by rw [ht]; exact hkp_10⟩⟩, by rw [ht]; try exact hh_9.1.1, fun q h9 hq => by rw [ht]; try exact hh_9.1.2.1 q h9 hq⟩) hh_9.1.2.2 dJ7_copyOf_59c91_32
  · skip
    have c_2' : a1.toInt = z_1.toInt := jb_ne_n (rfl) (rfl) c_2
    exact absurd c_2' (by omega)
set_option maxHeartbeats 4000000 in
set_option maxRecDepth 20000 in
theorem uX9_longer (l : Launch) (dC : Nat → ClassId) (dI : Nat → Nat → Nat) (ca : Nat → ClassId) (base : Nat) (B : jF) (hB : jBok B) (hAp : jAp (dC, dI)) (hB101 : ∀ n G a H, B 101 n G a H ↔ jAr (dC, dI) (ca 1) (fun j z => True) n a H) (G0 : jT) (H0 : Heap) (r0 : Nat) (a1 : Int32) (n0 : Nat) (LC LS : Nat) : Met l yX9_longer (jw yX9_longer cX9_longer 3 (some (.array .int))) ({ frames := 2, cells := LC - H0.size, slots := LS - jTot H0, locals := 83 }) (va_Pc [.ref r0, .int a1] (fun U => U.heap = H0 ∧ jX B base G0 [] H0 ∧ jG dC dI ca base U ∧ G0 r0 = some (101, n0) ∧ jP (dC, dI) G0 H0 [] ∧ H0.size + 1 ≤ LC ∧ jTot H0 + n0 + 1 ≤ LS ∧ n0 ≤ 100)) (jQx (S := Nat × jT) (fun v u => jRf u.2 101 u.1 v ∧ jNwv v H0 ∧ u.1 = n0 + 1) (fun u t => jRa (dC, dI) B base G0 u.2 EX9_longer H0 (1) (u.1) [] t.heap ∧ (jNk [0, 1, 2, 3, 4, 5, 6, 7, 8, 9, 10, 11, 12, 13, 14, 15, 16]) G0 u.2 ∧ jKe G0 u.2 H0 t.heap) (jA base)) (LC - H0.size) (LS - jTot H0) (jA base) := by
  refine Met.ofW (cc := cX9_longer) (maxL := 3) (ret := (some (.array .int))) (by decide) rfl ?_
  intro p e s m args below meth c s₁ Bd hml hv
  obtain ⟨rfl, hH0, hX, hG, hg_r0, hP0, hLC0, hLS0, hp0⟩ := hv
  have hK := hG.1
  have hx := Bd.exec
  have hb := Bd.bytes
  have hr := Bd.returns
  have hts := atoms_spec (ws := (jw yX9_longer cX9_longer 3 (some (.array .int)))) Bd.pre
  have htw : ∀ w ∈ jWl, w.before _ s = true := fun w h => hts w (List.mem_cons_of_mem _ h)
  have hown : s.vm.findClass RX9 = some m.cls := findClass_of_methodNamed Bd.named
  have hlocks := Bd.notSynchronized
  obtain ⟨Q, hQ⟩ : ∃ Q, Q = MQ below (jQx (S := Nat × jT) (fun v u => jRf u.2 101 u.1 v ∧ jNwv v H0 ∧ u.1 = n0 + 1) (fun u t => jRa (dC, dI) B base G0 u.2 EX9_longer H0 (1) (u.1) [] t.heap ∧ (jNk [0, 1, 2, 3, 4, 5, 6, 7, 8, 9, 10, 11, 12, 13, 14, 15, 16]) G0 u.2 ∧ jKe G0 u.2 H0 t.heap) (jA base)) ([.ref r0, .int a1] : List Value).toArray s (LC - H0.size) (LS - jTot H0) (jA base) := ⟨_, rfl⟩
  rw [← hQ]
  have hl := lv_entry ([.ref r0, .int a1]) (n := 3) (Nat.le_of_ble_eq_true rfl)
  rw [lg_entry_eq]
  generalize (lg_sl ([.ref r0, .int a1]) ++ List.replicate (3 - (lg_sl ([.ref r0, .int a1])).length) Slot.unset).toArray = ls at hl ⊢
  have hl : lv_has ls 3 [(0, .ref r0), (1, .int a1)] := hl
  generalize hR : (headSpec (jw yX9_longer cX9_longer 3 (some (.array .int))) ({ frames := 2, cells := LC - H0.size, slots := LS - jTot H0, locals := 83 })).room = R
  subst hH0
  have hh : jSt (dC, dI) B base G0 G0 EX9_longer s.heap 0 0 [] [] [] s.heap [] := jSt.start hX hP0 jMc.nil jIs.nil
  clear hX hP0
  have hk0 : (0 : Int32).toInt = 0 := by decide
  have hk1 : (1 : Int32).toInt = 1 := by decide
  have hrg_a1 := jb_rng a1
  have hbs : base ≤ s.heap.size := Nat.le_of_lt (Nat.lt_of_le_of_lt (hh.ab hg_r0).1 (hh.ab hg_r0).2)
  have hRc : R.cells = LC - s.heap.size := by rw [← hR]; rfl
  have hRs : R.slots = LS - jTot s.heap := by rw [← hR]; rfl
  have hkp : jKe G0 G0 s.heap s.heap := jKe.rf
  refine lv_aload_n hx hb dX9_longer_0 rfl (lv_at hl 0 rfl) ?_
  refine lv_aload_n hx hb dX9_longer_1 rfl (lv_at hl 0 rfl) ?_
  refine j7_len hx hb hK hh hB101 1 rfl (by decide) hg_r0 (by omega) dX9_longer_2 (fun z_1 hz_1 => ?_)
  refine lv_iconst (v := 1) hx hb dX9_longer_3 (by decide) ?_
  refine lv_iadd hx hb dX9_longer_4 ?_
  refine lv_topi (fun z_2 ez_2 => ?_)
  have hz_2 : z_2.toInt = z_1.toInt + 1 := by rw [ez_2]; exact jb_iadd2 (rfl) ((by decide)) (by omega)
  have hsz_3 := hh.2.2.2.2.2.1
  have htt_3 := hh.2.2.2.2.2.2.1
  refine W.room (fun hrc_3 hrs_3 => ?_)
  refine j_callx (A0 := jA base) (H0 := s.heap) (va_runS (As := [.ref r0, .int z_2]) (rest := []) ⟨hx, hb, hml, hown, hts⟩ (uJ7_copyOf_59c91 l dC dI ca base B hB hAp hB101 G0 s.heap r0 z_2 n0 LC LS) (va_cwS 2 hts (jgS (jWr_81 _ (List.mem_of_getElem? (i := 22) rfl)) (jWr_81 _ (List.mem_of_getElem? (i := 23) rfl)) (jWr_16 _ (List.mem_of_getElem? (i := 7) rfl)) (jWr_82 _ (List.mem_of_getElem? (i := 0) rfl))) rfl rfl rfl (by decide +kernel) ⟨by rw [← hR]; exact Nat.le_of_ble_eq_true rfl, by rw [← hR]; exact Nat.le_of_ble_eq_true rfl⟩) ⟨fun a U g mk q => by obtain ⟨q0, q1, q2, qK, q10, q11, q12⟩ := q; exact ⟨q0, q1, q2, jG.calling g mk a qK, q10, q11, q12⟩, fun U hU hW => ⟨rfl, hU, hh.2.1, hG.step hW hU hh.1, hg_r0, jP.nil, by first | omega | (refine ⟨?_, ?_, ?_, ?_⟩ <;> (first | omega | rfl | assumption | decide | exact Or.inl rfl | exact Or.inr rfl | (simp only; omega)))⟩⟩ rfl rfl hl.1 rfl (lv_room (Nat.le_of_ble_eq_true rfl)) dX9_longer_5 ⟨by rw [hRc]; omega, by rw [hRs]; omega⟩) hh.1 (fun q _ h => h) (fun q h => h) (fun r_4 u_3 t_3 H_3 locs_3 ht_3 hvm_3 hr_4 hb_3 hz_3 hk_3 hS_3 => ?_)
  rw [ht_3] at hb_3
  obtain ⟨m_ret_3, G_3⟩ := u_3
  simp only at hb_3
  obtain ⟨⟨hb_31, hb_32, hb_33, hb_34, hb_35, hb_36⟩, hN_3, hbK_3⟩ := hb_3
  have hh_3 : jSt (dC, dI) B base G0 G_3 EX9_longer s.heap (0 + (1)) (0 + (m_ret_3)) [] [] [] H_3 locs_3 := (hh.callG hb_31 hb_32 hb_33 hb_34 hb_35 hS_3 rfl (L1 := []) [] rfl rfl (M1 := []) [] rfl rfl (I1 := []) [] rfl rfl).more hb_36
  have hNn_3 : (jNk [0, 1, 2, 3, 4, 5, 6, 7, 8, 9, 10, 11, 12, 13, 14, 15, 16]) G0 G_3 := (jNk.rf).tr hN_3
  have hg_5 := hb_32 _ _ hg_r0
  obtain ⟨hr_4, hr_4n, hr_4p⟩ := hr_4
  try simp only at hr_4p
  have hkp_6 := hkp.tr hbK_3
  obtain ⟨ret_7, rfl, hg_ret_7⟩ := hr_4
  have hsy_3 : s.heap.size ≤ ret_7 := Nat.le_trans hh.1.1 hr_4n.le
  refine lv_astore_n (lv' := [(2, .ref ret_7), (0, .ref r0), (1, .int a1)]) hx hb dX9_longer_8 rfl hl (by decide) rfl (fun ls hl => ?_)
  refine lv_aload_n hx hb dX9_longer_9 rfl (lv_at hl 0 rfl) ?_
  refine lv_aload_n hx hb dX9_longer_10 rfl (lv_at hl 1 rfl) ?_
  refine j7_len hx hb hK hh_3 hB101 1 rfl (by decide) hg_5 (by omega) dX9_longer_11 (fun z_8 hz_8 => ?_)
  refine lv_iload_n hx hb dX9_longer_12 rfl (lv_at hl 2 rfl) ?_
  refine j7_iastF hx hb hK hh_3 hB hB101 1 rfl (by decide) (by decide) rfl rfl rfl hg_ret_7 (x := z_8.toInt) (rfl) (by omega) (trivial) dX9_longer_13 (fun H_9 locs_9 hr_9 hh_9 => ?_)
  have hkp_10 := hkp_6.st hsy_3 hr_9
  clear hr_9
  clear hh_3
  refine lv_aload_n hx hb dX9_longer_14 rfl (lv_at hl 0 rfl) ?_
  have hsz_11 := hh_9.2.2.2.2.2.1
  have htt_11 := hh_9.2.2.2.2.2.2.1
  refine W.room (fun hrc_11 hrs_11 => ?_)
  refine W.widen (k := LC - s.heap.size) (n := LS - jTot s.heap) (by omega) (by omega) ?_
  rw [hQ]
  exact W.aret (v := .ref ret_7) hx hb hr (Or.inr ⟨_, rfl⟩) (Or.inr ⟨_, rfl⟩) (fun t ht hW => ⟨⟨.ref ret_7, (m_ret_3, G_3), rfl, ⟨⟨_, rfl, hg_ret_7⟩, ⟨_, rfl, hsy_3⟩, by (try dsimp only); first | omega | rfl | assumption | fail⟩, ⟨hh_9.ra (by first | omega | (simp only; omega)) (by first | omega | (simp only; omega)) (M1 := []) [] rfl ht, hNn_3, by rw [ht]; exact hkp_10⟩⟩, by rw [ht]; try exact hh_9.1.1, fun q h9 hq => by rw [ht]; try exact hh_9.1.2.1 q h9 hq⟩) hh_9.1.2.2 dX9_longer_15
