section
def EX2_initU : List (Nat × Nat) := []
set_option maxHeartbeats 4000000 in
set_option maxRecDepth 20000 in
theorem uX2_initU (l : Launch) (dC : Nat → ClassId) (dI : Nat → Nat → Nat) (ca : Nat → ClassId) (base : Nat) (B : jF) (hB : jBok B) (hAp : jAp (dC, dI)) (hB4 : ∀ n G a H, B 4 n G a H ↔ jOb (dC, dI) 4 12 (F4 n G) a H) (hB100 : ∀ n G a H, B 100 n G a H ↔ jAr (dC, dI) (ca 0) (fun j z => True) n a H) (G0 : jT) (H0 : Heap) (r0 : Nat) (LC LS : Nat) : Met l yX2_init (jw yX2_init cX2_init 1 none) ({ frames := 1, cells := LC - H0.size, slots := LS - jTot H0, locals := 31 }) (va_Pc [.ref r0] (fun U => U.heap = H0 ∧ jX B base G0 [] H0 ∧ jG dC dI ca base U ∧ va_at (dC, dI) vwCl (r0, .inr (4, [.null, .int 0, .int 0, .int 0, .int 0, .int 0, .int 0, .int 0, .int 0, .int 0, .int 0, .int 0])) H0 ∧ (∀ t, G0 r0 ≠ some t) ∧ base ≤ r0 ∧ jP (dC, dI) G0 H0 [] ∧ H0.size + 1 ≤ LC ∧ jTot H0 + 3000 ≤ LS ∧ True)) (va_Qv (S := Int32 × Int32 × Int32 × Int32 × Int32 × Int32 × Int32 × Int32 × Int32 × Nat × Nat × (Nat → Int32) × jT) (fun u => u.1.toInt = 0 ∧ u.2.1.toInt = 0 ∧ u.2.2.1.toInt = -1 ∧ u.2.2.2.1.toInt = 0 ∧ u.2.2.2.2.1.toInt = 0 ∧ u.2.2.2.2.2.1.toInt = 0 ∧ u.2.2.2.2.2.2.1.toInt = 0 ∧ u.2.2.2.2.2.2.2.1.toInt = 0 ∧ u.2.2.2.2.2.2.2.2.1.toInt = 0 ∧ u.2.2.2.2.2.2.2.2.2.2.1 = 3000 ∧ u.2.2.2.2.2.2.2.2.2.2.2.1 = (fun _ => 0)) (fun u t => jRa (dC, dI) B base G0 u.2.2.2.2.2.2.2.2.2.2.2.2 EX2_initU H0 (1) (3000) [(r0, 4, 4, .int u.1), (r0, 4, 5, .int u.2.1), (r0, 4, 6, .int u.2.2.1), (r0, 4, 2, .int u.2.2.2.1), (r0, 4, 8, .int u.2.2.2.2.1), (r0, 4, 9, .int u.2.2.2.2.2.1), (r0, 4, 10, .int u.2.2.2.2.2.2.1), (r0, 4, 11, .int u.2.2.2.2.2.2.2.1), (r0, 4, 7, .int u.2.2.2.2.2.2.2.2.1), (r0, 4, 0, .ref u.2.2.2.2.2.2.2.2.2.1)] t.heap ∧ u.2.2.2.2.2.2.2.2.2.2.2.2 u.2.2.2.2.2.2.2.2.2.1 = some (100, u.2.2.2.2.2.2.2.2.2.2.1) ∧ (jNk [0, 1, 2, 3, 5, 6, 7, 8, 9, 10, 11, 12, 13, 14, 15, 16, 17, 175]) G0 u.2.2.2.2.2.2.2.2.2.2.2.2 ∧ u.2.2.2.2.2.2.2.2.2.2.2.2 r0 = some (4, 0) ∧ jKx r0 G0 u.2.2.2.2.2.2.2.2.2.2.2.2 H0 t.heap ∧ jMc (dC, dI) u.2.2.2.2.2.2.2.2.2.2.2.2 t.heap [(u.2.2.2.2.2.2.2.2.2.1, 100, u.2.2.2.2.2.2.2.2.2.2.1, ca 0, u.2.2.2.2.2.2.2.2.2.2.2.1)]) (jA base)) (LC - H0.size) (LS - jTot H0) (jA base) := by
  refine Met.ofW (cc := cX2_init) (maxL := 1) (ret := none) (by decide) rfl ?_
  intro p e s m args below meth c s₁ Bd hml hv
  obtain ⟨rfl, hH0, hX, hG, hraw0, hnr0, hbr0, hP0, hLC0, hLS0, hp0⟩ := hv
  have hK := hG.1
  have hx := Bd.exec
  have hb := Bd.bytes
  have hr := Bd.returns
  have hts := atoms_spec (ws := (jw yX2_init cX2_init 1 none)) Bd.pre
  have htw : ∀ w ∈ jWl, w.before _ s = true := fun w h => hts w (List.mem_cons_of_mem _ h)
  have hown : s.vm.findClass RX2 = some m.cls := findClass_of_methodNamed Bd.named
  have hlocks := Bd.notSynchronized
  obtain ⟨Q, hQ⟩ : ∃ Q, Q = MQ below (va_Qv (S := Int32 × Int32 × Int32 × Int32 × Int32 × Int32 × Int32 × Int32 × Int32 × Nat × Nat × (Nat → Int32) × jT) (fun u => u.1.toInt = 0 ∧ u.2.1.toInt = 0 ∧ u.2.2.1.toInt = -1 ∧ u.2.2.2.1.toInt = 0 ∧ u.2.2.2.2.1.toInt = 0 ∧ u.2.2.2.2.2.1.toInt = 0 ∧ u.2.2.2.2.2.2.1.toInt = 0 ∧ u.2.2.2.2.2.2.2.1.toInt = 0 ∧ u.2.2.2.2.2.2.2.2.1.toInt = 0 ∧ u.2.2.2.2.2.2.2.2.2.2.1 = 3000 ∧ u.2.2.2.2.2.2.2.2.2.2.2.1 = (fun _ => 0)) (fun u t => jRa (dC, dI) B base G0 u.2.2.2.2.2.2.2.2.2.2.2.2 EX2_initU H0 (1) (3000) [(r0, 4, 4, .int u.1), (r0, 4, 5, .int u.2.1), (r0, 4, 6, .int u.2.2.1), (r0, 4, 2, .int u.2.2.2.1), (r0, 4, 8, .int u.2.2.2.2.1), (r0, 4, 9, .int u.2.2.2.2.2.1), (r0, 4, 10, .int u.2.2.2.2.2.2.1), (r0, 4, 11, .int u.2.2.2.2.2.2.2.1), (r0, 4, 7, .int u.2.2.2.2.2.2.2.2.1), (r0, 4, 0, .ref u.2.2.2.2.2.2.2.2.2.1)] t.heap ∧ u.2.2.2.2.2.2.2.2.2.2.2.2 u.2.2.2.2.2.2.2.2.2.1 = some (100, u.2.2.2.2.2.2.2.2.2.2.1) ∧ (jNk [0, 1, 2, 3, 5, 6, 7, 8, 9, 10, 11, 12, 13, 14, 15, 16, 17, 175]) G0 u.2.2.2.2.2.2.2.2.2.2.2.2 ∧ u.2.2.2.2.2.2.2.2.2.2.2.2 r0 = some (4, 0) ∧ jKx r0 G0 u.2.2.2.2.2.2.2.2.2.2.2.2 H0 t.heap ∧ jMc (dC, dI) u.2.2.2.2.2.2.2.2.2.2.2.2 t.heap [(u.2.2.2.2.2.2.2.2.2.1, 100, u.2.2.2.2.2.2.2.2.2.2.1, ca 0, u.2.2.2.2.2.2.2.2.2.2.2.1)]) (jA base)) ([.ref r0] : List Value).toArray s (LC - H0.size) (LS - jTot H0) (jA base) := ⟨_, rfl⟩
  rw [← hQ]
  have hl := lv_entry ([.ref r0]) (n := 1) (Nat.le_of_ble_eq_true rfl)
  rw [lg_entry_eq]
  generalize (lg_sl ([.ref r0]) ++ List.replicate (1 - (lg_sl ([.ref r0])).length) Slot.unset).toArray = ls at hl ⊢
  have hl : lv_has ls 1 [(0, .ref r0)] := hl
  generalize hR : (headSpec (jw yX2_init cX2_init 1 none) ({ frames := 1, cells := LC - H0.size, slots := LS - jTot H0, locals := 31 })).room = R
  subst hH0
  have hh : jSt (dC, dI) B base G0 G0 EX2_initU s.heap 0 0 [] [] [] s.heap [] := jSt.start hX hP0 jMc.nil jIs.nil
  clear hX hP0
  have hkm1 : ((-1) : Int32).toInt = (-1) := by decide
  have hk0 : (0 : Int32).toInt = 0 := by decide
  have hk1 : (1 : Int32).toInt = 1 := by decide
  have hk3000 : (3000 : Int32).toInt = 3000 := by decide
  have hly_4_0 := htw (u_lay RX2 TX2 0) (jWc_wsX20 _ (u_in_lay (by decide)))
  have hly_4_5 := htw (u_lay RX2 TX2 5) (jWc_wsX20 _ (u_in_lay (by decide)))
  have hly_4_6 := htw (u_lay RX2 TX2 6) (jWc_wsX20 _ (u_in_lay (by decide)))
  have hlk_9 := (htw (.fieldLink RX2 9 "ProofServer$Frames" "body" "[B") (jWr_3 _ (List.mem_of_getElem? (i := 14) rfl)))
  have hlk_15 := (htw (.fieldLink RX2 15 "ProofServer$Frames" "place" "I") (jWr_3 _ (List.mem_of_getElem? (i := 15) rfl)))
  have hlk_19 := (htw (.fieldLink RX2 19 "ProofServer$Frames" "told" "I") (jWr_3 _ (List.mem_of_getElem? (i := 16) rfl)))
  have hbs : base ≤ s.heap.size := Nat.le_of_lt (Nat.lt_of_le_of_lt hbr0 hraw0.lt)
  have hRc : R.cells = LC - s.heap.size := by rw [← hR]; rfl
  have hRs : R.slots = LS - jTot s.heap := by rw [← hR]; rfl
  have hin2 : meth.name = "<init>" := (name_of_methodNamed Bd.named Bd.method).1
  have hkp : jKx r0 G0 G0 s.heap s.heap := jKx.rf
  refine lv_aload_n hx hb dX2_init_0 rfl (lv_at hl 0 rfl) ?_
  refine W.objInit hx hb hown (htw (.methodLink RX2 3 objectInit) (jWr_3 _ (List.mem_of_getElem? (i := 13) rfl))) (htw (.instanceMethod objectInit) (jWr_1 _ (List.mem_of_getElem? (i := 10) rfl))) (htw (.code objectInit ⟨#[0xb1]⟩ 1 none) (jWr_1 _ (List.mem_of_getElem? (i := 11) rfl))) rfl (by rw [hml]; exact hl.1) rfl dX2_init_1 (by rw [← hR]; exact Nat.le_of_ble_eq_true rfl) (by rw [← hR]; exact Nat.le_of_ble_eq_true rfl) ?_
  refine W.eq (g2 := F0 m 4 ls []) rfl ?_
  refine lv_aload_n hx hb dX2_init_4 rfl (lv_at hl 0 rfl) ?_
  refine lv_sipush (v := 3000) hx hb dX2_init_5 (by decide) ?_
  have hsz_1 := hh.2.2.2.2.2.1
  have htt_1 := hh.2.2.2.2.2.2.1
  refine j7_newiZ hx hb hK hh hB (atype := .byte) (ty := .byte) (htw (.arrayClass .byte) (jWr_3 _ (List.mem_of_getElem? (i := 9) rfl))) rfl rfl (fun _ h => h) hB100 0 rfl (by decide) (by decide) hbs (x := 3000) (by decide) (by omega) (fun j => by first | trivial | decide | rfl | exact Or.inl rfl | exact Or.inr (Or.inl (by decide)) | (refine ⟨?_, ?_⟩ <;> decide)) (by rw [hRc]; omega) (by rw [hRs]; omega) dX2_init_8 (fun H_1 hfr_1 haz_1 hh_1 => ?_)
  have hh_1 : jSt (dC, dI) B base G0 (va_up G0 s.heap.size (some (100, 3000))) EX2_initU s.heap (0 + 1) (0 + 3000) [] [] [] H_1 [] := hh_1
  have hN_1 : (jNk [0, 1, 2, 3, 5, 6, 7, 8, 9, 10, 11, 12, 13, 14, 15, 16, 17, 175]) G0 (va_up G0 s.heap.size (some (100, 3000))) := jNk.new (by decide)
  have hgn_1 : (va_up G0 s.heap.size (some (100, 3000))) s.heap.size = some (100, 3000) := jUp_self
  have hle_1 : jLe G0 (va_up G0 s.heap.size (some (100, 3000))) := jLe.new hh.2.1.fresh
  have hke_1 : jKe G0 (va_up G0 s.heap.size (some (100, 3000))) s.heap H_1 := jKe.new hfr_1
  have hsy_1 : s.heap.size ≤ s.heap.size := hh.1.1
  generalize (va_up G0 s.heap.size (some (100, 3000))) = G_1 at hN_1 hgn_1 hle_1 hke_1 hh_1
  clear hh
  have hNn_1 : (jNk [0, 1, 2, 3, 5, 6, 7, 8, 9, 10, 11, 12, 13, 14, 15, 16, 17, 175]) G0 G_1 := (jNk.rf).tr hN_1
  have hkp_2 := hkp.tr hke_1
  have hraw_3n := hke_1.nr hraw0.lt hnr0
  have hraw_3 := hraw0.kept (hke_1.1 _ hraw0.lt)
  have hh_4 := hh_1.moreM (M1 := [(s.heap.size, 100, 3000, ca 0, fun _ => 0)]) (fun q hq => by cases List.mem_singleton.mp hq; exact ⟨hgn_1, (by show 18 ≤ 100; decide), (by show 100 < 1000; decide), haz_1⟩)
  clear hh_1
  refine j7_putRF hx hb hown hK hh_4 hB hAp hraw_3 hraw_3n hbr0 (C := RX2) (T := TX2) (N := 12) rfl (i := 0) (by decide) (Nat.le_of_ble_eq_true rfl) hly_4_0 rfl hin2 rfl hlk_9 (ty := (.array .byte)) (v := .ref s.heap.size) (by decide +kernel) rfl rfl dX2_init_10 (fun H_5 locs_5 hraw_5 hr_5 hh_5 => ?_)
  have hraw_5 : va_at (dC, dI) vwCl (r0, .inr (4, [.ref s.heap.size, .int 0, .int 0, .int 0, .int 0, .int 0, .int 0, .int 0, .int 0, .int 0, .int 0, .int 0])) H_5 := hraw_5
  have hkp_6 := hkp_2.put hr_5
  clear hh_4
  refine lv_aload_n hx hb dX2_init_13 rfl (lv_at hl 0 rfl) ?_
  refine lv_iconst (v := 0) hx hb dX2_init_14 (by decide) ?_
  refine j7_putR hx hb hown hK hh_5 hB hAp hraw_5 hraw_3n hbr0 (C := RX2) (T := TX2) (N := 12) rfl (i := 5) (by decide) (Nat.le_of_ble_eq_true rfl) hly_4_5 rfl hlk_15 (ty := .int) (v := .int 0) (by decide +kernel) rfl rfl dX2_init_15 (fun H_7 locs_7 hraw_7 hr_7 hh_7 => ?_)
  have hraw_7 : va_at (dC, dI) vwCl (r0, .inr (4, [.ref s.heap.size, .int 0, .int 0, .int 0, .int 0, .int 0, .int 0, .int 0, .int 0, .int 0, .int 0, .int 0])) H_7 := hraw_7
  have hkp_8 := hkp_6.put hr_7
  clear hh_5
  refine lv_aload_n hx hb dX2_init_18 rfl (lv_at hl 0 rfl) ?_
  refine lv_iconst (v := (-1)) hx hb dX2_init_19 (by decide) ?_
  refine j7_putR hx hb hown hK hh_7 hB hAp hraw_7 hraw_3n hbr0 (C := RX2) (T := TX2) (N := 12) rfl (i := 6) (by decide) (Nat.le_of_ble_eq_true rfl) hly_4_6 rfl hlk_19 (ty := .int) (v := .int (-1)) (by decide +kernel) rfl rfl dX2_init_20 (fun H_9 locs_9 hraw_9 hr_9 hh_9 => ?_)
  have hraw_9 : va_at (dC, dI) vwCl (r0, .inr (4, [.ref s.heap.size, .int 0, .int 0, .int 0, .int 0, .int 0, .int (-1), .int 0, .int 0, .int 0, .int 0, .int 0])) H_9 := hraw_9
  have hkp_10 := hkp_8.put hr_9
  clear hh_7
  have hsz_11 := hh_9.2.2.2.2.2.1
  have htt_11 := hh_9.2.2.2.2.2.2.1
  refine W.room (fun hrc_11 hrs_11 => ?_)
  refine W.widen (k := LC - s.heap.size) (n := LS - jTot s.heap) (by omega) (by omega) ?_
  rw [hQ]
  have hle_12 : jLe G_1 (va_up G_1 r0 (some (4, 0))) := jLe.typ hraw_3n
  have hg_13 := (jLe.rf).tr hle_12 _ _ hgn_1
  have hfa_12 : jRf (va_up G_1 r0 (some (4, 0))) 100 3000 (.ref s.heap.size) ∧ jI (-1) 3000 (.int 0) ∧ jIa (.int 0) ∧ jIa (.int 0) ∧ jZb (.int 0) ∧ jIa (.int 0) ∧ jI (-1) 3000 (.int (-1)) ∧ jI 0 3001 (.int 0) ∧ jIa (.int 0) ∧ jZb (.int 0) ∧ jIa (.int 0) ∧ jI 0 40000 (.int 0) ∧ True := ⟨⟨_, rfl, hg_13⟩, ⟨_, rfl, by omega, by omega⟩, ⟨_, rfl⟩, ⟨_, rfl⟩, ⟨_, rfl, Or.inl rfl⟩, ⟨_, rfl⟩, ⟨_, rfl, by omega, by omega⟩, ⟨_, rfl, by omega, by omega⟩, ⟨_, rfl⟩, ⟨_, rfl, Or.inl rfl⟩, ⟨_, rfl⟩, ⟨_, rfl, by omega, by omega⟩, trivial⟩
  have hh_12 := hh_9.typ (k := 4) (n := 0) hB hraw_3n hbr0 hraw_9.lt (jOb.of (C := RX2) (T := TX2) (N := 12) (F := F4) hB4 rfl hraw_9 (show jFx (F4 0 (va_up G_1 r0 (some (4, 0)))) [.ref s.heap.size, .int 0, .int 0, .int 0, .int 0, .int 0, .int (-1), .int 0, .int 0, .int 0, .int 0, .int 0] from hfa_12))
  have hgn_12 : (va_up G_1 r0 (some (4, 0))) r0 = some (4, 0) := jUp_self
  have hN_12 : (jNk [0, 1, 2, 3, 5, 6, 7, 8, 9, 10, 11, 12, 13, 14, 15, 16, 17, 175]) G_1 (va_up G_1 r0 (some (4, 0))) := jNk.new (by decide)
  have hNn_12 : (jNk [0, 1, 2, 3, 5, 6, 7, 8, 9, 10, 11, 12, 13, 14, 15, 16, 17, 175]) G0 (va_up G_1 r0 (some (4, 0))) := (hNn_1).tr hN_12
  have hkp_14 := hkp_10.typ (t := some (4, 0))
  have hg_15 := (hle_12) _ _ hgn_1
  have hh_16 := hh_12.more (P1 := [(r0, 4, 4, .int 0), (r0, 4, 5, .int 0), (r0, 4, 6, .int (-1)), (r0, 4, 2, .int 0), (r0, 4, 8, .int 0), (r0, 4, 9, .int 0), (r0, 4, 10, .int 0), (r0, 4, 11, .int 0), (r0, 4, 7, .int 0), (r0, 4, 0, .ref s.heap.size)]) (jP.cons hgn_12 (jf.raw (C := RX2) (T := TX2) (N := 12) rfl hraw_9 (i := 4) (by decide)) (jP.cons hgn_12 (jf.raw (C := RX2) (T := TX2) (N := 12) rfl hraw_9 (i := 5) (by decide)) (jP.cons hgn_12 (jf.raw (C := RX2) (T := TX2) (N := 12) rfl hraw_9 (i := 6) (by decide)) (jP.cons hgn_12 (jf.raw (C := RX2) (T := TX2) (N := 12) rfl hraw_9 (i := 2) (by decide)) (jP.cons hgn_12 (jf.raw (C := RX2) (T := TX2) (N := 12) rfl hraw_9 (i := 8) (by decide)) (jP.cons hgn_12 (jf.raw (C := RX2) (T := TX2) (N := 12) rfl hraw_9 (i := 9) (by decide)) (jP.cons hgn_12 (jf.raw (C := RX2) (T := TX2) (N := 12) rfl hraw_9 (i := 10) (by decide)) (jP.cons hgn_12 (jf.raw (C := RX2) (T := TX2) (N := 12) rfl hraw_9 (i := 11) (by decide)) (jP.cons hgn_12 (jf.raw (C := RX2) (T := TX2) (N := 12) rfl hraw_9 (i := 7) (by decide)) (jP.cons hgn_12 (jf.raw (C := RX2) (T := TX2) (N := 12) rfl hraw_9 (i := 0) (by decide)) jP.nil))))))))))
  exact W.vret hx hb hr (fun t ht hW => ⟨⟨(0, 0, (-1), 0, 0, 0, 0, 0, 0, s.heap.size, 3000, (fun _ => 0), (va_up G_1 r0 (some (4, 0)))), rfl, by (try dsimp only); exact ⟨(by first | omega | rfl | assumption | fail), (by first | omega | rfl | assumption | fail), (by first | omega | rfl | assumption | fail), (by first | omega | rfl | assumption | fail), (by first | omega | rfl | assumption | fail), (by first | omega | rfl | assumption | fail), (by first | omega | rfl | assumption | fail), (by first | omega | rfl | assumption | fail), (by first | omega | rfl | assumption | fail), (by first | omega | rfl | assumption | fail), (by first | omega | rfl | assumption | fail)⟩, ⟨hh_16.ra (by first | (simp only; omega) | omega) (by first | (simp only; omega) | omega) (M1 := [(r0, 4, 4, .int 0), (r0, 4, 5, .int 0), (r0, 4, 6, .int (-1)), (r0, 4, 2, .int 0), (r0, 4, 8, .int 0), (r0, 4, 9, .int 0), (r0, 4, 10, .int 0), (r0, 4, 11, .int 0), (r0, 4, 7, .int 0), (r0, 4, 0, .ref s.heap.size)]) [0, 1, 2, 3, 4, 5, 6, 7, 8, 9] rfl ht, hg_15, hNn_12, hgn_12, by rw [ht]; exact hkp_14, by rw [ht]; exact hh_16.2.2.2.2.2.2.2.1.sub [0] rfl⟩⟩, by rw [ht]; try exact hh_16.1.1, fun q h9 hq => by rw [ht]; try exact hh_16.1.2.1 q h9 hq⟩) hh_16.1.2.2 dX2_init_23
end
section
theorem dX11_init_0 : decode cX11_init 0 = .ok (.aload_n 0, 1) := by decide +kernel
theorem dX11_init_1 : decode cX11_init 1 = .ok (.invokespecial 1, 3) := by decide +kernel
theorem dX11_init_4 : decode cX11_init 4 = .ok (.aload_n 0, 1) := by decide +kernel
theorem dX11_init_5 : decode cX11_init 5 = .ok (.new 7, 3) := by decide +kernel
theorem dX11_init_8 : decode cX11_init 8 = .ok (.dup, 1) := by decide +kernel
theorem dX11_init_9 : decode cX11_init 9 = .ok (.sipush 4000, 3) := by decide +kernel
theorem dX11_init_12 : decode cX11_init 12 = .ok (.invokespecial 11, 3) := by decide +kernel
theorem dX11_init_15 : decode cX11_init 15 = .ok (.putfield 14, 3) := by decide +kernel
theorem dX11_init_18 : decode cX11_init 18 = .ok (.aload_n 0, 1) := by decide +kernel
theorem dX11_init_19 : decode cX11_init 19 = .ok (.new 18, 3) := by decide +kernel
theorem dX11_init_22 : decode cX11_init 22 = .ok (.dup, 1) := by decide +kernel
theorem dX11_init_23 : decode cX11_init 23 = .ok (.invokespecial 20, 3) := by decide +kernel
theorem dX11_init_26 : decode cX11_init 26 = .ok (.putfield 21, 3) := by decide +kernel
theorem dX11_init_29 : decode cX11_init 29 = .ok (.aload_n 0, 1) := by decide +kernel
theorem dX11_init_30 : decode cX11_init 30 = .ok (.new 25, 3) := by decide +kernel
theorem dX11_init_33 : decode cX11_init 33 = .ok (.dup, 1) := by decide +kernel
theorem dX11_init_34 : decode cX11_init 34 = .ok (.invokespecial 27, 3) := by decide +kernel
theorem dX11_init_37 : decode cX11_init 37 = .ok (.putfield 28, 3) := by decide +kernel
theorem dX11_init_40 : decode cX11_init 40 = .ok (.aload_n 0, 1) := by decide +kernel
theorem dX11_init_41 : decode cX11_init 41 = .ok (.new 7, 3) := by decide +kernel
theorem dX11_init_44 : decode cX11_init 44 = .ok (.dup, 1) := by decide +kernel
theorem dX11_init_45 : decode cX11_init 45 = .ok (.sipush 20000, 3) := by decide +kernel
theorem dX11_init_48 : decode cX11_init 48 = .ok (.invokespecial 11, 3) := by decide +kernel
theorem dX11_init_51 : decode cX11_init 51 = .ok (.putfield 32, 3) := by decide +kernel
theorem dX11_init_54 : decode cX11_init 54 = .ok (.aload_n 0, 1) := by decide +kernel
theorem dX11_init_55 : decode cX11_init 55 = .ok (.new 7, 3) := by decide +kernel
theorem dX11_init_58 : decode cX11_init 58 = .ok (.dup, 1) := by decide +kernel
theorem dX11_init_59 : decode cX11_init 59 = .ok (.sipush 1024, 3) := by decide +kernel
theorem dX11_init_62 : decode cX11_init 62 = .ok (.invokespecial 11, 3) := by decide +kernel
theorem dX11_init_65 : decode cX11_init 65 = .ok (.putfield 35, 3) := by decide +kernel
theorem dX11_init_68 : decode cX11_init 68 = .ok (.aload_n 0, 1) := by decide +kernel
theorem dX11_init_69 : decode cX11_init 69 = .ok (.new 38, 3) := by decide +kernel
theorem dX11_init_72 : decode cX11_init 72 = .ok (.dup, 1) := by decide +kernel
theorem dX11_init_73 : decode cX11_init 73 = .ok (.invokespecial 40, 3) := by decide +kernel
theorem dX11_init_76 : decode cX11_init 76 = .ok (.putfield 41, 3) := by decide +kernel
theorem dX11_init_79 : decode cX11_init 79 = .ok (.aload_n 0, 1) := by decide +kernel
theorem dX11_init_80 : decode cX11_init 80 = .ok (.new 45, 3) := by decide +kernel
theorem dX11_init_83 : decode cX11_init 83 = .ok (.dup, 1) := by decide +kernel
theorem dX11_init_84 : decode cX11_init 84 = .ok (.aload_n 0, 1) := by decide +kernel
theorem dX11_init_85 : decode cX11_init 85 = .ok (.getfield 41, 3) := by decide +kernel
theorem dX11_init_88 : decode cX11_init 88 = .ok (.getfield 47, 3) := by decide +kernel
theorem dX11_init_91 : decode cX11_init 91 = .ok (.invokespecial 51, 3) := by decide +kernel
theorem dX11_init_94 : decode cX11_init 94 = .ok (.putfield 54, 3) := by decide +kernel
theorem dX11_init_97 : decode cX11_init 97 = .ok (.aload_n 0, 1) := by decide +kernel
theorem dX11_init_98 : decode cX11_init 98 = .ok (.new 58, 3) := by decide +kernel
theorem dX11_init_101 : decode cX11_init 101 = .ok (.dup, 1) := by decide +kernel
theorem dX11_init_102 : decode cX11_init 102 = .ok (.invokespecial 60, 3) := by decide +kernel
theorem dX11_init_105 : decode cX11_init 105 = .ok (.putfield 61, 3) := by decide +kernel
theorem dX11_init_108 : decode cX11_init 108 = .ok (.aload_n 0, 1) := by decide +kernel
theorem dX11_init_109 : decode cX11_init 109 = .ok (.new 58, 3) := by decide +kernel
theorem dX11_init_112 : decode cX11_init 112 = .ok (.dup, 1) := by decide +kernel
theorem dX11_init_113 : decode cX11_init 113 = .ok (.invokespecial 60, 3) := by decide +kernel
theorem dX11_init_116 : decode cX11_init 116 = .ok (.putfield 65, 3) := by decide +kernel
theorem dX11_init_119 : decode cX11_init 119 = .ok (.aload_n 0, 1) := by decide +kernel
theorem dX11_init_120 : decode cX11_init 120 = .ok (.new 58, 3) := by decide +kernel
theorem dX11_init_123 : decode cX11_init 123 = .ok (.dup, 1) := by decide +kernel
theorem dX11_init_124 : decode cX11_init 124 = .ok (.invokespecial 60, 3) := by decide +kernel
theorem dX11_init_127 : decode cX11_init 127 = .ok (.putfield 68, 3) := by decide +kernel
theorem dX11_init_130 : decode cX11_init 130 = .ok (.aload_n 0, 1) := by decide +kernel
theorem dX11_init_131 : decode cX11_init 131 = .ok (.iconst 2, 1) := by decide +kernel
theorem dX11_init_132 : decode cX11_init 132 = .ok (.anewarray 71, 3) := by decide +kernel
theorem dX11_init_135 : decode cX11_init 135 = .ok (.putfield 73, 3) := by decide +kernel
theorem dX11_init_138 : decode cX11_init 138 = .ok (.aload_n 0, 1) := by decide +kernel
theorem dX11_init_139 : decode cX11_init 139 = .ok (.iconst 0, 1) := by decide +kernel
theorem dX11_init_140 : decode cX11_init 140 = .ok (.putfield 77, 3) := by decide +kernel
theorem dX11_init_143 : decode cX11_init 143 = .ok (.aload_n 0, 1) := by decide +kernel
theorem dX11_init_144 : decode cX11_init 144 = .ok (.new 71, 3) := by decide +kernel
theorem dX11_init_147 : decode cX11_init 147 = .ok (.dup, 1) := by decide +kernel
theorem dX11_init_148 : decode cX11_init 148 = .ok (.invokespecial 81, 3) := by decide +kernel
theorem dX11_init_151 : decode cX11_init 151 = .ok (.putfield 82, 3) := by decide +kernel
theorem dX11_init_154 : decode cX11_init 154 = .ok (.aload_n 0, 1) := by decide +kernel
theorem dX11_init_155 : decode cX11_init 155 = .ok (.new 7, 3) := by decide +kernel
theorem dX11_init_158 : decode cX11_init 158 = .ok (.dup, 1) := by decide +kernel
theorem dX11_init_159 : decode cX11_init 159 = .ok (.sipush 256, 3) := by decide +kernel
theorem dX11_init_162 : decode cX11_init 162 = .ok (.invokespecial 11, 3) := by decide +kernel
theorem dX11_init_165 : decode cX11_init 165 = .ok (.putfield 86, 3) := by decide +kernel
theorem dX11_init_168 : decode cX11_init 168 = .ok (.aload_n 0, 1) := by decide +kernel
theorem dX11_init_169 : decode cX11_init 169 = .ok (.bipush (-2), 2) := by decide +kernel
theorem dX11_init_171 : decode cX11_init 171 = .ok (.putfield 89, 3) := by decide +kernel
theorem dX11_init_174 : decode cX11_init 174 = .ok (.return_, 1) := by decide +kernel
end
section
-- p8: the class at its start
theorem jcZ.z0 {G : jT} {s0 : Nat} {t : jDtl} {q : jKg} {w : jWl9} {ho : Nat → Option Nat} {us rw : Nat → List Int} {qq : jRqG} {ib : Nat → List Int} (hI : jdIv t w) (h1 : w.1 = 0) (h2 : w.2.2.1 = []) (h3 : w.2.2.2 = []) (hh : ∀ i : Nat, i < 2 → ho i = none) (hs : G s0 = some (11, 0)) (hr : rw s0 = []) : jcZ G s0 t q w ho us rw qq ib (0, fun _ => jdDz) jwZ0 := by
  refine ⟨hI, ?_, fun d a hd _ => absurd hd (by omega), fun i hi => Or.inl ⟨hh i hi, rfl⟩, fun d a hd _ => absurd hd (by omega), fun _ => hh 0 (by omega), ⟨by rw [h2]; rfl, fun j x p hx _ => (by rw [h2] at hx; cases hx)⟩, by rw [h3]; rfl, by omega, hs, hr, fun x hx => (by rw [h3] at hx; cases hx), fun d a hd _ => absurd hd (by omega)⟩
  unfold jdCs
  exact Prod.ext h1 (funext (fun i => jdLi.out (by omega)))
theorem jdIv.cg0 {t : jDtl} {w w1 : jWl9} (h : jdIv t w) (e1 : w1.1 = w.1) (e2 : w1.2.1 = w.2.1) : jdIv t w1 := by
  unfold jdIv at h ⊢
  rw [e1, e2]
  exact h
theorem jCZ.z0 {dC : Nat → ClassId} {dI : Nat → Nat → Nat} {ca : Nat → ClassId} {G : jT} {H : Heap} {r n s0 y kr : Nat} {t : jDtl} {q : jKg} {w : jWl9} {ho : Nat → Option Nat} {us rw : Nat → List Int} {qq : jRqG} {ib : Nat → List Int} (hg : G r = some (13, n)) (hU : jCD dC dI ca G none t H) (hK : jKD dC dI ca G none q H) (hL : jLs dC dI ca G 3 none w H) (p10 : jf (dC, dI) 13 r 10 (.ref y) H) (gy : G y = some (212, 2)) (hq : jQc dC dI (ca 5) y 2 ho H) (hN : jUN dC dI ca G 0 us rw H) (hR : jQD dC dI ca G none qq H) (hJ : jIB dC dI ca G 0 ib H) (p5 : jf (dC, dI) 13 r 5 (.ref kr) H) (gk : G kr = some (7, 0)) (p2 : jf (dC, dI) 7 kr 2 (.ref s0) H) (hI : jdIv t w) (h1 : w.1 = 0) (h2 : w.2.2.1 = []) (h3 : w.2.2.2 = []) (hh : ∀ i : Nat, i < 2 → ho i = none) (hs : G s0 = some (11, 0)) (hr : rw s0 = []) : jCZ dC dI ca G r (0, fun _ => jdDz) jwZ0 H :=
  ⟨s0, t, q, w, ho, us, rw, qq, ib, hU, hK, hL, ⟨y, ⟨n, hg⟩, gy, jP.cons hg p10 jP.nil, jMc.nil, hq, trivial⟩, hN, hR, hJ, ⟨kr, n, hg, gk, p5, p2⟩, jcZ.z0 hI h1 h2 h3 hh hs hr⟩
end
