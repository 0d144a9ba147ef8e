section
-- p9: the open documents of the class: what holds of them, how they change
theorem jDnw.cs {t t1 : jDtl} {w : jWl9} {a : Nat} (h : jDnw t t1 a) (hn : ∀ i : Nat, (i : Int) < w.1 → w.2 i ≠ some a) : jdCs t1 w = jdCs t w := by
  obtain ⟨f, g, rfl⟩ := h
  exact jdCs.put hn
/-- what stands in the list is a document -/
theorem jLs.el {dC : Nat → ClassId} {dI : Nat → Nat → Nat} {ca : Nat → ClassId} {B : jF} {base : Nat} {G : jT} {k a : Nat} {w : jWl9} {H : Heap} {L : List Nat} (h : jLs dC dI ca G k none w H) (ha : G a = some (1, 1)) (hX : jX B base G L H) (hL : L = []) (hb : ∀ n G a H, B 221 n G a H ↔ jAq (dC, dI) (ca 9) (jQn 3 0) n G a H) : ∀ (i b : Nat), (i : Int) < w.1 → w.2 i = some b → G b = some (3, 0) := fun i b hi hb1 => by
  subst hL
  obtain ⟨z, x, -, -, h3, h4⟩ := h.at ha
  rcases h4 with ⟨-, -, g3⟩ | ⟨m, f, g1, -, g3, g4, -, g6⟩
  · have := g3 rfl
    omega
  · obtain ⟨e1, e2⟩ := g6 rfl
    obtain ⟨f1, q1, q2⟩ := (hb _ _ _ _).mp (hX.1 _ _ _ g1 (by decide) (fun q => by cases q))
    have hz : (i : Int) < z.toInt := by omega
    have e3 : f i = f1 i := jQc_eq g4 q1 (by omega)
    have e4 : f1 i = some b := by rw [← e3, e2 i hz, hb1]
    rcases q2 i (by omega) with e | ⟨y, e, hy⟩
    · rw [e4] at e; cases e
    · rw [e4] at e; cases e; exact hy
end
section
def EX1_initU : List (Nat × Nat) := []
set_option maxHeartbeats 4000000 in
set_option maxRecDepth 20000 in
theorem uX1_initU (l : Launch) (dC : Nat → ClassId) (dI : Nat → Nat → Nat) (ca : Nat → ClassId) (base : Nat) (B : jF) (hB : jBok B) (hAp : jAp (dC, dI)) (hB3 : ∀ n G a H, B 3 n G a H ↔ jOb (dC, dI) 3 17 (F3 n G) a H) (hB11 : ∀ n G a H, B 11 n G a H ↔ jOb (dC, dI) 11 9 (F11 n G) a H) (hB101 : ∀ n G a H, B 101 n G a H ↔ jAr (dC, dI) (ca 1) (fun j z => True) n a H) (hB171 : ∀ n G a H, B 171 n G a H ↔ jAr (dC, dI) (ca 1) (fun j z => 0 ≤ z.toInt ∧ z.toInt ≤ 1500) n a H) (hB172 : ∀ n G a H, B 172 n G a H ↔ jAr (dC, dI) (ca 1) (fun j z => 0 ≤ z.toInt ∧ z.toInt ≤ 1500) n a H) (hB173 : ∀ n G a H, B 173 n G a H ↔ jAr (dC, dI) (ca 1) (fun j z => True) n a H) (hB174 : ∀ n G a H, B 174 n G a H ↔ jAr (dC, dI) (ca 1) (fun j z => True) n a H) (hB210 : ∀ n G a H, B 210 n G a H ↔ jAq (dC, dI) (ca 6) (jQn 11 0) n G a H) (G0 : jT) (H0 : Heap) (r0 : Nat) (kn : Nat) (ph : Nat) (tq : jDtl) (LC LS : Nat) : Met l yX1_init (jw yX1_init cX1_init 1 none) ({ frames := 1, cells := LC - H0.size, slots := LS - jTot H0, locals := 31 }) (va_Pc [.ref r0] (fun U => U.heap = H0 ∧ jX B base G0 [] H0 ∧ jG dC dI ca base U ∧ jK2 dC dI ca U ∧ jK6 U ∧ va_at (dC, dI) vwCl (r0, .inr (3, [.null, .int 0, .null, .int 0, .int 0, .null, .null, .null, .null, .null, .int 0, .null, .null, .int 0, .int 0, .int 0, .int 0])) H0 ∧ (∀ t, G0 r0 ≠ some t) ∧ base ≤ r0 ∧ jP (dC, dI) G0 H0 [] ∧ jIs (dC, dI) G0 H0 [(jFdo, jDcc dC dI ca G0 none ph), (jFcd, jCD dC dI ca G0 none tq)] ∧ H0.size + 7 ≤ LC ∧ jTot H0 + 1700 ≤ LS ∧ True)) (va_Qv (S := Int32 × Int32 × Int32 × jDtl × jT) (fun u => u.1.toInt = 0 ∧ u.2.1.toInt = 0 ∧ u.2.2.1.toInt = 0 ∧ jDnw tq u.2.2.2.1 r0) (fun u t => jRa (dC, dI) B base G0 u.2.2.2.2 EX1_initU H0 (7) (1700) [(r0, 3, 10, .int u.1), (r0, 3, 4, .int u.2.1), (r0, 3, 3, .int u.2.2.1)] t.heap ∧ (jNk [0, 1, 2, 4, 5, 6, 7, 8, 9, 10, 11, 12, 13, 14, 15, 16]) G0 u.2.2.2.2 ∧ u.2.2.2.2 r0 = some (3, kn) ∧ jKx r0 G0 u.2.2.2.2 H0 t.heap ∧ jIs (dC, dI) u.2.2.2.2 t.heap [(jFdo, jDcc dC dI ca u.2.2.2.2 none (ph + 1500)), (jFcd, jCD dC dI ca u.2.2.2.2 none (u.2.2.2.1))]) (jA base)) (LC - H0.size) (LS - jTot H0) (jA base) := by
  refine Met.ofW (cc := cX1_init) (maxL := 1) (ret := none) (by decide) rfl ?_
  intro p e s m args below meth c s₁ Bd hml hv
  obtain ⟨rfl, hH0, hX, hG, hK2, hK6, hraw0, hnr0, hbr0, hP0, hI0, hLC0, hLS0, hp0⟩ := hv
  have hK := hG.1
  have hx := Bd.exec
  have hb := Bd.bytes
  have hr := Bd.returns
  have hts := atoms_spec (ws := (jw yX1_init cX1_init 1 none)) Bd.pre
  have htw : ∀ w ∈ jWl, w.before _ s = true := fun w h => hts w (List.mem_cons_of_mem _ h)
  have hown : s.vm.findClass RX1 = some m.cls := findClass_of_methodNamed Bd.named
  have hlocks := Bd.notSynchronized
  obtain ⟨Q, hQ⟩ : ∃ Q, Q = MQ below (va_Qv (S := Int32 × Int32 × Int32 × jDtl × jT) (fun u => u.1.toInt = 0 ∧ u.2.1.toInt = 0 ∧ u.2.2.1.toInt = 0 ∧ jDnw tq u.2.2.2.1 r0) (fun u t => jRa (dC, dI) B base G0 u.2.2.2.2 EX1_initU H0 (7) (1700) [(r0, 3, 10, .int u.1), (r0, 3, 4, .int u.2.1), (r0, 3, 3, .int u.2.2.1)] t.heap ∧ (jNk [0, 1, 2, 4, 5, 6, 7, 8, 9, 10, 11, 12, 13, 14, 15, 16]) G0 u.2.2.2.2 ∧ u.2.2.2.2 r0 = some (3, kn) ∧ jKx r0 G0 u.2.2.2.2 H0 t.heap ∧ jIs (dC, dI) u.2.2.2.2 t.heap [(jFdo, jDcc dC dI ca u.2.2.2.2 none (ph + 1500)), (jFcd, jCD dC dI ca u.2.2.2.2 none (u.2.2.2.1))]) (jA base)) ([.ref r0] : List Value).toArray s (LC - H0.size) (LS - jTot H0) (jA base) := ⟨_, rfl⟩
  rw [← hQ]
  have hl := lv_entry ([.ref r0]) (n := 1) (Nat.le_of_ble_eq_true rfl)
  rw [lg_entry_eq]
  generalize (lg_sl ([.ref r0]) ++ List.replicate (1 - (lg_sl ([.ref r0])).length) Slot.unset).toArray = ls at hl ⊢
  have hl : lv_has ls 1 [(0, .ref r0)] := hl
  generalize hR : (headSpec (jw yX1_init cX1_init 1 none) ({ frames := 1, cells := LC - H0.size, slots := LS - jTot H0, locals := 31 })).room = R
  subst hH0
  have hh : jSt (dC, dI) B base G0 G0 EX1_initU s.heap 0 0 [] [] [(jFdo, jDcc dC dI ca G0 none ph), (jFcd, jCD dC dI ca G0 none tq)] s.heap [] := jSt.start hX hP0 jMc.nil hI0
  clear hX hP0
  have hk0 : (0 : Int32).toInt = 0 := by decide
  have hk1 : (1 : Int32).toInt = 1 := by decide
  have hk40 : (40 : Int32).toInt = 40 := by decide
  have hk1500 : (1500 : Int32).toInt = 1500 := by decide
  have hly_3_0 := htw (u_lay RX1 TX1 0) (jWc_wsX10 _ (u_in_lay (by decide)))
  have hly_3_2 := htw (u_lay RX1 TX1 2) (jWc_wsX10 _ (u_in_lay (by decide)))
  have hly_3_5 := htw (u_lay RX1 TX1 5) (jWc_wsX10 _ (u_in_lay (by decide)))
  have hly_3_6 := htw (u_lay RX1 TX1 6) (jWc_wsX10 _ (u_in_lay (by decide)))
  have hly_3_7 := htw (u_lay RX1 TX1 7) (jWc_wsX10 _ (u_in_lay (by decide)))
  have hly_3_8 := htw (u_lay RX1 TX1 8) (jWc_wsX10 _ (u_in_lay (by decide)))
  have hly_3_9 := htw (u_lay RX1 TX1 9) (jWc_wsX10 _ (u_in_lay (by decide)))
  have hlk_9 := (htw (.fieldLink RX1 9 "ProofServer$Document" "uri" "[I") (jWr_10 _ (List.mem_of_getElem? (i := 5) rfl)))
  have hlk_15 := (htw (.fieldLink RX1 15 "ProofServer$Document" "text" "[I") (jWr_10 _ (List.mem_of_getElem? (i := 6) rfl)))
  have hlk_18 := (htw (.fieldLink RX1 18 "ProofServer$Document" "starts" "[I") (jWr_10 _ (List.mem_of_getElem? (i := 7) rfl)))
  have hlk_21 := (htw (.fieldLink RX1 21 "ProofServer$Document" "ends" "[I") (jWr_10 _ (List.mem_of_getElem? (i := 8) rfl)))
  have hlk_24 := (htw (.fieldLink RX1 24 "ProofServer$Document" "costs" "[I") (jWr_10 _ (List.mem_of_getElem? (i := 9) rfl)))
  have hlk_27 := (htw (.fieldLink RX1 27 "ProofServer$Document" "early" "[I") (jWr_10 _ (List.mem_of_getElem? (i := 10) rfl)))
  have hlk_32 := (htw (.fieldLink RX1 32 "ProofServer$Document" "behind" "[LProofServer$State;") (jWr_10 _ (List.mem_of_getElem? (i := 12) rfl)))
  have hbs : base ≤ s.heap.size := Nat.le_of_lt (Nat.lt_of_le_of_lt hbr0 hraw0.lt)
  have hRc : R.cells = LC - s.heap.size := by rw [← hR]; rfl
  have hRs : R.slots = LS - jTot s.heap := by rw [← hR]; rfl
  have hU0 := hh.iv 1 rfl
  have hE0 := hh.iv 0 rfl
  have hab0 : ∀ {a : Nat} {t : Nat × Nat}, G0 a = some t → a < s.heap.size := fun ht => (hh.ab ht).2
  have hin2 : meth.name = "<init>" := (name_of_methodNamed Bd.named Bd.method).1
  have hkp : jKx r0 G0 G0 s.heap s.heap := jKx.rf
  refine lv_aload_n hx hb dX1_init_0 rfl (lv_at hl 0 rfl) ?_
  refine W.objInit hx hb hown (htw (.methodLink RX1 3 objectInit) (jWr_10 _ (List.mem_of_getElem? (i := 4) rfl))) (htw (.instanceMethod objectInit) (jWr_1 _ (List.mem_of_getElem? (i := 10) rfl))) (htw (.code objectInit ⟨#[0xb1]⟩ 1 none) (jWr_1 _ (List.mem_of_getElem? (i := 11) rfl))) rfl (by rw [hml]; exact hl.1) rfl dX1_init_1 (by rw [← hR]; exact Nat.le_of_ble_eq_true rfl) (by rw [← hR]; exact Nat.le_of_ble_eq_true rfl) ?_
  refine W.eq (g2 := F0 m 4 ls []) rfl ?_
  refine lv_aload_n hx hb dX1_init_4 rfl (lv_at hl 0 rfl) ?_
  refine lv_iconst (v := 0) hx hb dX1_init_5 (by decide) ?_
  have hsz_1 := hh.2.2.2.2.2.1
  have htt_1 := hh.2.2.2.2.2.2.1
  refine j7_newiK hx hb hK hh hB (atype := .int) (ty := .int) (htw (.arrayClass .int) (jWr_3 _ (List.mem_of_getElem? (i := 20) rfl))) rfl rfl (fun _ h => h) hB174 1 rfl (by decide) (by decide) hbs (x := 0) (by decide) (by omega) (fun j => by first | trivial | decide | rfl | exact Or.inl rfl | exact Or.inr (Or.inl (by decide)) | (refine ⟨?_, ?_⟩ <;> decide)) (by rw [hRc]; omega) (by rw [hRs]; omega) dX1_init_6 (fun H_1 hfr_1 hh_1 => ?_)
  have hh_1 : jSt (dC, dI) B base G0 (va_up G0 s.heap.size (some (174, 0))) EX1_initU s.heap (0 + 1) (0 + 0) [] [] [(jFdo, jDcc dC dI ca G0 none ph), (jFcd, jCD dC dI ca G0 none tq)] H_1 [] := hh_1
  have hM_1 : jNk [1, 2, 3, 11] G0 (va_up G0 s.heap.size (some (174, 0))) := jNk.new (by decide)
  have hN_1 : (jNk [0, 1, 2, 4, 5, 6, 7, 8, 9, 10, 11, 12, 13, 14, 15, 16]) G0 (va_up G0 s.heap.size (some (174, 0))) := jNk.new (by decide)
  have hgn_1 : (va_up G0 s.heap.size (some (174, 0))) s.heap.size = some (174, 0) := jUp_self
  have hle_1 : jLe G0 (va_up G0 s.heap.size (some (174, 0))) := jLe.new hh.2.1.fresh
  have hke_1 : jKe G0 (va_up G0 s.heap.size (some (174, 0))) s.heap H_1 := jKe.new hfr_1
  have hsy_1 : s.heap.size ≤ s.heap.size := hh.1.1
  generalize (va_up G0 s.heap.size (some (174, 0))) = G_1 at hN_1 hgn_1 hle_1 hke_1 hh_1 hM_1
  clear hh
  have hNn_1 : (jNk [0, 1, 2, 4, 5, 6, 7, 8, 9, 10, 11, 12, 13, 14, 15, 16]) G0 G_1 := (jNk.rf).tr hN_1
  have hkp_2 := hkp.tr hke_1
  have hraw_3n := hke_1.nr hraw0.lt hnr0
  have hraw_3 := hraw0.kept (hke_1.1 _ hraw0.lt)
  have hn3_1 : jNk [3] G0 G_1 := (jNk.rf).tr (hM_1.sub (ks1 := [3]) (by decide))
  have hd_4 := jDcc.grow (hh_1.iv 0 rfl) hle_1 hM_1 (by decide)
  have hh_5 := hh_1.sub (L1 := []) [] rfl (M1 := []) [] rfl (I1 := [(jFcd, jCD dC dI ca G0 none tq)]) [1] rfl
  clear hh_1
  have hh_6 := hh_5.addI (jDcc.ie hd_4)
  clear hh_5
  have hd_7 := jCD.grow (hh_6.iv 1 rfl) hle_1 hM_1 (by decide)
  have hh_8 := hh_6.sub (L1 := []) [] rfl (M1 := []) [] rfl (I1 := [(jFdo, jDcc dC dI ca G_1 none ph)]) [0] rfl
  clear hh_6
  have hh_9 := hh_8.addI (jCD.ie hd_7)
  clear hh_8
  refine j7_putR hx hb hown hK hh_9 hB hAp hraw_3 hraw_3n hbr0 (C := RX1) (T := TX1) (N := 17) rfl (i := 0) (by decide) (Nat.le_of_ble_eq_true rfl) hly_3_0 rfl hlk_9 (ty := (.array .int)) (v := .ref s.heap.size) (by decide +kernel) rfl rfl dX1_init_8 (fun H_10 locs_10 hraw_10 hr_10 hh_10 => ?_)
  have hraw_10 : va_at (dC, dI) vwCl (r0, .inr (3, [.ref s.heap.size, .int 0, .null, .int 0, .int 0, .null, .null, .null, .null, .null, .int 0, .null, .null, .int 0, .int 0, .int 0, .int 0])) H_10 := hraw_10
  have hkp_11 := hkp_2.put hr_10
  clear hh_9
  refine lv_aload_n hx hb dX1_init_11 rfl (lv_at hl 0 rfl) ?_
  refine lv_sipush (v := 1500) hx hb dX1_init_12 (by decide) ?_
  have hsz_12 := hh_10.2.2.2.2.2.1
  have htt_12 := hh_10.2.2.2.2.2.2.1
  refine j7_newiK hx hb hK hh_10 hB (atype := .int) (ty := .int) (htw (.arrayClass .int) (jWr_3 _ (List.mem_of_getElem? (i := 20) rfl))) rfl rfl (fun _ h => h) hB173 1 rfl (by decide) (by decide) hbs (x := 1500) (by decide) (by omega) (fun j => by first | trivial | decide | rfl | exact Or.inl rfl | exact Or.inr (Or.inl (by decide)) | (refine ⟨?_, ?_⟩ <;> decide)) (by rw [hRc]; omega) (by rw [hRs]; omega) dX1_init_15 (fun H_12 hfr_12 hh_12 => ?_)
  have hh_12 : jSt (dC, dI) B base G0 (va_up G_1 H_10.size (some (173, 1500))) EX1_initU s.heap ((0 + 1) + 1) ((0 + 0) + 1500) [] [] [(jFcd, jCD dC dI ca G_1 none tq), (jFdo, jDcc dC dI ca G_1 none ph)] H_12 locs_10 := hh_12
  have hM_12 : jNk [1, 2, 3, 11] G_1 (va_up G_1 H_10.size (some (173, 1500))) := jNk.new (by decide)
  have hN_12 : (jNk [0, 1, 2, 4, 5, 6, 7, 8, 9, 10, 11, 12, 13, 14, 15, 16]) G_1 (va_up G_1 H_10.size (some (173, 1500))) := jNk.new (by decide)
  have hgn_12 : (va_up G_1 H_10.size (some (173, 1500))) H_10.size = some (173, 1500) := jUp_self
  have hle_12 : jLe G_1 (va_up G_1 H_10.size (some (173, 1500))) := jLe.new hh_10.2.1.fresh
  have hke_12 : jKe G_1 (va_up G_1 H_10.size (some (173, 1500))) H_10 H_12 := jKe.new hfr_12
  have hsy_12 : s.heap.size ≤ H_10.size := hh_10.1.1
  generalize (va_up G_1 H_10.size (some (173, 1500))) = G_12 at hN_12 hgn_12 hle_12 hke_12 hh_12 hM_12
  clear hh_10
  have hNn_12 : (jNk [0, 1, 2, 4, 5, 6, 7, 8, 9, 10, 11, 12, 13, 14, 15, 16]) G0 G_12 := (hNn_1).tr hN_12
  have hkp_13 := hkp_11.tr hke_12
  have hraw_14n := hke_12.nr hraw_10.lt hraw_3n
  have hraw_14 := hraw_10.kept (hke_12.1 _ hraw_10.lt)
  have hn3_12 : jNk [3] G0 G_12 := (hn3_1).tr (hM_12.sub (ks1 := [3]) (by decide))
  have hd_15 := jCD.grow (hh_12.iv 0 rfl) hle_12 hM_12 (by decide)
  have hh_16 := hh_12.sub (L1 := []) [] rfl (M1 := []) [] rfl (I1 := [(jFdo, jDcc dC dI ca G_1 none ph)]) [1] rfl
  clear hh_12
  have hh_17 := hh_16.addI (jCD.ie hd_15)
  clear hh_16
  have hd_18 := jDcc.grow (hh_17.iv 1 rfl) hle_12 hM_12 (by decide)
  have hh_19 := hh_17.sub (L1 := []) [] rfl (M1 := []) [] rfl (I1 := [(jFcd, jCD dC dI ca G_12 none tq)]) [0] rfl
  clear hh_17
  have hh_20 := hh_19.addI (jDcc.ie hd_18)
  clear hh_19
  refine j7_putRF hx hb hown hK hh_20 hB hAp hraw_14 hraw_14n hbr0 (C := RX1) (T := TX1) (N := 17) rfl (i := 2) (by decide) (Nat.le_of_ble_eq_true rfl) hly_3_2 rfl hin2 rfl hlk_15 (ty := (.array .int)) (v := .ref H_10.size) (by decide +kernel) rfl rfl dX1_init_17 (fun H_21 locs_21 hraw_21 hr_21 hh_21 => ?_)
  have hraw_21 : va_at (dC, dI) vwCl (r0, .inr (3, [.ref s.heap.size, .int 0, .ref H_10.size, .int 0, .int 0, .null, .null, .null, .null, .null, .int 0, .null, .null, .int 0, .int 0, .int 0, .int 0])) H_21 := hraw_21
  have hkp_22 := hkp_13.put hr_21
  clear hh_20
  refine lv_aload_n hx hb dX1_init_20 rfl (lv_at hl 0 rfl) ?_
  refine lv_bipush (v := 40) hx hb dX1_init_21 (by decide) ?_
  have hsz_23 := hh_21.2.2.2.2.2.1
  have htt_23 := hh_21.2.2.2.2.2.2.1
  refine j7_newiK hx hb hK hh_21 hB (atype := .int) (ty := .int) (htw (.arrayClass .int) (jWr_3 _ (List.mem_of_getElem? (i := 20) rfl))) rfl rfl (fun _ h => h) hB171 1 rfl (by decide) (by decide) hbs (x := 40) (by decide) (by omega) (fun j => by first | trivial | decide | rfl | exact Or.inl rfl | exact Or.inr (Or.inl (by decide)) | (refine ⟨?_, ?_⟩ <;> decide)) (by rw [hRc]; omega) (by rw [hRs]; omega) dX1_init_23 (fun H_23 hfr_23 hh_23 => ?_)
  have hh_23 : jSt (dC, dI) B base G0 (va_up G_12 H_21.size (some (171, 40))) EX1_initU s.heap (((0 + 1) + 1) + 1) (((0 + 0) + 1500) + 40) [] [] [(jFdo, jDcc dC dI ca G_12 none ph), (jFcd, jCD dC dI ca G_12 none tq)] H_23 locs_21 := hh_23
  have hM_23 : jNk [1, 2, 3, 11] G_12 (va_up G_12 H_21.size (some (171, 40))) := jNk.new (by decide)
  have hN_23 : (jNk [0, 1, 2, 4, 5, 6, 7, 8, 9, 10, 11, 12, 13, 14, 15, 16]) G_12 (va_up G_12 H_21.size (some (171, 40))) := jNk.new (by decide)
  have hgn_23 : (va_up G_12 H_21.size (some (171, 40))) H_21.size = some (171, 40) := jUp_self
  have hle_23 : jLe G_12 (va_up G_12 H_21.size (some (171, 40))) := jLe.new hh_21.2.1.fresh
  have hke_23 : jKe G_12 (va_up G_12 H_21.size (some (171, 40))) H_21 H_23 := jKe.new hfr_23
  have hsy_23 : s.heap.size ≤ H_21.size := hh_21.1.1
  generalize (va_up G_12 H_21.size (some (171, 40))) = G_23 at hN_23 hgn_23 hle_23 hke_23 hh_23 hM_23
  clear hh_21
  have hNn_23 : (jNk [0, 1, 2, 4, 5, 6, 7, 8, 9, 10, 11, 12, 13, 14, 15, 16]) G0 G_23 := (hNn_12).tr hN_23
  have hkp_24 := hkp_22.tr hke_23
  have hraw_25n := hke_23.nr hraw_21.lt hraw_14n
  have hraw_25 := hraw_21.kept (hke_23.1 _ hraw_21.lt)
  have hn3_23 : jNk [3] G0 G_23 := (hn3_12).tr (hM_23.sub (ks1 := [3]) (by decide))
  have hd_26 := jDcc.grow (hh_23.iv 0 rfl) hle_23 hM_23 (by decide)
  have hh_27 := hh_23.sub (L1 := []) [] rfl (M1 := []) [] rfl (I1 := [(jFcd, jCD dC dI ca G_12 none tq)]) [1] rfl
  clear hh_23
  have hh_28 := hh_27.addI (jDcc.ie hd_26)
  clear hh_27
  have hd_29 := jCD.grow (hh_28.iv 1 rfl) hle_23 hM_23 (by decide)
  have hh_30 := hh_28.sub (L1 := []) [] rfl (M1 := []) [] rfl (I1 := [(jFdo, jDcc dC dI ca G_23 none ph)]) [0] rfl
  clear hh_28
  have hh_31 := hh_30.addI (jCD.ie hd_29)
  clear hh_30
  refine j7_putRF hx hb hown hK hh_31 hB hAp hraw_25 hraw_25n hbr0 (C := RX1) (T := TX1) (N := 17) rfl (i := 5) (by decide) (Nat.le_of_ble_eq_true rfl) hly_3_5 rfl hin2 rfl hlk_18 (ty := (.array .int)) (v := .ref H_21.size) (by decide +kernel) rfl rfl dX1_init_25 (fun H_32 locs_32 hraw_32 hr_32 hh_32 => ?_)
  have hraw_32 : va_at (dC, dI) vwCl (r0, .inr (3, [.ref s.heap.size, .int 0, .ref H_10.size, .int 0, .int 0, .ref H_21.size, .null, .null, .null, .null, .int 0, .null, .null, .int 0, .int 0, .int 0, .int 0])) H_32 := hraw_32
  have hkp_33 := hkp_24.put hr_32
  clear hh_31
  refine lv_aload_n hx hb dX1_init_28 rfl (lv_at hl 0 rfl) ?_
  refine lv_bipush (v := 40) hx hb dX1_init_29 (by decide) ?_
  have hsz_34 := hh_32.2.2.2.2.2.1
  have htt_34 := hh_32.2.2.2.2.2.2.1
  refine j7_newiK hx hb hK hh_32 hB (atype := .int) (ty := .int) (htw (.arrayClass .int) (jWr_3 _ (List.mem_of_getElem? (i := 20) rfl))) rfl rfl (fun _ h => h) hB172 1 rfl (by decide) (by decide) hbs (x := 40) (by decide) (by omega) (fun j => by first | trivial | decide | rfl | exact Or.inl rfl | exact Or.inr (Or.inl (by decide)) | (refine ⟨?_, ?_⟩ <;> decide)) (by rw [hRc]; omega) (by rw [hRs]; omega) dX1_init_31 (fun H_34 hfr_34 hh_34 => ?_)
  have hh_34 : jSt (dC, dI) B base G0 (va_up G_23 H_32.size (some (172, 40))) EX1_initU s.heap ((((0 + 1) + 1) + 1) + 1) ((((0 + 0) + 1500) + 40) + 40) [] [] [(jFcd, jCD dC dI ca G_23 none tq), (jFdo, jDcc dC dI ca G_23 none ph)] H_34 locs_32 := hh_34
  have hM_34 : jNk [1, 2, 3, 11] G_23 (va_up G_23 H_32.size (some (172, 40))) := jNk.new (by decide)
  have hN_34 : (jNk [0, 1, 2, 4, 5, 6, 7, 8, 9, 10, 11, 12, 13, 14, 15, 16]) G_23 (va_up G_23 H_32.size (some (172, 40))) := jNk.new (by decide)
  have hgn_34 : (va_up G_23 H_32.size (some (172, 40))) H_32.size = some (172, 40) := jUp_self
  have hle_34 : jLe G_23 (va_up G_23 H_32.size (some (172, 40))) := jLe.new hh_32.2.1.fresh
  have hke_34 : jKe G_23 (va_up G_23 H_32.size (some (172, 40))) H_32 H_34 := jKe.new hfr_34
  have hsy_34 : s.heap.size ≤ H_32.size := hh_32.1.1
  generalize (va_up G_23 H_32.size (some (172, 40))) = G_34 at hN_34 hgn_34 hle_34 hke_34 hh_34 hM_34
  clear hh_32
  have hNn_34 : (jNk [0, 1, 2, 4, 5, 6, 7, 8, 9, 10, 11, 12, 13, 14, 15, 16]) G0 G_34 := (hNn_23).tr hN_34
  have hkp_35 := hkp_33.tr hke_34
  have hraw_36n := hke_34.nr hraw_32.lt hraw_25n
  have hraw_36 := hraw_32.kept (hke_34.1 _ hraw_32.lt)
  have hn3_34 : jNk [3] G0 G_34 := (hn3_23).tr (hM_34.sub (ks1 := [3]) (by decide))
  have hd_37 := jCD.grow (hh_34.iv 0 rfl) hle_34 hM_34 (by decide)
  have hh_38 := hh_34.sub (L1 := []) [] rfl (M1 := []) [] rfl (I1 := [(jFdo, jDcc dC dI ca G_23 none ph)]) [1] rfl
  clear hh_34
  have hh_39 := hh_38.addI (jCD.ie hd_37)
  clear hh_38
  have hd_40 := jDcc.grow (hh_39.iv 1 rfl) hle_34 hM_34 (by decide)
  have hh_41 := hh_39.sub (L1 := []) [] rfl (M1 := []) [] rfl (I1 := [(jFcd, jCD dC dI ca G_34 none tq)]) [0] rfl
  clear hh_39
  have hh_42 := hh_41.addI (jDcc.ie hd_40)
  clear hh_41
  refine j7_putRF hx hb hown hK hh_42 hB hAp hraw_36 hraw_36n hbr0 (C := RX1) (T := TX1) (N := 17) rfl (i := 6) (by decide) (Nat.le_of_ble_eq_true rfl) hly_3_6 rfl hin2 rfl hlk_21 (ty := (.array .int)) (v := .ref H_32.size) (by decide +kernel) rfl rfl dX1_init_33 (fun H_43 locs_43 hraw_43 hr_43 hh_43 => ?_)
  have hraw_43 : va_at (dC, dI) vwCl (r0, .inr (3, [.ref s.heap.size, .int 0, .ref H_10.size, .int 0, .int 0, .ref H_21.size, .ref H_32.size, .null, .null, .null, .int 0, .null, .null, .int 0, .int 0, .int 0, .int 0])) H_43 := hraw_43
  have hkp_44 := hkp_35.put hr_43
  clear hh_42
  refine lv_aload_n hx hb dX1_init_36 rfl (lv_at hl 0 rfl) ?_
  refine lv_bipush (v := 40) hx hb dX1_init_37 (by decide) ?_
  have hsz_45 := hh_43.2.2.2.2.2.1
  have htt_45 := hh_43.2.2.2.2.2.2.1
  refine j7_newiK hx hb hK hh_43 hB (atype := .int) (ty := .int) (htw (.arrayClass .int) (jWr_3 _ (List.mem_of_getElem? (i := 20) rfl))) rfl rfl (fun _ h => h) hB101 1 rfl (by decide) (by decide) hbs (x := 40) (by decide) (by omega) (fun j => by first | trivial | decide | rfl | exact Or.inl rfl | exact Or.inr (Or.inl (by decide)) | (refine ⟨?_, ?_⟩ <;> decide)) (by rw [hRc]; omega) (by rw [hRs]; omega) dX1_init_39 (fun H_45 hfr_45 hh_45 => ?_)
  have hh_45 : jSt (dC, dI) B base G0 (va_up G_34 H_43.size (some (101, 40))) EX1_initU s.heap (((((0 + 1) + 1) + 1) + 1) + 1) (((((0 + 0) + 1500) + 40) + 40) + 40) [] [] [(jFdo, jDcc dC dI ca G_34 none ph), (jFcd, jCD dC dI ca G_34 none tq)] H_45 locs_43 := hh_45
  have hM_45 : jNk [1, 2, 3, 11] G_34 (va_up G_34 H_43.size (some (101, 40))) := jNk.new (by decide)
  have hN_45 : (jNk [0, 1, 2, 4, 5, 6, 7, 8, 9, 10, 11, 12, 13, 14, 15, 16]) G_34 (va_up G_34 H_43.size (some (101, 40))) := jNk.new (by decide)
  have hgn_45 : (va_up G_34 H_43.size (some (101, 40))) H_43.size = some (101, 40) := jUp_self
  have hle_45 : jLe G_34 (va_up G_34 H_43.size (some (101, 40))) := jLe.new hh_43.2.1.fresh
  have hke_45 : jKe G_34 (va_up G_34 H_43.size (some (101, 40))) H_43 H_45 := jKe.new hfr_45
  have hsy_45 : s.heap.size ≤ H_43.size := hh_43.1.1
  generalize (va_up G_34 H_43.size (some (101, 40))) = G_45 at hN_45 hgn_45 hle_45 hke_45 hh_45 hM_45
  clear hh_43
  have hNn_45 : (jNk [0, 1, 2, 4, 5, 6, 7, 8, 9, 10, 11, 12, 13, 14, 15, 16]) G0 G_45 := (hNn_34).tr hN_45
  have hkp_46 := hkp_44.tr hke_45
  have hraw_47n := hke_45.nr hraw_43.lt hraw_36n
  have hraw_47 := hraw_43.kept (hke_45.1 _ hraw_43.lt)
  have hn3_45 : jNk [3] G0 G_45 := (hn3_34).tr (hM_45.sub (ks1 := [3]) (by decide))
  have hd_48 := jDcc.grow (hh_45.iv 0 rfl) hle_45 hM_45 (by decide)
  have hh_49 := hh_45.sub (L1 := []) [] rfl (M1 := []) [] rfl (I1 := [(jFcd, jCD dC dI ca G_34 none tq)]) [1] rfl
  clear hh_45
  have hh_50 := hh_49.addI (jDcc.ie hd_48)
  clear hh_49
  have hd_51 := jCD.grow (hh_50.iv 1 rfl) hle_45 hM_45 (by decide)
  have hh_52 := hh_50.sub (L1 := []) [] rfl (M1 := []) [] rfl (I1 := [(jFdo, jDcc dC dI ca G_45 none ph)]) [0] rfl
  clear hh_50
  have hh_53 := hh_52.addI (jCD.ie hd_51)
  clear hh_52
  refine j7_putRF hx hb hown hK hh_53 hB hAp hraw_47 hraw_47n hbr0 (C := RX1) (T := TX1) (N := 17) rfl (i := 7) (by decide) (Nat.le_of_ble_eq_true rfl) hly_3_7 rfl hin2 rfl hlk_24 (ty := (.array .int)) (v := .ref H_43.size) (by decide +kernel) rfl rfl dX1_init_41 (fun H_54 locs_54 hraw_54 hr_54 hh_54 => ?_)
  have hraw_54 : va_at (dC, dI) vwCl (r0, .inr (3, [.ref s.heap.size, .int 0, .ref H_10.size, .int 0, .int 0, .ref H_21.size, .ref H_32.size, .ref H_43.size, .null, .null, .int 0, .null, .null, .int 0, .int 0, .int 0, .int 0])) H_54 := hraw_54
  have hkp_55 := hkp_46.put hr_54
  clear hh_53
  refine lv_aload_n hx hb dX1_init_44 rfl (lv_at hl 0 rfl) ?_
  refine lv_bipush (v := 40) hx hb dX1_init_45 (by decide) ?_
  have hsz_56 := hh_54.2.2.2.2.2.1
  have htt_56 := hh_54.2.2.2.2.2.2.1
  refine j7_newiK hx hb hK hh_54 hB (atype := .int) (ty := .int) (htw (.arrayClass .int) (jWr_3 _ (List.mem_of_getElem? (i := 20) rfl))) rfl rfl (fun _ h => h) hB101 1 rfl (by decide) (by decide) hbs (x := 40) (by decide) (by omega) (fun j => by first | trivial | decide | rfl | exact Or.inl rfl | exact Or.inr (Or.inl (by decide)) | (refine ⟨?_, ?_⟩ <;> decide)) (by rw [hRc]; omega) (by rw [hRs]; omega) dX1_init_47 (fun H_56 hfr_56 hh_56 => ?_)
  have hh_56 : jSt (dC, dI) B base G0 (va_up G_45 H_54.size (some (101, 40))) EX1_initU s.heap ((((((0 + 1) + 1) + 1) + 1) + 1) + 1) ((((((0 + 0) + 1500) + 40) + 40) + 40) + 40) [] [] [(jFcd, jCD dC dI ca G_45 none tq), (jFdo, jDcc dC dI ca G_45 none ph)] H_56 locs_54 := hh_56
  have hM_56 : jNk [1, 2, 3, 11] G_45 (va_up G_45 H_54.size (some (101, 40))) := jNk.new (by decide)
  have hN_56 : (jNk [0, 1, 2, 4, 5, 6, 7, 8, 9, 10, 11, 12, 13, 14, 15, 16]) G_45 (va_up G_45 H_54.size (some (101, 40))) := jNk.new (by decide)
  have hgn_56 : (va_up G_45 H_54.size (some (101, 40))) H_54.size = some (101, 40) := jUp_self
  have hle_56 : jLe G_45 (va_up G_45 H_54.size (some (101, 40))) := jLe.new hh_54.2.1.fresh
  have hke_56 : jKe G_45 (va_up G_45 H_54.size (some (101, 40))) H_54 H_56 := jKe.new hfr_56
  have hsy_56 : s.heap.size ≤ H_54.size := hh_54.1.1
  generalize (va_up G_45 H_54.size (some (101, 40))) = G_56 at hN_56 hgn_56 hle_56 hke_56 hh_56 hM_56
  clear hh_54
  have hNn_56 : (jNk [0, 1, 2, 4, 5, 6, 7, 8, 9, 10, 11, 12, 13, 14, 15, 16]) G0 G_56 := (hNn_45).tr hN_56
  have hkp_57 := hkp_55.tr hke_56
  have hraw_58n := hke_56.nr hraw_54.lt hraw_47n
  have hraw_58 := hraw_54.kept (hke_56.1 _ hraw_54.lt)
  have hn3_56 : jNk [3] G0 G_56 := (hn3_45).tr (hM_56.sub (ks1 := [3]) (by decide))
  have hd_59 := jCD.grow (hh_56.iv 0 rfl) hle_56 hM_56 (by decide)
  have hh_60 := hh_56.sub (L1 := []) [] rfl (M1 := []) [] rfl (I1 := [(jFdo, jDcc dC dI ca G_45 none ph)]) [1] rfl
  clear hh_56
  have hh_61 := hh_60.addI (jCD.ie hd_59)
  clear hh_60
  have hd_62 := jDcc.grow (hh_61.iv 1 rfl) hle_56 hM_56 (by decide)
  have hh_63 := hh_61.sub (L1 := []) [] rfl (M1 := []) [] rfl (I1 := [(jFcd, jCD dC dI ca G_56 none tq)]) [0] rfl
  clear hh_61
  have hh_64 := hh_63.addI (jDcc.ie hd_62)
  clear hh_63
  refine j7_putRF hx hb hown hK hh_64 hB hAp hraw_58 hraw_58n hbr0 (C := RX1) (T := TX1) (N := 17) rfl (i := 8) (by decide) (Nat.le_of_ble_eq_true rfl) hly_3_8 rfl hin2 rfl hlk_27 (ty := (.array .int)) (v := .ref H_54.size) (by decide +kernel) rfl rfl dX1_init_49 (fun H_65 locs_65 hraw_65 hr_65 hh_65 => ?_)
  have hraw_65 : va_at (dC, dI) vwCl (r0, .inr (3, [.ref s.heap.size, .int 0, .ref H_10.size, .int 0, .int 0, .ref H_21.size, .ref H_32.size, .ref H_43.size, .ref H_54.size, .null, .int 0, .null, .null, .int 0, .int 0, .int 0, .int 0])) H_65 := hraw_65
  have hkp_66 := hkp_57.put hr_65
  clear hh_64
  refine lv_aload_n hx hb dX1_init_52 rfl (lv_at hl 0 rfl) ?_
  refine lv_bipush (v := 40) hx hb dX1_init_53 (by decide) ?_
  have hsz_67 := hh_65.2.2.2.2.2.1
  have htt_67 := hh_65.2.2.2.2.2.2.1
  have hsy_67 : s.heap.size ≤ H_65.size := hh_65.1.1
  refine j7_newqK hx hb hown (htw (.classLink RX1 30 RX9) (jWr_10 _ (List.mem_of_getElem? (i := 11) rfl))) hK6.2.2.1 hK2 hh_65 hB hB210 2 rfl (by decide) hbs (x := 40) (by decide) (by omega) (fun _ => Or.inl rfl) (by rw [hRc]; omega) (by rw [hRs]; omega) dX1_init_55 (fun H_67 hfr_67 hh_67 hqn_67 => ?_)
  have hh_67 : jSt (dC, dI) B base G0 (va_up G_56 H_65.size (some (210, 40))) EX1_initU s.heap (((((((0 + 1) + 1) + 1) + 1) + 1) + 1) + 1) (((((((0 + 0) + 1500) + 40) + 40) + 40) + 40) + 40) [] [] [(jFdo, jDcc dC dI ca G_56 none ph), (jFcd, jCD dC dI ca G_56 none tq)] H_67 locs_65 := hh_67
  have hM_67 : jNk [1, 2, 3, 11] G_56 (va_up G_56 H_65.size (some (210, 40))) := jNk.new (by decide)
  have hN_67 : (jNk [0, 1, 2, 4, 5, 6, 7, 8, 9, 10, 11, 12, 13, 14, 15, 16]) G_56 (va_up G_56 H_65.size (some (210, 40))) := jNk.new (by decide)
  have hgn_67 : (va_up G_56 H_65.size (some (210, 40))) H_65.size = some (210, 40) := jUp_self
  have hle_67 : jLe G_56 (va_up G_56 H_65.size (some (210, 40))) := jLe.new hh_65.2.1.fresh
  have hke_67 : jKe G_56 (va_up G_56 H_65.size (some (210, 40))) H_65 H_67 := jKe.new hfr_67
  have hsy_67 : s.heap.size ≤ H_65.size := hh_65.1.1
  generalize (va_up G_56 H_65.size (some (210, 40))) = G_67 at hN_67 hgn_67 hle_67 hke_67 hh_67 hM_67
  clear hh_65
  have hNn_67 : (jNk [0, 1, 2, 4, 5, 6, 7, 8, 9, 10, 11, 12, 13, 14, 15, 16]) G0 G_67 := (hNn_56).tr hN_67
  have hkp_68 := hkp_66.tr hke_67
  have hraw_69n := hke_67.nr hraw_65.lt hraw_58n
  have hraw_69 := hraw_65.kept (hke_67.1 _ hraw_65.lt)
  have hn3_67 : jNk [3] G0 G_67 := (hn3_56).tr (hM_67.sub (ks1 := [3]) (by decide))
  have hd_70 := jDcc.grow (hh_67.iv 0 rfl) hle_67 hM_67 (by decide)
  have hh_71 := hh_67.sub (L1 := []) [] rfl (M1 := []) [] rfl (I1 := [(jFcd, jCD dC dI ca G_56 none tq)]) [1] rfl
  clear hh_67
  have hh_72 := hh_71.addI (jDcc.ie hd_70)
  clear hh_71
  have hd_73 := jCD.grow (hh_72.iv 1 rfl) hle_67 hM_67 (by decide)
  have hh_74 := hh_72.sub (L1 := []) [] rfl (M1 := []) [] rfl (I1 := [(jFdo, jDcc dC dI ca G_67 none ph)]) [0] rfl
  clear hh_72
  have hh_75 := hh_74.addI (jCD.ie hd_73)
  clear hh_74
  refine j7_putRF hx hb hown hK hh_75 hB hAp hraw_69 hraw_69n hbr0 (C := RX1) (T := TX1) (N := 17) rfl (i := 9) (by decide) (Nat.le_of_ble_eq_true rfl) hly_3_9 rfl hin2 rfl hlk_32 (ty := (.array (.object "ProofServer$State"))) (v := .ref H_65.size) (by decide +kernel) rfl rfl dX1_init_58 (fun H_76 locs_76 hraw_76 hr_76 hh_76 => ?_)
  have hraw_76 : va_at (dC, dI) vwCl (r0, .inr (3, [.ref s.heap.size, .int 0, .ref H_10.size, .int 0, .int 0, .ref H_21.size, .ref H_32.size, .ref H_43.size, .ref H_54.size, .ref H_65.size, .int 0, .null, .null, .int 0, .int 0, .int 0, .int 0])) H_76 := hraw_76
  have hkp_77 := hkp_68.put hr_76
  clear hh_75
  have hsz_78 := hh_76.2.2.2.2.2.1
  have htt_78 := hh_76.2.2.2.2.2.2.1
  refine W.room (fun hrc_78 hrs_78 => ?_)
  refine W.widen (k := LC - s.heap.size) (n := LS - jTot s.heap) (by omega) (by omega) ?_
  rw [hQ]
  have hg_79 := ((((hle_34).tr hle_45).tr hle_56).tr hle_67) _ _ hgn_23
  have hg_80 := (((hle_45).tr hle_56).tr hle_67) _ _ hgn_34
  obtain ⟨fb9, hh_81⟩ := hh_76.cpin hB171 (by decide) (by decide) hg_79
  obtain ⟨fe9, hh_82⟩ := hh_81.cpin hB172 (by decide) (by decide) hg_80
  have hd_83 := jDcc.typ (n := kn) (ph1 := ph + 1500) (hh_82.iv 1 rfl) hraw_69n (jf.raw (C := RX1) (T := TX1) (N := 17) rfl hraw_76 (i := 4) (by decide)) (jf.raw (C := RX1) (T := TX1) (N := 17) rfl hraw_76 (i := 10) (by decide)) (jf.raw (C := RX1) (T := TX1) (N := 17) rfl hraw_76 (i := 11) (by decide)) (jf.raw (C := RX1) (T := TX1) (N := 17) rfl hraw_76 (i := 5) (by decide)) (jf.raw (C := RX1) (T := TX1) (N := 17) rfl hraw_76 (i := 6) (by decide)) hg_79 hg_80 (hh_82.2.2.2.2.2.2.2.1.sub (L1 := [(H_21.size, 171, 40, ca 1, fb9), (H_32.size, 172, 40, ca 1, fe9)]) [1, 0] rfl) (jDcc.fresh hE0 (fun a t ht => hab0 ht) hnr0 hn3_67 hkp_77 hsy_23 hsy_34) (by omega) (fun _ => by omega)
  have hh_84 := hh_82.sub (L1 := []) [] rfl (M1 := [(H_32.size, 172, 40, ca 1, fe9), (H_21.size, 171, 40, ca 1, fb9)]) [0, 1] rfl (I1 := [(jFcd, jCD dC dI ca G_67 none tq)]) [0] rfl
  clear hh_82
  have hg_85 := (((((hle_23).tr hle_34).tr hle_45).tr hle_56).tr hle_67) _ _ hgn_12
  have hg_86 := ((((((hle_12).tr hle_23).tr hle_34).tr hle_45).tr hle_56).tr hle_67) _ _ hgn_1
  obtain ⟨ft9, hh_87⟩ := hh_84.cpin hB173 (by decide) (by decide) hg_85
  obtain ⟨fu9, hh_88⟩ := hh_87.cpin hB174 (by decide) (by decide) hg_86
  have hd_89 := jCD.typ (n := kn) (hh_88.iv 0 rfl) hraw_69n (jf.raw (C := RX1) (T := TX1) (N := 17) rfl hraw_76 (i := 2) (by decide)) (jf.raw (C := RX1) (T := TX1) (N := 17) rfl hraw_76 (i := 1) (by decide)) (jf.raw (C := RX1) (T := TX1) (N := 17) rfl hraw_76 (i := 3) (by decide)) (jf.raw (C := RX1) (T := TX1) (N := 17) rfl hraw_76 (i := 0) (by decide)) (hh_88.2.2.2.2.2.2.2.1.sub (L1 := [(H_10.size, 173, 1500, ca 1, ft9), (s.heap.size, 174, 0, ca 1, fu9)]) [1, 0] rfl) (jCD.fresh hU0 (fun a t ht => hab0 ht) hnr0 hn3_67 hkp_77 hsy_12) (by omega)
  have hh_90 := hh_88.sub (L1 := []) [] rfl (M1 := [(s.heap.size, 174, 0, ca 1, fu9), (H_10.size, 173, 1500, ca 1, ft9), (H_32.size, 172, 40, ca 1, fe9), (H_21.size, 171, 40, ca 1, fb9)]) [0, 1, 2, 3] rfl (I1 := []) [] rfl
  clear hh_88
  have hle_91 : jLe G_67 (va_up G_67 r0 (some (3, kn))) := jLe.typ hraw_69n
  have hg_92 := ((((((hle_12).tr hle_23).tr hle_34).tr hle_45).tr hle_56).tr hle_67).tr hle_91 _ _ hgn_1
  have hg_93 := (((((hle_23).tr hle_34).tr hle_45).tr hle_56).tr hle_67).tr hle_91 _ _ hgn_12
  have hg_94 := ((((hle_34).tr hle_45).tr hle_56).tr hle_67).tr hle_91 _ _ hgn_23
  have hg_95 := (((hle_45).tr hle_56).tr hle_67).tr hle_91 _ _ hgn_34
  have hg_96 := ((hle_56).tr hle_67).tr hle_91 _ _ hgn_45
  have hg_97 := (hle_67).tr hle_91 _ _ hgn_56
  have hg_98 := (jLe.rf).tr hle_91 _ _ hgn_67
  have hfa_91 : jRk (va_up G_67 r0 (some (3, kn))) 174 3000 (.ref s.heap.size) ∧ jIa (.int 0) ∧ jRf (va_up G_67 r0 (some (3, kn))) 173 1500 (.ref H_10.size) ∧ jI 0 1500 (.int 0) ∧ jI 0 40 (.int 0) ∧ jRf (va_up G_67 r0 (some (3, kn))) 171 40 (.ref H_21.size) ∧ jRf (va_up G_67 r0 (some (3, kn))) 172 40 (.ref H_32.size) ∧ jRf (va_up G_67 r0 (some (3, kn))) 101 40 (.ref H_43.size) ∧ jRf (va_up G_67 r0 (some (3, kn))) 101 40 (.ref H_54.size) ∧ jRf (va_up G_67 r0 (some (3, kn))) 210 40 (.ref H_65.size) ∧ jI 0 40 (.int 0) ∧ jRm (va_up G_67 r0 (some (3, kn))) 101 1500 (.null) ∧ jRn (va_up G_67 r0 (some (3, kn))) 11 0 (.null) ∧ jIa (.int 0) ∧ jIa (.int 0) ∧ jIa (.int 0) ∧ jI 0 1500 (.int 0) ∧ True := ⟨⟨_, _, rfl, hg_92, by omega⟩, ⟨_, rfl⟩, ⟨_, rfl, hg_93⟩, ⟨_, rfl, by omega, by omega⟩, ⟨_, rfl, by omega, by omega⟩, ⟨_, rfl, hg_94⟩, ⟨_, rfl, hg_95⟩, ⟨_, rfl, hg_96⟩, ⟨_, rfl, hg_97⟩, ⟨_, rfl, hg_98⟩, ⟨_, rfl, by omega, by omega⟩, Or.inl rfl, Or.inl rfl, ⟨_, rfl⟩, ⟨_, rfl⟩, ⟨_, rfl⟩, ⟨_, rfl, by omega, by omega⟩, trivial⟩
  have hh_91 := hh_90.typ (k := 3) (n := kn) hB hraw_69n hbr0 hraw_76.lt (jOb.of (C := RX1) (T := TX1) (N := 17) (F := F3) hB3 rfl hraw_76 (show jFx (F3 kn (va_up G_67 r0 (some (3, kn)))) [.ref s.heap.size, .int 0, .ref H_10.size, .int 0, .int 0, .ref H_21.size, .ref H_32.size, .ref H_43.size, .ref H_54.size, .ref H_65.size, .int 0, .null, .null, .int 0, .int 0, .int 0, .int 0] from hfa_91))
  have hgn_91 : (va_up G_67 r0 (some (3, kn))) r0 = some (3, kn) := jUp_self
  have hN_91 : (jNk [0, 1, 2, 4, 5, 6, 7, 8, 9, 10, 11, 12, 13, 14, 15, 16]) G_67 (va_up G_67 r0 (some (3, kn))) := jNk.new (by decide)
  have hNn_91 : (jNk [0, 1, 2, 4, 5, 6, 7, 8, 9, 10, 11, 12, 13, 14, 15, 16]) G0 (va_up G_67 r0 (some (3, kn))) := (hNn_67).tr hN_91
  have hkp_99 := hkp_77.typ (t := some (3, kn))
  have hh_100 := hh_91.more (P1 := [(r0, 3, 10, .int 0), (r0, 3, 4, .int 0), (r0, 3, 3, .int 0)]) (jP.cons hgn_91 (jf.raw (C := RX1) (T := TX1) (N := 17) rfl hraw_76 (i := 10) (by decide)) (jP.cons hgn_91 (jf.raw (C := RX1) (T := TX1) (N := 17) rfl hraw_76 (i := 4) (by decide)) (jP.cons hgn_91 (jf.raw (C := RX1) (T := TX1) (N := 17) rfl hraw_76 (i := 3) (by decide)) jP.nil)))
  have hh_101 := hh_100.addI (jDcc.ie hd_83)
  clear hh_100
  have hh_102 := hh_101.addI (jCD.ie hd_89)
  clear hh_101
  exact W.vret hx hb hr (fun t ht hW => ⟨⟨(0, 0, 0, (tq.put r0 0 0 ft9 0 fu9), (va_up G_67 r0 (some (3, kn)))), rfl, by (try dsimp only); exact ⟨(by first | omega | rfl | assumption | exact ⟨_, _, rfl⟩), (by first | omega | rfl | assumption | exact ⟨_, _, rfl⟩), (by first | omega | rfl | assumption | exact ⟨_, _, rfl⟩), (by first | omega | rfl | assumption | exact ⟨_, _, rfl⟩)⟩, ⟨hh_102.ra (by first | (simp only; omega) | omega) (by first | (simp only; omega) | omega) (M1 := [(r0, 3, 10, .int 0), (r0, 3, 4, .int 0), (r0, 3, 3, .int 0)]) [0, 1, 2] rfl ht, hNn_91, hgn_91, by rw [ht]; exact hkp_99, by rw [ht]; exact hh_102.2.2.2.2.2.2.2.2.sub (L1 := [(jFdo, jDcc dC dI ca (va_up G_67 r0 (some (3, kn))) none (ph + 1500)), (jFcd, jCD dC dI ca (va_up G_67 r0 (some (3, kn))) none (tq.put r0 0 0 ft9 0 fu9))]) [1, 0] rfl⟩⟩, by rw [ht]; try exact hh_102.1.1, fun q h9 hq => by rw [ht]; try exact hh_102.1.2.1 q h9 hq⟩) hh_102.1.2.2 dX1_init_61
end
section
-- p9: what a message does
section
variable {T : Nat → Int → Int} {v p m : Int} {S S1 : Int × (Int → jdD)}
end
section JR8
variable {dC : Nat → ClassId} {dI : Nat → Nat → Nat} {G : jT} {a nn yy : Nat} {P Q : Prop} {H : Heap}
theorem jRi.to (h : jRi dC dI G a P H) (e : P ↔ Q) : jRi dC dI G a Q H := by
  rcases h with ⟨p, x⟩ | ⟨p, x⟩
  · exact Or.inl ⟨e.mp p, x⟩
  · exact Or.inr ⟨fun q => p (e.mpr q), x⟩
end JR8
end
section
-- how long a message is at least that opens or changes a document
theorem jEd.ge {fb fe : Nat → Int32} {s u k : Int} (h : jSn fb fe s u) (h1 : k ≤ s) : 0 ≤ jEd fe k := by
  unfold jEd
  by_cases q : k ≤ 0
  · rw [if_pos q]; omega
  · rw [if_neg q]
    have := h (k - 1) (by omega) (by omega)
    omega
theorem jSn.ge {fb fe : Nat → Int32} {s u k : Int} (h : jSn fb fe s u) (h0 : 0 ≤ k) : s ≤ k ∨ 0 ≤ jSo fe k := by
  by_cases q : s ≤ k
  · exact Or.inl q
  · have := h k h0 (by omega)
    exact Or.inr (by omega)
end
