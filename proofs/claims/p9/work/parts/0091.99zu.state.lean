section
theorem dX5_named_0 : decode cX5_named 0 = .ok (.aload_n 1, 1) := by decide +kernel
theorem dX5_named_1 : decode cX5_named 1 = .ok (.ifnonnull 7, 3) := by decide +kernel
theorem dX5_named_4 : decode cX5_named 4 = .ok (.iconst (-1), 1) := by decide +kernel
theorem dX5_named_5 : decode cX5_named 5 = .ok (.goto 11, 3) := by decide +kernel
theorem dX5_named_8 : decode cX5_named 8 = .ok (.aload_n 1, 1) := by decide +kernel
theorem dX5_named_9 : decode cX5_named 9 = .ok (.getfield 164, 3) := by decide +kernel
theorem dX5_named_12 : decode cX5_named 12 = .ok (.iload_n 2, 1) := by decide +kernel
theorem dX5_named_13 : decode cX5_named 13 = .ok (.invokestatic 166, 3) := by decide +kernel
theorem dX5_named_16 : decode cX5_named 16 = .ok (.istore_n 3, 1) := by decide +kernel
theorem dX5_named_17 : decode cX5_named 17 = .ok (.aload_n 1, 1) := by decide +kernel
theorem dX5_named_18 : decode cX5_named 18 = .ok (.ifnull 14, 3) := by decide +kernel
theorem dX5_named_21 : decode cX5_named 21 = .ok (.iload_n 3, 1) := by decide +kernel
theorem dX5_named_22 : decode cX5_named 22 = .ok (.ifCond .lt 10, 3) := by decide +kernel
theorem dX5_named_25 : decode cX5_named 25 = .ok (.aload_n 1, 1) := by decide +kernel
theorem dX5_named_26 : decode cX5_named 26 = .ok (.getfield 180, 3) := by decide +kernel
theorem dX5_named_29 : decode cX5_named 29 = .ok (.iload_n 3, 1) := by decide +kernel
theorem dX5_named_30 : decode cX5_named 30 = .ok (.aaload, 1) := by decide +kernel
theorem dX5_named_31 : decode cX5_named 31 = .ok (.areturn, 1) := by decide +kernel
theorem dX5_named_32 : decode cX5_named 32 = .ok (.aload_n 0, 1) := by decide +kernel
theorem dX5_named_33 : decode cX5_named 33 = .ok (.getfield 174, 3) := by decide +kernel
theorem dX5_named_36 : decode cX5_named 36 = .ok (.iload_n 2, 1) := by decide +kernel
theorem dX5_named_37 : decode cX5_named 37 = .ok (.invokestatic 166, 3) := by decide +kernel
theorem dX5_named_40 : decode cX5_named 40 = .ok (.istore 4, 2) := by decide +kernel
theorem dX5_named_42 : decode cX5_named 42 = .ok (.iload 4, 2) := by decide +kernel
theorem dX5_named_44 : decode cX5_named 44 = .ok (.ifCond .ge 7, 3) := by decide +kernel
theorem dX5_named_47 : decode cX5_named 47 = .ok (.aconst_null, 1) := by decide +kernel
theorem dX5_named_48 : decode cX5_named 48 = .ok (.goto 10, 3) := by decide +kernel
theorem dX5_named_51 : decode cX5_named 51 = .ok (.aload_n 0, 1) := by decide +kernel
theorem dX5_named_52 : decode cX5_named 52 = .ok (.getfield 117, 3) := by decide +kernel
theorem dX5_named_55 : decode cX5_named 55 = .ok (.iload 4, 2) := by decide +kernel
theorem dX5_named_57 : decode cX5_named 57 = .ok (.aaload, 1) := by decide +kernel
theorem dX5_named_58 : decode cX5_named 58 = .ok (.areturn, 1) := by decide +kernel
theorem dX9_init__0 : decode cX9_init_ 0 = .ok (.aload_n 0, 1) := by decide +kernel
theorem dX9_init__1 : decode cX9_init_ 1 = .ok (.invokespecial 3, 3) := by decide +kernel
theorem dX9_init__4 : decode cX9_init_ 4 = .ok (.aload_n 0, 1) := by decide +kernel
theorem dX9_init__5 : decode cX9_init_ 5 = .ok (.iconst 0, 1) := by decide +kernel
theorem dX9_init__6 : decode cX9_init_ 6 = .ok (.newarray .int, 2) := by decide +kernel
theorem dX9_init__8 : decode cX9_init_ 8 = .ok (.putfield 9, 3) := by decide +kernel
theorem dX9_init__11 : decode cX9_init_ 11 = .ok (.aload_n 0, 1) := by decide +kernel
theorem dX9_init__12 : decode cX9_init_ 12 = .ok (.iconst 0, 1) := by decide +kernel
theorem dX9_init__13 : decode cX9_init_ 13 = .ok (.newarray .int, 2) := by decide +kernel
theorem dX9_init__15 : decode cX9_init_ 15 = .ok (.putfield 15, 3) := by decide +kernel
theorem dX9_init__18 : decode cX9_init_ 18 = .ok (.aload_n 0, 1) := by decide +kernel
theorem dX9_init__19 : decode cX9_init_ 19 = .ok (.iconst 0, 1) := by decide +kernel
theorem dX9_init__20 : decode cX9_init_ 20 = .ok (.anewarray 18, 3) := by decide +kernel
theorem dX9_init__23 : decode cX9_init_ 23 = .ok (.putfield 19, 3) := by decide +kernel
theorem dX9_init__26 : decode cX9_init_ 26 = .ok (.aload_n 0, 1) := by decide +kernel
theorem dX9_init__27 : decode cX9_init_ 27 = .ok (.iconst (-1), 1) := by decide +kernel
theorem dX9_init__28 : decode cX9_init_ 28 = .ok (.putfield 23, 3) := by decide +kernel
theorem dX9_init__31 : decode cX9_init_ 31 = .ok (.aload_n 0, 1) := by decide +kernel
theorem dX9_init__32 : decode cX9_init_ 32 = .ok (.iconst 0, 1) := by decide +kernel
theorem dX9_init__33 : decode cX9_init_ 33 = .ok (.newarray .int, 2) := by decide +kernel
theorem dX9_init__35 : decode cX9_init_ 35 = .ok (.putfield 27, 3) := by decide +kernel
theorem dX9_init__38 : decode cX9_init_ 38 = .ok (.aload_n 0, 1) := by decide +kernel
theorem dX9_init__39 : decode cX9_init_ 39 = .ok (.iconst 0, 1) := by decide +kernel
theorem dX9_init__40 : decode cX9_init_ 40 = .ok (.anewarray 30, 3) := by decide +kernel
theorem dX9_init__43 : decode cX9_init_ 43 = .ok (.putfield 32, 3) := by decide +kernel
theorem dX9_init__46 : decode cX9_init_ 46 = .ok (.aload_n 0, 1) := by decide +kernel
theorem dX9_init__47 : decode cX9_init_ 47 = .ok (.aload_n 1, 1) := by decide +kernel
theorem dX9_init__48 : decode cX9_init_ 48 = .ok (.putfield 36, 3) := by decide +kernel
theorem dX9_init__51 : decode cX9_init_ 51 = .ok (.aload_n 0, 1) := by decide +kernel
theorem dX9_init__52 : decode cX9_init_ 52 = .ok (.aload_n 2, 1) := by decide +kernel
theorem dX9_init__53 : decode cX9_init_ 53 = .ok (.putfield 40, 3) := by decide +kernel
theorem dX9_init__56 : decode cX9_init_ 56 = .ok (.aload_n 0, 1) := by decide +kernel
theorem dX9_init__57 : decode cX9_init_ 57 = .ok (.aload_n 1, 1) := by decide +kernel
theorem dX9_init__58 : decode cX9_init_ 58 = .ok (.getfield 9, 3) := by decide +kernel
theorem dX9_init__61 : decode cX9_init_ 61 = .ok (.putfield 9, 3) := by decide +kernel
theorem dX9_init__64 : decode cX9_init_ 64 = .ok (.aload_n 0, 1) := by decide +kernel
theorem dX9_init__65 : decode cX9_init_ 65 = .ok (.aload_n 1, 1) := by decide +kernel
theorem dX9_init__66 : decode cX9_init_ 66 = .ok (.getfield 15, 3) := by decide +kernel
theorem dX9_init__69 : decode cX9_init_ 69 = .ok (.putfield 15, 3) := by decide +kernel
theorem dX9_init__72 : decode cX9_init_ 72 = .ok (.aload_n 0, 1) := by decide +kernel
theorem dX9_init__73 : decode cX9_init_ 73 = .ok (.aload_n 1, 1) := by decide +kernel
theorem dX9_init__74 : decode cX9_init_ 74 = .ok (.getfield 19, 3) := by decide +kernel
theorem dX9_init__77 : decode cX9_init_ 77 = .ok (.putfield 19, 3) := by decide +kernel
theorem dX9_init__80 : decode cX9_init_ 80 = .ok (.aload_n 0, 1) := by decide +kernel
theorem dX9_init__81 : decode cX9_init_ 81 = .ok (.aload_n 1, 1) := by decide +kernel
theorem dX9_init__82 : decode cX9_init_ 82 = .ok (.getfield 23, 3) := by decide +kernel
theorem dX9_init__85 : decode cX9_init_ 85 = .ok (.putfield 23, 3) := by decide +kernel
theorem dX9_init__88 : decode cX9_init_ 88 = .ok (.aload_n 0, 1) := by decide +kernel
theorem dX9_init__89 : decode cX9_init_ 89 = .ok (.aload_n 1, 1) := by decide +kernel
theorem dX9_init__90 : decode cX9_init_ 90 = .ok (.getfield 27, 3) := by decide +kernel
theorem dX9_init__93 : decode cX9_init_ 93 = .ok (.putfield 27, 3) := by decide +kernel
theorem dX9_init__96 : decode cX9_init_ 96 = .ok (.aload_n 0, 1) := by decide +kernel
theorem dX9_init__97 : decode cX9_init_ 97 = .ok (.aload_n 1, 1) := by decide +kernel
theorem dX9_init__98 : decode cX9_init_ 98 = .ok (.getfield 32, 3) := by decide +kernel
theorem dX9_init__101 : decode cX9_init_ 101 = .ok (.putfield 32, 3) := by decide +kernel
theorem dX9_init__104 : decode cX9_init_ 104 = .ok (.return_, 1) := by decide +kernel
theorem dX9_endProof_0 : decode cX9_endProof 0 = .ok (.aload_n 0, 1) := by decide +kernel
theorem dX9_endProof_1 : decode cX9_endProof 1 = .ok (.iconst (-1), 1) := by decide +kernel
theorem dX9_endProof_2 : decode cX9_endProof 2 = .ok (.putfield 23, 3) := by decide +kernel
theorem dX9_endProof_5 : decode cX9_endProof 5 = .ok (.aload_n 0, 1) := by decide +kernel
theorem dX9_endProof_6 : decode cX9_endProof 6 = .ok (.iconst 0, 1) := by decide +kernel
theorem dX9_endProof_7 : decode cX9_endProof 7 = .ok (.newarray .int, 2) := by decide +kernel
theorem dX9_endProof_9 : decode cX9_endProof 9 = .ok (.putfield 27, 3) := by decide +kernel
theorem dX9_endProof_12 : decode cX9_endProof 12 = .ok (.aload_n 0, 1) := by decide +kernel
theorem dX9_endProof_13 : decode cX9_endProof 13 = .ok (.iconst 0, 1) := by decide +kernel
theorem dX9_endProof_14 : decode cX9_endProof 14 = .ok (.anewarray 30, 3) := by decide +kernel
theorem dX9_endProof_17 : decode cX9_endProof 17 = .ok (.putfield 32, 3) := by decide +kernel
theorem dX9_endProof_20 : decode cX9_endProof 20 = .ok (.return_, 1) := by decide +kernel
def EX9_endProof : List (Nat × Nat) := [(11, 6), (11, 7), (11, 8)]
def EX9_init_ : List (Nat × Nat) := []
def EX5_named : List (Nat × Nat) := []
def EX5_namedZ : List (Nat × Nat) := []
set_option maxHeartbeats 4000000 in
set_option maxRecDepth 20000 in
theorem uX9_endProof (l : Launch) (dC : Nat → ClassId) (dI : Nat → Nat → Nat) (ca : Nat → ClassId) (base : Nat) (B : jF) (hB : jBok B) (hAp : jAp (dC, dI)) (hB5 : ∀ n G a H, B 5 n G a H ↔ jOb (dC, dI) 5 4 (F5 n G) a H) (hB11 : ∀ n G a H, B 11 n G a H ↔ jOb (dC, dI) 11 9 (F11 n G) a H) (hB214 : ∀ n G a H, B 214 n G a H ↔ jAq (dC, dI) (ca 7) (jQg) n G a H) (hB280 : ∀ n G a H, B 280 n G a H ↔ jAr (dC, dI) (ca 1) (fun j z => -1 ≤ z.toInt) n a H) (G0 : jT) (H0 : Heap) (r0 : Nat) (LC LS : Nat) : Met l yX9_endProof (jw yX9_endProof cX9_endProof 1 none) ({ frames := 0, cells := LC - H0.size, slots := LS - jTot H0, locals := 0 }) (va_Pc [.ref r0] (fun U => U.heap = H0 ∧ jX B base G0 [] H0 ∧ jG dC dI ca base U ∧ jK2 dC dI ca U ∧ jK6 U ∧ G0 r0 = some (11, 0) ∧ jP (dC, dI) G0 H0 [] ∧ H0.size + 2 ≤ LC ∧ jTot H0 + 0 ≤ LS ∧ True)) (va_Qv (S := jT) (fun u => True) (fun u t => jRa (dC, dI) B base G0 u EX9_endProof H0 (2) (0) [] t.heap ∧ (jNk [0, 1, 2, 3, 4, 5, 6, 7, 8, 9, 10, 11, 12, 13, 14, 15, 16]) G0 u) (jA base)) (LC - H0.size) (LS - jTot H0) (jA base) := by
  refine Met.ofW (cc := cX9_endProof) (maxL := 1) (ret := none) (by decide) rfl ?_
  intro p e s m args below meth c s₁ Bd hml hv
  obtain ⟨rfl, hH0, hX, hG, hK2, hK6, hg_r0, hP0, hLC0, hLS0, hp0⟩ := hv
  have hK := hG.1
  have hx := Bd.exec
  have hb := Bd.bytes
  have hr := Bd.returns
  have hts := atoms_spec (ws := (jw yX9_endProof cX9_endProof 1 none)) Bd.pre
  have htw : ∀ w ∈ jWl, w.before _ s = true := fun w h => hts w (List.mem_cons_of_mem _ h)
  have hown : s.vm.findClass RX9 = some m.cls := findClass_of_methodNamed Bd.named
  have hlocks := Bd.notSynchronized
  obtain ⟨Q, hQ⟩ : ∃ Q, Q = MQ below (va_Qv (S := jT) (fun u => True) (fun u t => jRa (dC, dI) B base G0 u EX9_endProof H0 (2) (0) [] t.heap ∧ (jNk [0, 1, 2, 3, 4, 5, 6, 7, 8, 9, 10, 11, 12, 13, 14, 15, 16]) G0 u) (jA base)) ([.ref r0] : List Value).toArray s (LC - H0.size) (LS - jTot H0) (jA base) := ⟨_, rfl⟩
  rw [← hQ]
  have hl := lv_entry ([.ref r0]) (n := 1) (Nat.le_of_ble_eq_true rfl)
  rw [lg_entry_eq]
  generalize (lg_sl ([.ref r0]) ++ List.replicate (1 - (lg_sl ([.ref r0])).length) Slot.unset).toArray = ls at hl ⊢
  have hl : lv_has ls 1 [(0, .ref r0)] := hl
  generalize hR : (headSpec (jw yX9_endProof cX9_endProof 1 none) ({ frames := 0, cells := LC - H0.size, slots := LS - jTot H0, locals := 0 })).room = R
  subst hH0
  have hh : jSt (dC, dI) B base G0 G0 EX9_endProof s.heap 0 0 [] [] [] s.heap [] := jSt.start hX hP0 jMc.nil jIs.nil
  clear hX hP0
  have hkm1 : ((-1) : Int32).toInt = (-1) := by decide
  have hk0 : (0 : Int32).toInt = 0 := by decide
  have hk1 : (1 : Int32).toInt = 1 := by decide
  have hly_11_6 := htw (u_lay RX9 TX9 6) (jWc_wsX90 _ (u_in_lay (by decide)))
  have hly_11_7 := htw (u_lay RX9 TX9 7) (jWc_wsX90 _ (u_in_lay (by decide)))
  have hly_11_8 := htw (u_lay RX9 TX9 8) (jWc_wsX90 _ (u_in_lay (by decide)))
  have hlk_23 := (htw (.fieldLink RX9 23 "ProofServer$State" "lemma" "I") (jWr_8 _ (List.mem_of_getElem? (i := 21) rfl)))
  have hlk_27 := (htw (.fieldLink RX9 27 "ProofServer$State" "statement" "[I") (jWr_8 _ (List.mem_of_getElem? (i := 22) rfl)))
  have hlk_32 := (htw (.fieldLink RX9 32 "ProofServer$State" "goals" "[LProofServer$Goal;") (jWr_9 _ (List.mem_of_getElem? (i := 0) rfl)))
  have hbs : base ≤ s.heap.size := Nat.le_of_lt (Nat.lt_of_le_of_lt (hh.ab hg_r0).1 (hh.ab hg_r0).2)
  have hRc : R.cells = LC - s.heap.size := by rw [← hR]; rfl
  have hRs : R.slots = LS - jTot s.heap := by rw [← hR]; rfl
  refine lv_aload_n hx hb dX9_endProof_0 rfl (lv_at hl 0 rfl) ?_
  refine lv_iconst (v := (-1)) hx hb dX9_endProof_1 (by decide) ?_
  refine j7_put hx hb hown hK hh hB hAp hB11 (C := RX9) (T := TX9) (N := 9) rfl (by decide) hg_r0 (i := 6) (by decide) hly_11_6 rfl hlk_23 rfl (ty := .int) (v := .int (-1)) (by decide +kernel) rfl rfl (⟨_, rfl⟩) rfl (L1 := []) [] rfl rfl rfl dX9_endProof_2 (fun H_1 locs_1 hh_1 => ?_)
  clear hh
  refine lv_aload_n hx hb dX9_endProof_5 rfl (lv_at hl 0 rfl) ?_
  refine lv_iconst (v := 0) hx hb dX9_endProof_6 (by decide) ?_
  have hsz_2 := hh_1.2.2.2.2.2.1
  have htt_2 := hh_1.2.2.2.2.2.2.1
  refine j7_newiK hx hb hK hh_1 hB (atype := .int) (ty := .int) (htw (.arrayClass .int) (jWr_3 _ (List.mem_of_getElem? (i := 20) rfl))) rfl rfl (fun _ h => h) hB280 1 rfl (by decide) (by decide) hbs (x := 0) (by decide) (by omega) (fun j => by first | trivial | decide | rfl | exact Or.inl rfl | (refine ⟨?_, ?_⟩ <;> decide)) (by rw [hRc]; omega) (by rw [hRs]; omega) dX9_endProof_7 (fun H_2 hfr_2 hh_2 => ?_)
  have hh_2 : jSt (dC, dI) B base G0 (va_up G0 H_1.size (some (280, 0))) EX9_endProof s.heap (0 + 1) (0 + 0) [(r0, 11, 6, .int (-1))] [] [] H_2 locs_1 := hh_2
  have hN_2 : (jNk [0, 1, 2, 3, 4, 5, 6, 7, 8, 9, 10, 11, 12, 13, 14, 15, 16]) G0 (va_up G0 H_1.size (some (280, 0))) := jNk.new (by decide)
  have hgn_2 : (va_up G0 H_1.size (some (280, 0))) H_1.size = some (280, 0) := jUp_self
  have hle_2 : jLe G0 (va_up G0 H_1.size (some (280, 0))) := jLe.new hh_1.2.1.fresh
  have hke_2 : jKe G0 (va_up G0 H_1.size (some (280, 0))) H_1 H_2 := jKe.new hfr_2
  have hsy_2 : s.heap.size ≤ H_1.size := hh_1.1.1
  generalize (va_up G0 H_1.size (some (280, 0))) = G_2 at hN_2 hgn_2 hle_2 hke_2 hh_2
  clear hh_1
  have hNn_2 : (jNk [0, 1, 2, 3, 4, 5, 6, 7, 8, 9, 10, 11, 12, 13, 14, 15, 16]) G0 G_2 := (jNk.rf).tr hN_2
  have hg_3 := hle_2 _ _ hg_r0
  refine j7_put hx hb hown hK hh_2 hB hAp hB11 (C := RX9) (T := TX9) (N := 9) rfl (by decide) hg_3 (i := 7) (by decide) hly_11_7 rfl hlk_27 rfl (ty := (.array .int)) (v := .ref H_1.size) (by decide +kernel) rfl rfl (⟨_, _, rfl, hgn_2, by omega⟩) rfl (L1 := [(r0, 11, 6, .int (-1))]) [0] rfl rfl rfl dX9_endProof_9 (fun H_4 locs_4 hh_4 => ?_)
  clear hh_2
  refine lv_aload_n hx hb dX9_endProof_12 rfl (lv_at hl 0 rfl) ?_
  refine lv_iconst (v := 0) hx hb dX9_endProof_13 (by decide) ?_
  have hsz_5 := hh_4.2.2.2.2.2.1
  have htt_5 := hh_4.2.2.2.2.2.2.1
  have hsy_5 : s.heap.size ≤ H_4.size := hh_4.1.1
  refine j7_newq0 hx hb hown (htw (.classLink RX9 30 RX3) (jWr_8 _ (List.mem_of_getElem? (i := 23) rfl))) hK6.2.2.2 hK2 hh_4 hB hB214 3 rfl (by decide) hbs (by decide) (by rw [hRc]; omega) (by rw [hRs]; omega) dX9_endProof_14 (fun H_5 hfr_5 hh_5 => ?_)
  have hh_5 : jSt (dC, dI) B base G0 (va_up G_2 H_4.size (some (214, 0))) EX9_endProof s.heap ((0 + 1) + 1) ((0 + 0) + 0) [(r0, 11, 7, .ref H_1.size), (r0, 11, 6, .int (-1))] [] [] H_5 locs_4 := hh_5
  have hN_5 : (jNk [0, 1, 2, 3, 4, 5, 6, 7, 8, 9, 10, 11, 12, 13, 14, 15, 16]) G_2 (va_up G_2 H_4.size (some (214, 0))) := jNk.new (by decide)
  have hgn_5 : (va_up G_2 H_4.size (some (214, 0))) H_4.size = some (214, 0) := jUp_self
  have hle_5 : jLe G_2 (va_up G_2 H_4.size (some (214, 0))) := jLe.new hh_4.2.1.fresh
  have hke_5 : jKe G_2 (va_up G_2 H_4.size (some (214, 0))) H_4 H_5 := jKe.new hfr_5
  have hsy_5 : s.heap.size ≤ H_4.size := hh_4.1.1
  generalize (va_up G_2 H_4.size (some (214, 0))) = G_5 at hN_5 hgn_5 hle_5 hke_5 hh_5
  clear hh_4
  have hNn_5 : (jNk [0, 1, 2, 3, 4, 5, 6, 7, 8, 9, 10, 11, 12, 13, 14, 15, 16]) G0 G_5 := (hNn_2).tr hN_5
  have hg_6 := hle_5 _ _ hg_3
  have hg_7 := hle_5 _ _ hgn_2
  refine j7_put hx hb hown hK hh_5 hB hAp hB11 (C := RX9) (T := TX9) (N := 9) rfl (by decide) hg_6 (i := 8) (by decide) hly_11_8 rfl hlk_32 rfl (ty := (.array (.object "ProofServer$Goal"))) (v := .ref H_4.size) (by decide +kernel) rfl rfl (⟨_, _, rfl, hgn_5, by omega⟩) rfl (L1 := [(r0, 11, 7, .ref H_1.size), (r0, 11, 6, .int (-1))]) [0, 1] rfl rfl rfl dX9_endProof_17 (fun H_8 locs_8 hh_8 => ?_)
  clear hh_5
  have hsz_9 := hh_8.2.2.2.2.2.1
  have htt_9 := hh_8.2.2.2.2.2.2.1
  refine W.room (fun hrc_9 hrs_9 => ?_)
  refine W.widen (k := LC - s.heap.size) (n := LS - jTot s.heap) (by omega) (by omega) ?_
  rw [hQ]
  exact W.vret hx hb hr (fun t ht hW => ⟨⟨G_5, rfl, trivial, ⟨hh_8.ra (by first | omega | (simp only; omega)) (by first | omega | (simp only; omega)) (M1 := []) [] rfl ht, hNn_5⟩⟩, by rw [ht]; try exact hh_8.1.1, fun q h9 hq => by rw [ht]; try exact hh_8.1.2.1 q h9 hq⟩) hh_8.1.2.2 dX9_endProof_20
set_option maxHeartbeats 4000000 in
set_option maxRecDepth 20000 in
theorem uX9_init_ (l : Launch) (dC : Nat → ClassId) (dI : Nat → Nat → Nat) (ca : Nat → ClassId) (base : Nat) (B : jF) (hB : jBok B) (hAp : jAp (dC, dI)) (hB5 : ∀ n G a H, B 5 n G a H ↔ jOb (dC, dI) 5 4 (F5 n G) a H) (hB11 : ∀ n G a H, B 11 n G a H ↔ jOb (dC, dI) 11 9 (F11 n G) a H) (hB101 : ∀ n G a H, B 101 n G a H ↔ jAr (dC, dI) (ca 1) (fun j z => True) n a H) (hB214 : ∀ n G a H, B 214 n G a H ↔ jAq (dC, dI) (ca 7) (jQg) n G a H) (hB280 : ∀ n G a H, B 280 n G a H ↔ jAr (dC, dI) (ca 1) (fun j z => -1 ≤ z.toInt) n a H) (hB313 : ∀ n G a H, B 313 n G a H ↔ jAq (dC, dI) (ca 8) (jQk 280 80) n G a H) (G0 : jT) (H0 : Heap) (r0 : Nat) (r1 : Nat) (r2 : Nat) (n2 : Nat) (LC LS : Nat) : Met l yX9_init_ (jw yX9_init_ cX9_init_ 3 none) ({ frames := 1, cells := LC - H0.size, slots := LS - jTot H0, locals := 31 }) (va_Pc [.ref r0, .ref r1, .ref r2] (fun U => U.heap = H0 ∧ jX B base G0 [] H0 ∧ jG dC dI ca base U ∧ jK2 dC dI ca U ∧ jK5 dC dI ca U ∧ jK6 U ∧ G0 r1 = some (11, 0) ∧ G0 r2 = some (101, n2) ∧ va_at (dC, dI) vwCl (r0, .inr (11, [.null, .null, .int 0, .null, .null, .null, .int 0, .null, .null])) H0 ∧ (∀ t, G0 r0 ≠ some t) ∧ base ≤ r0 ∧ jP (dC, dI) G0 H0 [] ∧ jIs (dC, dI) G0 H0 [(jFs11, jSef dC dI G0)] ∧ H0.size + 5 ≤ LC ∧ jTot H0 + 0 ≤ LS ∧ n2 ≤ 1500)) (va_Qv (S := jT) (fun u => True) (fun u t => jRa (dC, dI) B base G0 u EX9_init_ H0 (5) (0) [] t.heap ∧ (jNk [0, 1, 2, 3, 4, 5, 6, 7, 8, 9, 10, 12, 13, 14, 15, 16]) G0 u ∧ u r0 = some (11, 0) ∧ jKx r0 G0 u H0 t.heap ∧ jIs (dC, dI) u t.heap [(jFs11, jSef dC dI u)]) (jA base)) (LC - H0.size) (LS - jTot H0) (jA base) := by
  refine Met.ofW (cc := cX9_init_) (maxL := 3) (ret := none) (by decide) rfl ?_
  intro p e s m args below meth c s₁ Bd hml hv
  obtain ⟨rfl, hH0, hX, hG, hK2, hK5, hK6, hg_r1, hg_r2, hraw0, hnr0, hbr0, hP0, hI0, hLC0, hLS0, hp0⟩ := hv
  have hK := hG.1
  have hx := Bd.exec
  have hb := Bd.bytes
  have hr := Bd.returns
  have hts := atoms_spec (ws := (jw yX9_init_ cX9_init_ 3 none)) Bd.pre
  have htw : ∀ w ∈ jWl, w.before _ s = true := fun w h => hts w (List.mem_cons_of_mem _ h)
  have hown : s.vm.findClass RX9 = some m.cls := findClass_of_methodNamed Bd.named
  have hlocks := Bd.notSynchronized
  obtain ⟨Q, hQ⟩ : ∃ Q, Q = MQ below (va_Qv (S := jT) (fun u => True) (fun u t => jRa (dC, dI) B base G0 u EX9_init_ H0 (5) (0) [] t.heap ∧ (jNk [0, 1, 2, 3, 4, 5, 6, 7, 8, 9, 10, 12, 13, 14, 15, 16]) G0 u ∧ u r0 = some (11, 0) ∧ jKx r0 G0 u H0 t.heap ∧ jIs (dC, dI) u t.heap [(jFs11, jSef dC dI u)]) (jA base)) ([.ref r0, .ref r1, .ref r2] : List Value).toArray s (LC - H0.size) (LS - jTot H0) (jA base) := ⟨_, rfl⟩
  rw [← hQ]
  have hl := lv_entry ([.ref r0, .ref r1, .ref r2]) (n := 3) (Nat.le_of_ble_eq_true rfl)
  rw [lg_entry_eq]
  generalize (lg_sl ([.ref r0, .ref r1, .ref r2]) ++ List.replicate (3 - (lg_sl ([.ref r0, .ref r1, .ref r2])).length) Slot.unset).toArray = ls at hl ⊢
  have hl : lv_has ls 3 [(0, .ref r0), (1, .ref r1), (2, .ref r2)] := hl
  generalize hR : (headSpec (jw yX9_init_ cX9_init_ 3 none) ({ frames := 1, cells := LC - H0.size, slots := LS - jTot H0, locals := 31 })).room = R
  subst hH0
  have hh : jSt (dC, dI) B base G0 G0 EX9_init_ s.heap 0 0 [] [] [(jFs11, jSef dC dI G0)] s.heap [] := jSt.start hX hP0 jMc.nil hI0
  clear hX hP0
  have hkm1 : ((-1) : Int32).toInt = (-1) := by decide
  have hk0 : (0 : Int32).toInt = 0 := by decide
  have hk1 : (1 : Int32).toInt = 1 := by decide
  have hly_11_0 := htw (u_lay RX9 TX9 0) (jWc_wsX90 _ (u_in_lay (by decide)))
  have hly_11_1 := htw (u_lay RX9 TX9 1) (jWc_wsX90 _ (u_in_lay (by decide)))
  have hly_11_3 := htw (u_lay RX9 TX9 3) (jWc_wsX90 _ (u_in_lay (by decide)))
  have hly_11_4 := htw (u_lay RX9 TX9 4) (jWc_wsX90 _ (u_in_lay (by decide)))
  have hly_11_5 := htw (u_lay RX9 TX9 5) (jWc_wsX90 _ (u_in_lay (by decide)))
  have hly_11_6 := htw (u_lay RX9 TX9 6) (jWc_wsX90 _ (u_in_lay (by decide)))
  have hly_11_7 := htw (u_lay RX9 TX9 7) (jWc_wsX90 _ (u_in_lay (by decide)))
  have hly_11_8 := htw (u_lay RX9 TX9 8) (jWc_wsX90 _ (u_in_lay (by decide)))
  have hlk_9 := (htw (.fieldLink RX9 9 "ProofServer$State" "symbols" "[I") (jWr_8 _ (List.mem_of_getElem? (i := 17) rfl)))
  have hlk_15 := (htw (.fieldLink RX9 15 "ProofServer$State" "factNames" "[I") (jWr_8 _ (List.mem_of_getElem? (i := 18) rfl)))
  have hlk_19 := (htw (.fieldLink RX9 19 "ProofServer$State" "facts" "[[I") (jWr_8 _ (List.mem_of_getElem? (i := 20) rfl)))
  have hlk_23 := (htw (.fieldLink RX9 23 "ProofServer$State" "lemma" "I") (jWr_8 _ (List.mem_of_getElem? (i := 21) rfl)))
  have hlk_27 := (htw (.fieldLink RX9 27 "ProofServer$State" "statement" "[I") (jWr_8 _ (List.mem_of_getElem? (i := 22) rfl)))
  have hlk_32 := (htw (.fieldLink RX9 32 "ProofServer$State" "goals" "[LProofServer$Goal;") (jWr_9 _ (List.mem_of_getElem? (i := 0) rfl)))
  have hlk_36 := (htw (.fieldLink RX9 36 "ProofServer$State" "ahead" "LProofServer$State;") (jWr_9 _ (List.mem_of_getElem? (i := 1) rfl)))
  have hlk_40 := (htw (.fieldLink RX9 40 "ProofServer$State" "units" "[I") (jWr_9 _ (List.mem_of_getElem? (i := 2) rfl)))
  have hbs : base ≤ s.heap.size := Nat.le_of_lt (Nat.lt_of_le_of_lt hbr0 hraw0.lt)
  have hRc : R.cells = LC - s.heap.size := by rw [← hR]; rfl
  have hRs : R.slots = LS - jTot s.heap := by rw [← hR]; rfl
  have hin2 : meth.name = "<init>" := (name_of_methodNamed Bd.named Bd.method).1
  have hkp : jKx r0 G0 G0 s.heap s.heap := jKx.rf
  refine lv_aload_n hx hb dX9_init__0 rfl (lv_at hl 0 rfl) ?_
  refine W.objInit hx hb hown (htw (.methodLink RX9 3 objectInit) (jWr_8 _ (List.mem_of_getElem? (i := 16) rfl))) (htw (.instanceMethod objectInit) (jWr_1 _ (List.mem_of_getElem? (i := 10) rfl))) (htw (.code objectInit ⟨#[0xb1]⟩ 1 none) (jWr_1 _ (List.mem_of_getElem? (i := 11) rfl))) rfl (by rw [hml]; exact hl.1) rfl dX9_init__1 (by rw [← hR]; exact Nat.le_of_ble_eq_true rfl) (by rw [← hR]; exact Nat.le_of_ble_eq_true rfl) ?_
  refine W.eq (g2 := F0 m 4 ls []) rfl ?_
  refine lv_aload_n hx hb dX9_init__4 rfl (lv_at hl 0 rfl) ?_
  refine lv_iconst (v := 0) hx hb dX9_init__5 (by decide) ?_
  have hsz_1 := hh.2.2.2.2.2.1
  have htt_1 := hh.2.2.2.2.2.2.1
  refine j7_newiK hx hb hK hh hB (atype := .int) (ty := .int) (htw (.arrayClass .int) (jWr_3 _ (List.mem_of_getElem? (i := 20) rfl))) rfl rfl (fun _ h => h) hB101 1 rfl (by decide) (by decide) hbs (x := 0) (by decide) (by omega) (fun j => by first | trivial | decide | rfl | exact Or.inl rfl | (refine ⟨?_, ?_⟩ <;> decide)) (by rw [hRc]; omega) (by rw [hRs]; omega) dX9_init__6 (fun H_1 hfr_1 hh_1 => ?_)
  have hh_1 : jSt (dC, dI) B base G0 (va_up G0 s.heap.size (some (101, 0))) EX9_init_ s.heap (0 + 1) (0 + 0) [] [] [(jFs11, jSef dC dI G0)] H_1 [] := hh_1
  have hM_1 : jNk [11] G0 (va_up G0 s.heap.size (some (101, 0))) := jNk.new (by decide)
  have hN_1 : (jNk [0, 1, 2, 3, 4, 5, 6, 7, 8, 9, 10, 12, 13, 14, 15, 16]) G0 (va_up G0 s.heap.size (some (101, 0))) := jNk.new (by decide)
  have hgn_1 : (va_up G0 s.heap.size (some (101, 0))) s.heap.size = some (101, 0) := jUp_self
  have hle_1 : jLe G0 (va_up G0 s.heap.size (some (101, 0))) := jLe.new hh.2.1.fresh
  have hke_1 : jKe G0 (va_up G0 s.heap.size (some (101, 0))) s.heap H_1 := jKe.new hfr_1
  have hsy_1 : s.heap.size ≤ s.heap.size := hh.1.1
  generalize (va_up G0 s.heap.size (some (101, 0))) = G_1 at hN_1 hgn_1 hle_1 hke_1 hh_1 hM_1
  clear hh
  have hNn_1 : (jNk [0, 1, 2, 3, 4, 5, 6, 7, 8, 9, 10, 12, 13, 14, 15, 16]) G0 G_1 := (jNk.rf).tr hN_1
  have hg_2 := hle_1 _ _ hg_r1
  have hg_3 := hle_1 _ _ hg_r2
  have hkp_4 := hkp.tr hke_1
  have hraw_5n := hke_1.nr hraw0.lt hnr0
  have hraw_5 := hraw0.kept (hke_1.1 _ hraw0.lt)
  have hd_6 := jSef.grow (hh_1.iv 0 rfl) hle_1 hM_1 (by decide)
  have hh_7 := hh_1.sub (L1 := []) [] rfl (M1 := []) [] rfl (I1 := []) [] rfl
  clear hh_1
  have hh_8 := hh_7.addI (jSef.ie hd_6)
  clear hh_7
  refine j7_putR hx hb hown hK hh_8 hB hAp hraw_5 hraw_5n hbr0 (C := RX9) (T := TX9) (N := 9) rfl (i := 3) (by decide) (Nat.le_of_ble_eq_true rfl) hly_11_3 rfl hlk_9 (ty := (.array .int)) (v := .ref s.heap.size) (by decide +kernel) rfl rfl dX9_init__8 (fun H_9 locs_9 hraw_9 hr_9 hh_9 => ?_)
  have hraw_9 : va_at (dC, dI) vwCl (r0, .inr (11, [.null, .null, .int 0, .ref s.heap.size, .null, .null, .int 0, .null, .null])) H_9 := hraw_9
  have hkp_10 := hkp_4.put hr_9
  clear hh_8
  refine lv_aload_n hx hb dX9_init__11 rfl (lv_at hl 0 rfl) ?_
  refine lv_iconst (v := 0) hx hb dX9_init__12 (by decide) ?_
  have hsz_11 := hh_9.2.2.2.2.2.1
  have htt_11 := hh_9.2.2.2.2.2.2.1
  refine j7_newiK hx hb hK hh_9 hB (atype := .int) (ty := .int) (htw (.arrayClass .int) (jWr_3 _ (List.mem_of_getElem? (i := 20) rfl))) rfl rfl (fun _ h => h) hB101 1 rfl (by decide) (by decide) hbs (x := 0) (by decide) (by omega) (fun j => by first | trivial | decide | rfl | exact Or.inl rfl | (refine ⟨?_, ?_⟩ <;> decide)) (by rw [hRc]; omega) (by rw [hRs]; omega) dX9_init__13 (fun H_11 hfr_11 hh_11 => ?_)
  have hh_11 : jSt (dC, dI) B base G0 (va_up G_1 H_9.size (some (101, 0))) EX9_init_ s.heap ((0 + 1) + 1) ((0 + 0) + 0) [] [] [(jFs11, jSef dC dI G_1)] H_11 locs_9 := hh_11
  have hM_11 : jNk [11] G_1 (va_up G_1 H_9.size (some (101, 0))) := jNk.new (by decide)
  have hN_11 : (jNk [0, 1, 2, 3, 4, 5, 6, 7, 8, 9, 10, 12, 13, 14, 15, 16]) G_1 (va_up G_1 H_9.size (some (101, 0))) := jNk.new (by decide)
  have hgn_11 : (va_up G_1 H_9.size (some (101, 0))) H_9.size = some (101, 0) := jUp_self
  have hle_11 : jLe G_1 (va_up G_1 H_9.size (some (101, 0))) := jLe.new hh_9.2.1.fresh
  have hke_11 : jKe G_1 (va_up G_1 H_9.size (some (101, 0))) H_9 H_11 := jKe.new hfr_11
  have hsy_11 : s.heap.size ≤ H_9.size := hh_9.1.1
  generalize (va_up G_1 H_9.size (some (101, 0))) = G_11 at hN_11 hgn_11 hle_11 hke_11 hh_11 hM_11
  clear hh_9
  have hNn_11 : (jNk [0, 1, 2, 3, 4, 5, 6, 7, 8, 9, 10, 12, 13, 14, 15, 16]) G0 G_11 := (hNn_1).tr hN_11
  have hg_12 := hle_11 _ _ hg_2
  have hg_13 := hle_11 _ _ hg_3
  have hkp_14 := hkp_10.tr hke_11
  have hraw_15n := hke_11.nr hraw_9.lt hraw_5n
  have hraw_15 := hraw_9.kept (hke_11.1 _ hraw_9.lt)
  have hd_16 := jSef.grow (hh_11.iv 0 rfl) hle_11 hM_11 (by decide)
  have hh_17 := hh_11.sub (L1 := []) [] rfl (M1 := []) [] rfl (I1 := []) [] rfl
  clear hh_11
  have hh_18 := hh_17.addI (jSef.ie hd_16)
  clear hh_17
  refine j7_putR hx hb hown hK hh_18 hB hAp hraw_15 hraw_15n hbr0 (C := RX9) (T := TX9) (N := 9) rfl (i := 4) (by decide) (Nat.le_of_ble_eq_true rfl) hly_11_4 rfl hlk_15 (ty := (.array .int)) (v := .ref H_9.size) (by decide +kernel) rfl rfl dX9_init__15 (fun H_19 locs_19 hraw_19 hr_19 hh_19 => ?_)
  have hraw_19 : va_at (dC, dI) vwCl (r0, .inr (11, [.null, .null, .int 0, .ref s.heap.size, .ref H_9.size, .null, .int 0, .null, .null])) H_19 := hraw_19
  have hkp_20 := hkp_14.put hr_19
  clear hh_18
  refine lv_aload_n hx hb dX9_init__18 rfl (lv_at hl 0 rfl) ?_
  refine lv_iconst (v := 0) hx hb dX9_init__19 (by decide) ?_
  have hsz_21 := hh_19.2.2.2.2.2.1
  have htt_21 := hh_19.2.2.2.2.2.2.1
  have hsy_21 : s.heap.size ≤ H_19.size := hh_19.1.1
  refine j7_newa0 hx hb hown (show (Cond.classLink RX9 18 (FieldType.array .int).toString).before _ s = true from htw (.classLink RX9 18 "[I") (jWr_8 _ (List.mem_of_getElem? (i := 19) rfl))) hK5 hh_19 hB hB313 (by decide) hbs (by decide) (by rw [hRc]; omega) (by rw [hRs]; omega) dX9_init__20 (fun H_21 hfr_21 hh_21 => ?_)
  have hh_21 : jSt (dC, dI) B base G0 (va_up G_11 H_19.size (some (313, 0))) EX9_init_ s.heap (((0 + 1) + 1) + 1) (((0 + 0) + 0) + 0) [] [] [(jFs11, jSef dC dI G_11)] H_21 locs_19 := hh_21
  have hM_21 : jNk [11] G_11 (va_up G_11 H_19.size (some (313, 0))) := jNk.new (by decide)
  have hN_21 : (jNk [0, 1, 2, 3, 4, 5, 6, 7, 8, 9, 10, 12, 13, 14, 15, 16]) G_11 (va_up G_11 H_19.size (some (313, 0))) := jNk.new (by decide)
  have hgn_21 : (va_up G_11 H_19.size (some (313, 0))) H_19.size = some (313, 0) := jUp_self
  have hle_21 : jLe G_11 (va_up G_11 H_19.size (some (313, 0))) := jLe.new hh_19.2.1.fresh
  have hke_21 : jKe G_11 (va_up G_11 H_19.size (some (313, 0))) H_19 H_21 := jKe.new hfr_21
  have hsy_21 : s.heap.size ≤ H_19.size := hh_19.1.1
  generalize (va_up G_11 H_19.size (some (313, 0))) = G_21 at hN_21 hgn_21 hle_21 hke_21 hh_21 hM_21
  clear hh_19
  have hNn_21 : (jNk [0, 1, 2, 3, 4, 5, 6, 7, 8, 9, 10, 12, 13, 14, 15, 16]) G0 G_21 := (hNn_11).tr hN_21
  have hg_22 := hle_21 _ _ hg_12
  have hg_23 := hle_21 _ _ hg_13
  have hkp_24 := hkp_20.tr hke_21
  have hraw_25n := hke_21.nr hraw_19.lt hraw_15n
  have hraw_25 := hraw_19.kept (hke_21.1 _ hraw_19.lt)
  have hd_26 := jSef.grow (hh_21.iv 0 rfl) hle_21 hM_21 (by decide)
  have hh_27 := hh_21.sub (L1 := []) [] rfl (M1 := []) [] rfl (I1 := []) [] rfl
  clear hh_21
  have hh_28 := hh_27.addI (jSef.ie hd_26)
  clear hh_27
  refine j7_putR hx hb hown hK hh_28 hB hAp hraw_25 hraw_25n hbr0 (C := RX9) (T := TX9) (N := 9) rfl (i := 5) (by decide) (Nat.le_of_ble_eq_true rfl) hly_11_5 rfl hlk_19 (ty := (.array (.array .int))) (v := .ref H_19.size) (by decide +kernel) rfl rfl dX9_init__23 (fun H_29 locs_29 hraw_29 hr_29 hh_29 => ?_)
  have hraw_29 : va_at (dC, dI) vwCl (r0, .inr (11, [.null, .null, .int 0, .ref s.heap.size, .ref H_9.size, .ref H_19.size, .int 0, .null, .null])) H_29 := hraw_29
  have hkp_30 := hkp_24.put hr_29
  clear hh_28
  refine lv_aload_n hx hb dX9_init__26 rfl (lv_at hl 0 rfl) ?_
  refine lv_iconst (v := (-1)) hx hb dX9_init__27 (by decide) ?_
  refine j7_putR hx hb hown hK hh_29 hB hAp hraw_29 hraw_25n hbr0 (C := RX9) (T := TX9) (N := 9) rfl (i := 6) (by decide) (Nat.le_of_ble_eq_true rfl) hly_11_6 rfl hlk_23 (ty := .int) (v := .int (-1)) (by decide +kernel) rfl rfl dX9_init__28 (fun H_31 locs_31 hraw_31 hr_31 hh_31 => ?_)
  have hraw_31 : va_at (dC, dI) vwCl (r0, .inr (11, [.null, .null, .int 0, .ref s.heap.size, .ref H_9.size, .ref H_19.size, .int (-1), .null, .null])) H_31 := hraw_31
  have hkp_32 := hkp_30.put hr_31
  clear hh_29
  refine lv_aload_n hx hb dX9_init__31 rfl (lv_at hl 0 rfl) ?_
  refine lv_iconst (v := 0) hx hb dX9_init__32 (by decide) ?_
  have hsz_33 := hh_31.2.2.2.2.2.1
  have htt_33 := hh_31.2.2.2.2.2.2.1
  refine j7_newiK hx hb hK hh_31 hB (atype := .int) (ty := .int) (htw (.arrayClass .int) (jWr_3 _ (List.mem_of_getElem? (i := 20) rfl))) rfl rfl (fun _ h => h) hB280 1 rfl (by decide) (by decide) hbs (x := 0) (by decide) (by omega) (fun j => by first | trivial | decide | rfl | exact Or.inl rfl | (refine ⟨?_, ?_⟩ <;> decide)) (by rw [hRc]; omega) (by rw [hRs]; omega) dX9_init__33 (fun H_33 hfr_33 hh_33 => ?_)
  have hh_33 : jSt (dC, dI) B base G0 (va_up G_21 H_31.size (some (280, 0))) EX9_init_ s.heap ((((0 + 1) + 1) + 1) + 1) ((((0 + 0) + 0) + 0) + 0) [] [] [(jFs11, jSef dC dI G_21)] H_33 locs_31 := hh_33
  have hM_33 : jNk [11] G_21 (va_up G_21 H_31.size (some (280, 0))) := jNk.new (by decide)
  have hN_33 : (jNk [0, 1, 2, 3, 4, 5, 6, 7, 8, 9, 10, 12, 13, 14, 15, 16]) G_21 (va_up G_21 H_31.size (some (280, 0))) := jNk.new (by decide)
  have hgn_33 : (va_up G_21 H_31.size (some (280, 0))) H_31.size = some (280, 0) := jUp_self
  have hle_33 : jLe G_21 (va_up G_21 H_31.size (some (280, 0))) := jLe.new hh_31.2.1.fresh
  have hke_33 : jKe G_21 (va_up G_21 H_31.size (some (280, 0))) H_31 H_33 := jKe.new hfr_33
  have hsy_33 : s.heap.size ≤ H_31.size := hh_31.1.1
  generalize (va_up G_21 H_31.size (some (280, 0))) = G_33 at hN_33 hgn_33 hle_33 hke_33 hh_33 hM_33
  clear hh_31
  have hNn_33 : (jNk [0, 1, 2, 3, 4, 5, 6, 7, 8, 9, 10, 12, 13, 14, 15, 16]) G0 G_33 := (hNn_21).tr hN_33
  have hg_34 := hle_33 _ _ hg_22
  have hg_35 := hle_33 _ _ hg_23
  have hkp_36 := hkp_32.tr hke_33
  have hraw_37n := hke_33.nr hraw_31.lt hraw_25n
  have hraw_37 := hraw_31.kept (hke_33.1 _ hraw_31.lt)
  have hd_38 := jSef.grow (hh_33.iv 0 rfl) hle_33 hM_33 (by decide)
  have hh_39 := hh_33.sub (L1 := []) [] rfl (M1 := []) [] rfl (I1 := []) [] rfl
  clear hh_33
  have hh_40 := hh_39.addI (jSef.ie hd_38)
  clear hh_39
  refine j7_putR hx hb hown hK hh_40 hB hAp hraw_37 hraw_37n hbr0 (C := RX9) (T := TX9) (N := 9) rfl (i := 7) (by decide) (Nat.le_of_ble_eq_true rfl) hly_11_7 rfl hlk_27 (ty := (.array .int)) (v := .ref H_31.size) (by decide +kernel) rfl rfl dX9_init__35 (fun H_41 locs_41 hraw_41 hr_41 hh_41 => ?_)
  have hraw_41 : va_at (dC, dI) vwCl (r0, .inr (11, [.null, .null, .int 0, .ref s.heap.size, .ref H_9.size, .ref H_19.size, .int (-1), .ref H_31.size, .null])) H_41 := hraw_41
  have hkp_42 := hkp_36.put hr_41
  clear hh_40
  refine lv_aload_n hx hb dX9_init__38 rfl (lv_at hl 0 rfl) ?_
  refine lv_iconst (v := 0) hx hb dX9_init__39 (by decide) ?_
  have hsz_43 := hh_41.2.2.2.2.2.1
  have htt_43 := hh_41.2.2.2.2.2.2.1
  have hsy_43 : s.heap.size ≤ H_41.size := hh_41.1.1
  refine j7_newq0 hx hb hown (htw (.classLink RX9 30 RX3) (jWr_8 _ (List.mem_of_getElem? (i := 23) rfl))) hK6.2.2.2 hK2 hh_41 hB hB214 3 rfl (by decide) hbs (by decide) (by rw [hRc]; omega) (by rw [hRs]; omega) dX9_init__40 (fun H_43 hfr_43 hh_43 => ?_)
  have hh_43 : jSt (dC, dI) B base G0 (va_up G_33 H_41.size (some (214, 0))) EX9_init_ s.heap (((((0 + 1) + 1) + 1) + 1) + 1) (((((0 + 0) + 0) + 0) + 0) + 0) [] [] [(jFs11, jSef dC dI G_33)] H_43 locs_41 := hh_43
  have hM_43 : jNk [11] G_33 (va_up G_33 H_41.size (some (214, 0))) := jNk.new (by decide)
  have hN_43 : (jNk [0, 1, 2, 3, 4, 5, 6, 7, 8, 9, 10, 12, 13, 14, 15, 16]) G_33 (va_up G_33 H_41.size (some (214, 0))) := jNk.new (by decide)
  have hgn_43 : (va_up G_33 H_41.size (some (214, 0))) H_41.size = some (214, 0) := jUp_self
  have hle_43 : jLe G_33 (va_up G_33 H_41.size (some (214, 0))) := jLe.new hh_41.2.1.fresh
  have hke_43 : jKe G_33 (va_up G_33 H_41.size (some (214, 0))) H_41 H_43 := jKe.new hfr_43
  have hsy_43 : s.heap.size ≤ H_41.size := hh_41.1.1
  generalize (va_up G_33 H_41.size (some (214, 0))) = G_43 at hN_43 hgn_43 hle_43 hke_43 hh_43 hM_43
  clear hh_41
  have hNn_43 : (jNk [0, 1, 2, 3, 4, 5, 6, 7, 8, 9, 10, 12, 13, 14, 15, 16]) G0 G_43 := (hNn_33).tr hN_43
  have hg_44 := hle_43 _ _ hg_34
  have hg_45 := hle_43 _ _ hg_35
  have hkp_46 := hkp_42.tr hke_43
  have hraw_47n := hke_43.nr hraw_41.lt hraw_37n
  have hraw_47 := hraw_41.kept (hke_43.1 _ hraw_41.lt)
  have hd_48 := jSef.grow (hh_43.iv 0 rfl) hle_43 hM_43 (by decide)
  have hh_49 := hh_43.sub (L1 := []) [] rfl (M1 := []) [] rfl (I1 := []) [] rfl
  clear hh_43
  have hh_50 := hh_49.addI (jSef.ie hd_48)
  clear hh_49
  refine j7_putR hx hb hown hK hh_50 hB hAp hraw_47 hraw_47n hbr0 (C := RX9) (T := TX9) (N := 9) rfl (i := 8) (by decide) (Nat.le_of_ble_eq_true rfl) hly_11_8 rfl hlk_32 (ty := (.array (.object "ProofServer$Goal"))) (v := .ref H_41.size) (by decide +kernel) rfl rfl dX9_init__43 (fun H_51 locs_51 hraw_51 hr_51 hh_51 => ?_)
  have hraw_51 : va_at (dC, dI) vwCl (r0, .inr (11, [.null, .null, .int 0, .ref s.heap.size, .ref H_9.size, .ref H_19.size, .int (-1), .ref H_31.size, .ref H_41.size])) H_51 := hraw_51
  have hkp_52 := hkp_46.put hr_51
  clear hh_50
  refine lv_aload_n hx hb dX9_init__46 rfl (lv_at hl 0 rfl) ?_
  refine lv_aload_n hx hb dX9_init__47 rfl (lv_at hl 1 rfl) ?_
  refine j7_putRF hx hb hown hK hh_51 hB hAp hraw_51 hraw_47n hbr0 (C := RX9) (T := TX9) (N := 9) rfl (i := 0) (by decide) (Nat.le_of_ble_eq_true rfl) hly_11_0 rfl hin2 rfl hlk_36 (ty := (.object "ProofServer$State")) (v := .ref r1) (by decide +kernel) rfl rfl dX9_init__48 (fun H_53 locs_53 hraw_53 hr_53 hh_53 => ?_)
  have hraw_53 : va_at (dC, dI) vwCl (r0, .inr (11, [.ref r1, .null, .int 0, .ref s.heap.size, .ref H_9.size, .ref H_19.size, .int (-1), .ref H_31.size, .ref H_41.size])) H_53 := hraw_53
  have hkp_54 := hkp_52.put hr_53
  clear hh_51
  refine lv_aload_n hx hb dX9_init__51 rfl (lv_at hl 0 rfl) ?_
  refine lv_aload_n hx hb dX9_init__52 rfl (lv_at hl 2 rfl) ?_
  refine j7_putRF hx hb hown hK hh_53 hB hAp hraw_53 hraw_47n hbr0 (C := RX9) (T := TX9) (N := 9) rfl (i := 1) (by decide) (Nat.le_of_ble_eq_true rfl) hly_11_1 rfl hin2 rfl hlk_40 (ty := (.array .int)) (v := .ref r2) (by decide +kernel) rfl rfl dX9_init__53 (fun H_55 locs_55 hraw_55 hr_55 hh_55 => ?_)
  have hraw_55 : va_at (dC, dI) vwCl (r0, .inr (11, [.ref r1, .ref r2, .int 0, .ref s.heap.size, .ref H_9.size, .ref H_19.size, .int (-1), .ref H_31.size, .ref H_41.size])) H_55 := hraw_55
  have hkp_56 := hkp_54.put hr_55
  clear hh_53
  obtain ⟨sx_57, sy_57, sm_57, hs1_57, hs2_57, hg_sx_57, hg_sy_57, hsm_57⟩ := (hh_55.iv 0 rfl) _ hg_44
  have hh_58 := hh_55.more (P1 := [(r1, 11, 4, .ref sx_57), (r1, 11, 5, .ref sy_57)]) (jP.cons hg_44 hs1_57 (jP.cons hg_44 hs2_57 jP.nil))
  clear hh_55 hs1_57 hs2_57
  refine lv_aload_n hx hb dX9_init__56 rfl (lv_at hl 0 rfl) ?_
  refine lv_aload_n hx hb dX9_init__57 rfl (lv_at hl 1 rfl) ?_
  obtain ⟨v_59, hv_59, hh_60⟩ := hh_58.pin (C := RX9) (T := TX9) (N := 9) hB11 rfl (by decide) hg_44 (i := 3) (by decide) rfl
  clear hh_58
  obtain ⟨symbols_61, nsymbols_61, rfl, hg_symbols_61, hn_symbols_61⟩ := hv_59
  refine j7_read hx hb hown hK (C := RX9) (T := TX9) (N := 9) rfl hly_11_3 hlk_9 (hh_60.at 0 rfl) dX9_init__58 ?_
  refine j7_putR hx hb hown hK hh_60 hB hAp hraw_55 hraw_47n hbr0 (C := RX9) (T := TX9) (N := 9) rfl (i := 3) (by decide) (Nat.le_of_ble_eq_true rfl) hly_11_3 rfl hlk_9 (ty := (.array .int)) (v := .ref symbols_61) (by decide +kernel) rfl rfl dX9_init__61 (fun H_62 locs_62 hraw_62 hr_62 hh_62 => ?_)
  have hraw_62 : va_at (dC, dI) vwCl (r0, .inr (11, [.ref r1, .ref r2, .int 0, .ref symbols_61, .ref H_9.size, .ref H_19.size, .int (-1), .ref H_31.size, .ref H_41.size])) H_62 := hraw_62
  have hkp_63 := hkp_56.put hr_62
  clear hh_60
  refine lv_aload_n hx hb dX9_init__64 rfl (lv_at hl 0 rfl) ?_
  refine lv_aload_n hx hb dX9_init__65 rfl (lv_at hl 1 rfl) ?_
  refine j7_read hx hb hown hK (C := RX9) (T := TX9) (N := 9) rfl hly_11_4 hlk_15 (hh_62.at 1 rfl) dX9_init__66 ?_
  refine j7_putR hx hb hown hK hh_62 hB hAp hraw_62 hraw_47n hbr0 (C := RX9) (T := TX9) (N := 9) rfl (i := 4) (by decide) (Nat.le_of_ble_eq_true rfl) hly_11_4 rfl hlk_15 (ty := (.array .int)) (v := .ref sx_57) (by decide +kernel) rfl rfl dX9_init__69 (fun H_64 locs_64 hraw_64 hr_64 hh_64 => ?_)
  have hraw_64 : va_at (dC, dI) vwCl (r0, .inr (11, [.ref r1, .ref r2, .int 0, .ref symbols_61, .ref sx_57, .ref H_19.size, .int (-1), .ref H_31.size, .ref H_41.size])) H_64 := hraw_64
  have hkp_65 := hkp_63.put hr_64
  clear hh_62
  refine lv_aload_n hx hb dX9_init__72 rfl (lv_at hl 0 rfl) ?_
  refine lv_aload_n hx hb dX9_init__73 rfl (lv_at hl 1 rfl) ?_
  refine j7_read hx hb hown hK (C := RX9) (T := TX9) (N := 9) rfl hly_11_5 hlk_19 (hh_64.at 2 rfl) dX9_init__74 ?_
  refine j7_putR hx hb hown hK hh_64 hB hAp hraw_64 hraw_47n hbr0 (C := RX9) (T := TX9) (N := 9) rfl (i := 5) (by decide) (Nat.le_of_ble_eq_true rfl) hly_11_5 rfl hlk_19 (ty := (.array (.array .int))) (v := .ref sy_57) (by decide +kernel) rfl rfl dX9_init__77 (fun H_66 locs_66 hraw_66 hr_66 hh_66 => ?_)
  have hraw_66 : va_at (dC, dI) vwCl (r0, .inr (11, [.ref r1, .ref r2, .int 0, .ref symbols_61, .ref sx_57, .ref sy_57, .int (-1), .ref H_31.size, .ref H_41.size])) H_66 := hraw_66
  have hkp_67 := hkp_65.put hr_66
  clear hh_64
  refine lv_aload_n hx hb dX9_init__80 rfl (lv_at hl 0 rfl) ?_
  refine lv_aload_n hx hb dX9_init__81 rfl (lv_at hl 1 rfl) ?_
  obtain ⟨v_68, hv_68, hh_69⟩ := hh_66.pin (C := RX9) (T := TX9) (N := 9) hB11 rfl (by decide) hg_44 (i := 6) (by decide) rfl
  clear hh_66
  obtain ⟨lemma_70, rfl⟩ := hv_68
  refine j7_read hx hb hown hK (C := RX9) (T := TX9) (N := 9) rfl hly_11_6 hlk_23 (hh_69.at 0 rfl) dX9_init__82 ?_
  refine j7_putR hx hb hown hK hh_69 hB hAp hraw_66 hraw_47n hbr0 (C := RX9) (T := TX9) (N := 9) rfl (i := 6) (by decide) (Nat.le_of_ble_eq_true rfl) hly_11_6 rfl hlk_23 (ty := .int) (v := .int lemma_70) (by decide +kernel) rfl rfl dX9_init__85 (fun H_71 locs_71 hraw_71 hr_71 hh_71 => ?_)
  have hraw_71 : va_at (dC, dI) vwCl (r0, .inr (11, [.ref r1, .ref r2, .int 0, .ref symbols_61, .ref sx_57, .ref sy_57, .int lemma_70, .ref H_31.size, .ref H_41.size])) H_71 := hraw_71
  have hkp_72 := hkp_67.put hr_71
  clear hh_69
  refine lv_aload_n hx hb dX9_init__88 rfl (lv_at hl 0 rfl) ?_
  refine lv_aload_n hx hb dX9_init__89 rfl (lv_at hl 1 rfl) ?_
  obtain ⟨v_73, hv_73, hh_74⟩ := hh_71.pin (C := RX9) (T := TX9) (N := 9) hB11 rfl (by decide) hg_44 (i := 7) (by decide) rfl
  clear hh_71
  obtain ⟨statement_75, nstatement_75, rfl, hg_statement_75, hn_statement_75⟩ := hv_73
  refine j7_read hx hb hown hK (C := RX9) (T := TX9) (N := 9) rfl hly_11_7 hlk_27 (hh_74.at 0 rfl) dX9_init__90 ?_
  refine j7_putR hx hb hown hK hh_74 hB hAp hraw_71 hraw_47n hbr0 (C := RX9) (T := TX9) (N := 9) rfl (i := 7) (by decide) (Nat.le_of_ble_eq_true rfl) hly_11_7 rfl hlk_27 (ty := (.array .int)) (v := .ref statement_75) (by decide +kernel) rfl rfl dX9_init__93 (fun H_76 locs_76 hraw_76 hr_76 hh_76 => ?_)
  have hraw_76 : va_at (dC, dI) vwCl (r0, .inr (11, [.ref r1, .ref r2, .int 0, .ref symbols_61, .ref sx_57, .ref sy_57, .int lemma_70, .ref statement_75, .ref H_41.size])) H_76 := hraw_76
  have hkp_77 := hkp_72.put hr_76
  clear hh_74
  refine lv_aload_n hx hb dX9_init__96 rfl (lv_at hl 0 rfl) ?_
  refine lv_aload_n hx hb dX9_init__97 rfl (lv_at hl 1 rfl) ?_
  obtain ⟨v_78, hv_78, hh_79⟩ := hh_76.pin (C := RX9) (T := TX9) (N := 9) hB11 rfl (by decide) hg_44 (i := 8) (by decide) rfl
  clear hh_76
  obtain ⟨goals_80, ngoals_80, rfl, hg_goals_80, hn_goals_80⟩ := hv_78
  refine j7_read hx hb hown hK (C := RX9) (T := TX9) (N := 9) rfl hly_11_8 hlk_32 (hh_79.at 0 rfl) dX9_init__98 ?_
  refine j7_putR hx hb hown hK hh_79 hB hAp hraw_76 hraw_47n hbr0 (C := RX9) (T := TX9) (N := 9) rfl (i := 8) (by decide) (Nat.le_of_ble_eq_true rfl) hly_11_8 rfl hlk_32 (ty := (.array (.object "ProofServer$Goal"))) (v := .ref goals_80) (by decide +kernel) rfl rfl dX9_init__101 (fun H_81 locs_81 hraw_81 hr_81 hh_81 => ?_)
  have hraw_81 : va_at (dC, dI) vwCl (r0, .inr (11, [.ref r1, .ref r2, .int 0, .ref symbols_61, .ref sx_57, .ref sy_57, .int lemma_70, .ref statement_75, .ref goals_80])) H_81 := hraw_81
  have hkp_82 := hkp_77.put hr_81
  clear hh_79
  have hsz_83 := hh_81.2.2.2.2.2.1
  have htt_83 := hh_81.2.2.2.2.2.2.1
  refine W.room (fun hrc_83 hrs_83 => ?_)
  refine W.widen (k := LC - s.heap.size) (n := LS - jTot s.heap) (by omega) (by omega) ?_
  rw [hQ]
  have hd_84 := jSef.typ (n := 0) (hh_81.iv 0 rfl) hraw_47n ⟨sx_57, sy_57, sm_57, jf.raw (C := RX9) (T := TX9) (N := 9) rfl hraw_81 (i := 4) (by decide), jf.raw (C := RX9) (T := TX9) (N := 9) rfl hraw_81 (i := 5) (by decide), (jLe.rf) _ _ hg_sx_57, (jLe.rf) _ _ hg_sy_57, by omega⟩
  have hh_85 := hh_81.sub (L1 := [(r1, 11, 8, .ref goals_80), (r1, 11, 7, .ref statement_75), (r1, 11, 6, .int lemma_70), (r1, 11, 3, .ref symbols_61), (r1, 11, 4, .ref sx_57), (r1, 11, 5, .ref sy_57)]) [0, 1, 2, 3, 4, 5] rfl (M1 := []) [] rfl (I1 := []) [] rfl
  clear hh_81
  have hle_86 : jLe G_43 (va_up G_43 r0 (some (11, 0))) := jLe.typ hraw_47n
  have hg_87 := hle_86 _ _ hg_44
  have hg_88 := hle_86 _ _ hg_45
  have hg_89 := hle_86 _ _ hg_goals_80
  have hg_90 := hle_86 _ _ hg_statement_75
  have hg_91 := hle_86 _ _ hg_symbols_61
  have hg_92 := hle_86 _ _ hg_sx_57
  have hg_93 := hle_86 _ _ hg_sy_57
  have hg_94 := (jLe.rf).tr hle_86 _ _ hg_44
  have hg_95 := (jLe.rf).tr hle_86 _ _ hg_45
  have hg_96 := (jLe.rf).tr hle_86 _ _ hg_symbols_61
  have hg_97 := (jLe.rf).tr hle_86 _ _ hg_sx_57
  have hg_98 := (jLe.rf).tr hle_86 _ _ hg_sy_57
  have hg_99 := (jLe.rf).tr hle_86 _ _ hg_statement_75
  have hg_100 := (jLe.rf).tr hle_86 _ _ hg_goals_80
  have hfa_86 : jRn (va_up G_43 r0 (some (11, 0))) 11 0 (.ref r1) ∧ jRk (va_up G_43 r0 (some (11, 0))) 101 1500 (.ref r2) ∧ jIa (.int 0) ∧ jRk (va_up G_43 r0 (some (11, 0))) 101 16 (.ref symbols_61) ∧ jRk (va_up G_43 r0 (some (11, 0))) 101 16 (.ref sx_57) ∧ jRk (va_up G_43 r0 (some (11, 0))) 313 16 (.ref sy_57) ∧ jIa (.int lemma_70) ∧ jRk (va_up G_43 r0 (some (11, 0))) 280 80 (.ref statement_75) ∧ jRk (va_up G_43 r0 (some (11, 0))) 214 6 (.ref goals_80) ∧ True := ⟨Or.inr ⟨_, rfl, hg_94⟩, ⟨_, _, rfl, hg_95, by omega⟩, ⟨_, rfl⟩, ⟨_, _, rfl, hg_96, by omega⟩, ⟨_, _, rfl, hg_97, by omega⟩, ⟨_, _, rfl, hg_98, by omega⟩, ⟨_, rfl⟩, ⟨_, _, rfl, hg_99, by omega⟩, ⟨_, _, rfl, hg_100, by omega⟩, trivial⟩
  have hh_86 := hh_85.typ (k := 11) (n := 0) hB hraw_47n hbr0 hraw_81.lt (jOb.of (C := RX9) (T := TX9) (N := 9) (F := F11) hB11 rfl hraw_81 (show jFx (F11 0 (va_up G_43 r0 (some (11, 0)))) [.ref r1, .ref r2, .int 0, .ref symbols_61, .ref sx_57, .ref sy_57, .int lemma_70, .ref statement_75, .ref goals_80] from hfa_86))
  have hgn_86 : (va_up G_43 r0 (some (11, 0))) r0 = some (11, 0) := jUp_self
  have hN_86 : (jNk [0, 1, 2, 3, 4, 5, 6, 7, 8, 9, 10, 12, 13, 14, 15, 16]) G_43 (va_up G_43 r0 (some (11, 0))) := jNk.new (by decide)
  have hNn_86 : (jNk [0, 1, 2, 3, 4, 5, 6, 7, 8, 9, 10, 12, 13, 14, 15, 16]) G0 (va_up G_43 r0 (some (11, 0))) := (hNn_43).tr hN_86
  have hkp_101 := hkp_82.typ (t := some (11, 0))
  have hh_102 := hh_86.addI (jSef.ie hd_84)
  clear hh_86
  exact W.vret hx hb hr (fun t ht hW => ⟨⟨(va_up G_43 r0 (some (11, 0))), rfl, trivial, ⟨hh_102.ra (by first | omega | (simp only; omega)) (by first | omega | (simp only; omega)) (M1 := []) [] rfl ht, hNn_86, hgn_86, by rw [ht]; exact hkp_101, by rw [ht]; exact hh_102.2.2.2.2.2.2.2.2.sub (L1 := [(jFs11, jSef dC dI (va_up G_43 r0 (some (11, 0))))]) [0] rfl⟩⟩, by rw [ht]; try exact hh_102.1.1, fun q h9 hq => by rw [ht]; try exact hh_102.1.2.1 q h9 hq⟩) hh_102.1.2.2 dX9_init__104
set_option maxHeartbeats 4000000 in
set_option maxRecDepth 20000 in
theorem uX5_named (l : Launch) (dC : Nat → ClassId) (dI : Nat → Nat → Nat) (ca : Nat → ClassId) (base : Nat) (B : jF) (hB : jBok B) (hAp : jAp (dC, dI)) (hB5 : ∀ n G a H, B 5 n G a H ↔ jOb (dC, dI) 5 4 (F5 n G) a H) (hB11 : ∀ n G a H, B 11 n G a H ↔ jOb (dC, dI) 11 9 (F11 n G) a H) (hB101 : ∀ n G a H, B 101 n G a H ↔ jAr (dC, dI) (ca 1) (fun j z => True) n a H) (hB280 : ∀ n G a H, B 280 n G a H ↔ jAr (dC, dI) (ca 1) (fun j z => -1 ≤ z.toInt) n a H) (hB313 : ∀ n G a H, B 313 n G a H ↔ jAq (dC, dI) (ca 8) (jQk 280 80) n G a H) (G0 : jT) (H0 : Heap) (r0 : Nat) (r1 : Nat) (a2 : Int32) (n1 : Nat) : Met l yX5_named (jw yX5_named cX5_named 5 (some (.array .int))) ({ frames := 1, cells := 0, slots := 0, locals := 22 }) (va_Pc [.ref r0, .ref r1, .int a2] (fun U => U.heap = H0 ∧ jX B base G0 [] H0 ∧ jG dC dI ca base U ∧ jK5 dC dI ca U ∧ G0 r0 = some (11, 0) ∧ G0 r1 = some (5, n1) ∧ jP (dC, dI) G0 H0 [] ∧ jIs (dC, dI) G0 H0 [(jFs11, jSef dC dI G0)] ∧ n1 % 10 = 1)) (jQx (S := Unit) (fun v u => jRm G0 280 80 v) (fun u t => (jRt (dC, dI) B base G0 EX5_named H0 [] t.heap) ∧ jIs (dC, dI) G0 t.heap [(jFs11, jSef dC dI G0)]) (jA base)) 0 0 (jA base) := by
  refine Met.ofW (cc := cX5_named) (maxL := 5) (ret := (some (.array .int))) (by decide) rfl ?_
  intro p e s m args below meth c s₁ Bd hml hv
  obtain ⟨rfl, hH0, hX, hG, hK5, hg_r0, hg_r1, hP0, hI0, hp0⟩ := hv
  have hK := hG.1
  have hx := Bd.exec
  have hb := Bd.bytes
  have hr := Bd.returns
  have hts := atoms_spec (ws := (jw yX5_named cX5_named 5 (some (.array .int)))) Bd.pre
  have htw : ∀ w ∈ jWl, w.before _ s = true := fun w h => hts w (List.mem_cons_of_mem _ h)
  have hown : s.vm.findClass RX5 = some m.cls := findClass_of_methodNamed Bd.named
  have hlocks := Bd.notSynchronized
  obtain ⟨Q, hQ⟩ : ∃ Q, Q = MQ below (jQx (S := Unit) (fun v u => jRm G0 280 80 v) (fun u t => (jRt (dC, dI) B base G0 EX5_named H0 [] t.heap) ∧ jIs (dC, dI) G0 t.heap [(jFs11, jSef dC dI G0)]) (jA base)) ([.ref r0, .ref r1, .int a2] : List Value).toArray s 0 0 (jA base) := ⟨_, rfl⟩
  rw [← hQ]
  have hl := lv_entry ([.ref r0, .ref r1, .int a2]) (n := 5) (Nat.le_of_ble_eq_true rfl)
  rw [lg_entry_eq]
  generalize (lg_sl ([.ref r0, .ref r1, .int a2]) ++ List.replicate (5 - (lg_sl ([.ref r0, .ref r1, .int a2])).length) Slot.unset).toArray = ls at hl ⊢
  have hl : lv_has ls 5 [(0, .ref r0), (1, .ref r1), (2, .int a2)] := hl
  generalize hR : (headSpec (jw yX5_named cX5_named 5 (some (.array .int))) ({ frames := 1, cells := 0, slots := 0, locals := 22 })).room = R
  subst hH0
  have hh : jSt (dC, dI) B base G0 G0 EX5_named s.heap 0 0 [] [] [(jFs11, jSef dC dI G0)] s.heap [] := jSt.start hX hP0 jMc.nil hI0
  clear hX hP0
  have hkm1 : ((-1) : Int32).toInt = (-1) := by decide
  have hk0 : (0 : Int32).toInt = 0 := by decide
  have hk1 : (1 : Int32).toInt = 1 := by decide
  have hly_5_1 := htw (u_lay RX3 TX3 1) (jWc_wsX30 _ (u_in_lay (by decide)))
  have hly_5_2 := htw (u_lay RX3 TX3 2) (jWc_wsX30 _ (u_in_lay (by decide)))
  have hly_11_4 := htw (u_lay RX9 TX9 4) (jWc_wsX90 _ (u_in_lay (by decide)))
  have hly_11_5 := htw (u_lay RX9 TX9 5) (jWc_wsX90 _ (u_in_lay (by decide)))
  have hlk_164 := (htw (.fieldLink RX5 164 "ProofServer$Goal" "names" "[I") (jWr_81 _ (List.mem_of_getElem? (i := 16) rfl)))
  have hlk_180 := (htw (.fieldLink RX5 180 "ProofServer$Goal" "hypotheses" "[[I") (jWr_84 _ (List.mem_of_getElem? (i := 10) rfl)))
  have hlk_174 := (htw (.fieldLink RX5 174 "ProofServer$State" "factNames" "[I") (jWr_81 _ (List.mem_of_getElem? (i := 14) rfl)))
  have hlk_117 := (htw (.fieldLink RX5 117 "ProofServer$State" "facts" "[[I") (jWr_82 _ (List.mem_of_getElem? (i := 6) rfl)))
  have hrg_a2 := jb_rng a2
  obtain ⟨v_1, hv_1, hh_2⟩ := hh.pin (C := RX3) (T := TX3) (N := 4) hB5 rfl (by decide) hg_r1 (i := 2) (by decide) rfl
  obtain ⟨hypotheses_3, khypotheses_3, rfl, hg_hypotheses_3, hhahypotheses_3, hhbhypotheses_3, hhchypotheses_3, hhdhypotheses_3, hhehypotheses_3⟩ := hv_1
  obtain rfl : khypotheses_3 = 313 := hhbhypotheses_3 (by omega)
  refine lv_aload_n hx hb dX5_named_0 rfl (lv_at hl 1 rfl) ?_
  refine lv_ifnonnull (tgt := 8) hx hb dX5_named_1 (by decide) ?_
  refine lv_aload_n hx hb dX5_named_8 rfl (lv_at hl 1 rfl) ?_
  obtain ⟨v_4, hv_4, hh_5⟩ := hh_2.pin (C := RX3) (T := TX3) (N := 4) hB5 rfl (by decide) hg_r1 (i := 1) (by decide) rfl
  clear hh_2
  obtain ⟨names_6, rfl, hg_names_6⟩ := hv_4
  refine j7_read hx hb hown hK (C := RX3) (T := TX3) (N := 4) rfl hly_5_1 hlk_164 (hh_5.at 0 rfl) dX5_named_9 ?_
  refine lv_iload_n hx hb dX5_named_12 rfl (lv_at hl 2 rfl) ?_
  refine va_calli (A0 := jA base) (H0 := s.heap) (va_runS (As := [.ref names_6, .int a2]) (rest := []) ⟨hx, hb, hml, hown, hts⟩ (uX9_find l dC dI ca base B hB hAp hB101 G0 s.heap names_6 a2 (n1 / 10)) (va_cwS 2 hts (jgS (jWr_81 _ (List.mem_of_getElem? (i := 18) rfl)) (jWr_30 _ (List.mem_of_getElem? (i := 20) rfl)) (jWr_4 _ (List.mem_of_getElem? (i := 18) rfl)) (jWr_30 _ (List.mem_of_getElem? (i := 21) rfl))) rfl rfl rfl (by decide +kernel) ⟨by rw [← hR]; exact Nat.le_of_ble_eq_true rfl, by rw [← hR]; exact Nat.le_of_ble_eq_true rfl⟩) ⟨fun a U g mk q => by obtain ⟨q0, q1, q2, qK, q10, q11, q12⟩ := q; exact ⟨q0, q1, q2, jG.calling g mk a qK, q10, q11, q12⟩, fun U hU hW => ⟨rfl, hU, hh_5.2.1, hG.step hW hU hh_5.1, hg_names_6, jP.nil, by first | omega | rfl | assumption | decide | exact Or.inl rfl | exact Or.inr rfl | (simp only; omega)⟩⟩ rfl rfl hl.1 rfl (lv_room (Nat.le_of_ble_eq_true rfl)) dX5_named_13 ⟨Nat.zero_le _, Nat.zero_le _⟩) hh_5.1 (fun q _ h => h) (fun q h => h) (fun r_8 u_7 t_7 H_7 locs_7 ht_7 hvm_7 hr_8 hb_7 hz_7 hk_7 hS_7 => ?_)
  rw [ht_7] at hb_7
  obtain ⟨hb_71, hb_72, hb_73, hb_74, hb_75⟩ := hb_7
  have hh_7 : jSt (dC, dI) B base G0 G0 EX5_named s.heap 0 0 [(r1, 5, 1, .ref names_6), (r1, 5, 2, .ref hypotheses_3)] [] [(jFs11, jSef dC dI G0)] H_7 locs_7 := ((hh_5.call hb_71 hb_72 hb_73 hb_74 hS_7 rfl (L1 := [(r1, 5, 1, .ref names_6), (r1, 5, 2, .ref hypotheses_3)]) [0, 1] rfl rfl (M1 := []) [] rfl rfl (I1 := [(jFs11, jSef dC dI G0)]) [0] rfl rfl).more hb_75)
  clear hh_5 ht_7 hvm_7 hz_7 hk_7 hS_7 hb_71 hb_72 hb_73 hb_74 hb_75
  obtain ⟨hr_8_0, hr_8_1⟩ := hr_8
  refine lv_istore_n (lv' := [(3, .int r_8), (0, .ref r0), (1, .ref r1), (2, .int a2)]) hx hb dX5_named_16 rfl hl (by decide) rfl (fun ls hl => ?_)
  refine lv_aload_n hx hb dX5_named_17 rfl (lv_at hl 2 rfl) ?_
  refine lv_ifnull hx hb dX5_named_18 ?_
  refine lv_iload_n hx hb dX5_named_21 rfl (lv_at hl 0 rfl) ?_
  refine lv_if_lt (tgt := 32) hx hb dX5_named_22 (by decide) (fun c_9 => ?_) (fun c_9 => ?_)
  · skip
    have c_9' : r_8.toInt < 0 := jb_lt (rfl) ((by decide)) c_9
    obtain ⟨sx_10, sy_10, sm_10, hs1_10, hs2_10, hg_sx_10, hg_sy_10, hsm_10⟩ := (hh_7.iv 0 rfl) _ hg_r0
    have hh_11 := hh_7.more (P1 := [(r0, 11, 4, .ref sx_10), (r0, 11, 5, .ref sy_10)]) (jP.cons hg_r0 hs1_10 (jP.cons hg_r0 hs2_10 jP.nil))
    clear hh_7 hs1_10 hs2_10
    refine lv_aload_n hx hb dX5_named_32 rfl (lv_at hl 1 rfl) ?_
    refine j7_read hx hb hown hK (C := RX9) (T := TX9) (N := 9) rfl hly_11_4 hlk_174 (hh_11.at 0 rfl) dX5_named_33 ?_
    refine lv_iload_n hx hb dX5_named_36 rfl (lv_at hl 3 rfl) ?_
    refine va_calli (A0 := jA base) (H0 := s.heap) (va_runS (As := [.ref sx_10, .int a2]) (rest := []) ⟨hx, hb, hml, hown, hts⟩ (uX9_find l dC dI ca base B hB hAp hB101 G0 H_7 sx_10 a2 sm_10) (va_cwS 2 hts (jgS (jWr_81 _ (List.mem_of_getElem? (i := 18) rfl)) (jWr_30 _ (List.mem_of_getElem? (i := 20) rfl)) (jWr_4 _ (List.mem_of_getElem? (i := 18) rfl)) (jWr_30 _ (List.mem_of_getElem? (i := 21) rfl))) rfl rfl rfl (by decide +kernel) ⟨by rw [← hR]; exact Nat.le_of_ble_eq_true rfl, by rw [← hR]; exact Nat.le_of_ble_eq_true rfl⟩) ⟨fun a U g mk q => by obtain ⟨q0, q1, q2, qK, q10, q11, q12⟩ := q; exact ⟨q0, q1, q2, jG.calling g mk a qK, q10, q11, q12⟩, fun U hU hW => ⟨rfl, hU, hh_11.2.1, hG.step hW hU hh_11.1, hg_sx_10, jP.nil, by first | omega | rfl | assumption | decide | exact Or.inl rfl | exact Or.inr rfl | (simp only; omega)⟩⟩ rfl rfl hl.1 rfl (lv_room (Nat.le_of_ble_eq_true rfl)) dX5_named_37 ⟨Nat.zero_le _, Nat.zero_le _⟩) hh_11.1 (fun q _ h => h) (fun q h => h) (fun r_13 u_12 t_12 H_12 locs_12 ht_12 hvm_12 hr_13 hb_12 hz_12 hk_12 hS_12 => ?_)
    rw [ht_12] at hb_12
    obtain ⟨hb_121, hb_122, hb_123, hb_124, hb_125⟩ := hb_12
    have hh_12 : jSt (dC, dI) B base G0 G0 EX5_named s.heap 0 0 [(r0, 11, 4, .ref sx_10), (r0, 11, 5, .ref sy_10), (r1, 5, 1, .ref names_6), (r1, 5, 2, .ref hypotheses_3)] [] [(jFs11, jSef dC dI G0)] H_12 locs_12 := ((hh_11.call hb_121 hb_122 hb_123 hb_124 hS_12 rfl (L1 := [(r0, 11, 4, .ref sx_10), (r0, 11, 5, .ref sy_10), (r1, 5, 1, .ref names_6), (r1, 5, 2, .ref hypotheses_3)]) [0, 1, 2, 3] rfl rfl (M1 := []) [] rfl rfl (I1 := [(jFs11, jSef dC dI G0)]) [0] rfl rfl).more hb_125)
    clear hh_11 ht_12 hvm_12 hz_12 hk_12 hS_12 hb_121 hb_122 hb_123 hb_124 hb_125
    obtain ⟨hr_13_0, hr_13_1⟩ := hr_13
    refine lv_istore (lv' := [(4, .int r_13), (3, .int r_8), (0, .ref r0), (1, .ref r1), (2, .int a2)]) hx hb dX5_named_40 hl (by decide) rfl (fun ls hl => ?_)
    refine lv_iload hx hb dX5_named_42 (lv_at hl 0 rfl) ?_
    refine lv_if_ge (tgt := 51) hx hb dX5_named_44 (by decide) (fun c_14 => ?_) (fun c_14 => ?_)
    · skip
      have c_14' : r_13.toInt ≥ 0 := jb_ge (rfl) ((by decide)) c_14
      refine lv_aload_n hx hb dX5_named_51 rfl (lv_at hl 2 rfl) ?_
      refine j7_read hx hb hown hK (C := RX9) (T := TX9) (N := 9) rfl hly_11_5 hlk_117 (hh_12.at 1 rfl) dX5_named_52 ?_
      refine lv_iload hx hb dX5_named_55 (lv_at hl 0 rfl) ?_
      refine j7_qaldA hx hb hK5 hh_12 hB313 (by decide) hg_sy_10 (x := r_13.toInt) (rfl) (by omega) dX5_named_57 (fun o_15 ho_15 => ?_)
      obtain ⟨el_16, nel_16, rfl, hg_el_16, hn_el_16⟩ := ho_15
      simp only [va_rf]
      rw [hQ]
      exact W.aret (v := .ref el_16) hx hb hr (Or.inr ⟨_, rfl⟩) (Or.inr ⟨_, rfl⟩) (fun t ht hW => ⟨⟨.ref el_16, (), rfl, Or.inr ⟨_, _, rfl, hg_el_16, by omega⟩, ⟨hh_12.rt (M1 := []) [] rfl ht, by rw [ht]; exact hh_12.2.2.2.2.2.2.2.2.sub (L1 := [(jFs11, jSef dC dI G0)]) [0] rfl⟩⟩, by rw [ht]; try exact hh_12.1.1, fun q h9 hq => by rw [ht]; try exact hh_12.1.2.1 q h9 hq⟩) hh_12.1.2.2 dX5_named_58
    · skip
      have c_14' : r_13.toInt < 0 := jb_ge_n (rfl) ((by decide)) c_14
      refine lv_null hx hb dX5_named_47 ?_
      refine lv_goto (tgt := 58) hx hb dX5_named_48 (by decide) ?_
      rw [hQ]
      exact W.aret (v := .null) hx hb hr (Or.inr ⟨_, rfl⟩) (Or.inl rfl) (fun t ht hW => ⟨⟨.null, (), rfl, Or.inl rfl, ⟨hh_12.rt (M1 := []) [] rfl ht, by rw [ht]; exact hh_12.2.2.2.2.2.2.2.2.sub (L1 := [(jFs11, jSef dC dI G0)]) [0] rfl⟩⟩, by rw [ht]; try exact hh_12.1.1, fun q h9 hq => by rw [ht]; try exact hh_12.1.2.1 q h9 hq⟩) hh_12.1.2.2 dX5_named_58
  · skip
    have c_9' : r_8.toInt ≥ 0 := jb_lt_n (rfl) ((by decide)) c_9
    refine lv_aload_n hx hb dX5_named_25 rfl (lv_at hl 2 rfl) ?_
    refine j7_read hx hb hown hK (C := RX3) (T := TX3) (N := 4) rfl hly_5_2 hlk_180 (hh_7.at 1 rfl) dX5_named_26 ?_
    refine lv_iload_n hx hb dX5_named_29 rfl (lv_at hl 0 rfl) ?_
    refine j7_qaldA hx hb hK5 hh_7 hB313 (by decide) hg_hypotheses_3 (x := r_8.toInt) (rfl) (by omega) dX5_named_30 (fun o_17 ho_17 => ?_)
    obtain ⟨el_18, nel_18, rfl, hg_el_18, hn_el_18⟩ := ho_17
    simp only [va_rf]
    rw [hQ]
    exact W.aret (v := .ref el_18) hx hb hr (Or.inr ⟨_, rfl⟩) (Or.inr ⟨_, rfl⟩) (fun t ht hW => ⟨⟨.ref el_18, (), rfl, Or.inr ⟨_, _, rfl, hg_el_18, by omega⟩, ⟨hh_7.rt (M1 := []) [] rfl ht, by rw [ht]; exact hh_7.2.2.2.2.2.2.2.2.sub (L1 := [(jFs11, jSef dC dI G0)]) [0] rfl⟩⟩, by rw [ht]; try exact hh_7.1.1, fun q h9 hq => by rw [ht]; try exact hh_7.1.2.1 q h9 hq⟩) hh_7.1.2.2 dX5_named_31
set_option maxHeartbeats 4000000 in
set_option maxRecDepth 20000 in
theorem uX5_namedZ (l : Launch) (dC : Nat → ClassId) (dI : Nat → Nat → Nat) (ca : Nat → ClassId) (base : Nat) (B : jF) (hB : jBok B) (hAp : jAp (dC, dI)) (hB5 : ∀ n G a H, B 5 n G a H ↔ jOb (dC, dI) 5 4 (F5 n G) a H) (hB11 : ∀ n G a H, B 11 n G a H ↔ jOb (dC, dI) 11 9 (F11 n G) a H) (hB101 : ∀ n G a H, B 101 n G a H ↔ jAr (dC, dI) (ca 1) (fun j z => True) n a H) (hB280 : ∀ n G a H, B 280 n G a H ↔ jAr (dC, dI) (ca 1) (fun j z => -1 ≤ z.toInt) n a H) (hB313 : ∀ n G a H, B 313 n G a H ↔ jAq (dC, dI) (ca 8) (jQk 280 80) n G a H) (G0 : jT) (H0 : Heap) (r0 : Nat) (a2 : Int32) : Met l yX5_named (jw yX5_named cX5_named 5 (some (.array .int))) ({ frames := 1, cells := 0, slots := 0, locals := 22 }) (va_Pc [.ref r0, .null, .int a2] (fun U => U.heap = H0 ∧ jX B base G0 [] H0 ∧ jG dC dI ca base U ∧ jK5 dC dI ca U ∧ G0 r0 = some (11, 0) ∧ jP (dC, dI) G0 H0 [] ∧ jIs (dC, dI) G0 H0 [(jFs11, jSef dC dI G0)] ∧ True)) (jQx (S := Unit) (fun v u => jRm G0 280 80 v) (fun u t => (jRt (dC, dI) B base G0 EX5_namedZ H0 [] t.heap) ∧ jIs (dC, dI) G0 t.heap [(jFs11, jSef dC dI G0)]) (jA base)) 0 0 (jA base) := by
  refine Met.ofW (cc := cX5_named) (maxL := 5) (ret := (some (.array .int))) (by decide) rfl ?_
  intro p e s m args below meth c s₁ Bd hml hv
  obtain ⟨rfl, hH0, hX, hG, hK5, hg_r0, hP0, hI0, hp0⟩ := hv
  have hK := hG.1
  have hx := Bd.exec
  have hb := Bd.bytes
  have hr := Bd.returns
  have hts := atoms_spec (ws := (jw yX5_named cX5_named 5 (some (.array .int)))) Bd.pre
  have htw : ∀ w ∈ jWl, w.before _ s = true := fun w h => hts w (List.mem_cons_of_mem _ h)
  have hown : s.vm.findClass RX5 = some m.cls := findClass_of_methodNamed Bd.named
  have hlocks := Bd.notSynchronized
  obtain ⟨Q, hQ⟩ : ∃ Q, Q = MQ below (jQx (S := Unit) (fun v u => jRm G0 280 80 v) (fun u t => (jRt (dC, dI) B base G0 EX5_namedZ H0 [] t.heap) ∧ jIs (dC, dI) G0 t.heap [(jFs11, jSef dC dI G0)]) (jA base)) ([.ref r0, .null, .int a2] : List Value).toArray s 0 0 (jA base) := ⟨_, rfl⟩
  rw [← hQ]
  have hl := lv_entry ([.ref r0, .null, .int a2]) (n := 5) (Nat.le_of_ble_eq_true rfl)
  rw [lg_entry_eq]
  generalize (lg_sl ([.ref r0, .null, .int a2]) ++ List.replicate (5 - (lg_sl ([.ref r0, .null, .int a2])).length) Slot.unset).toArray = ls at hl ⊢
  have hl : lv_has ls 5 [(0, .ref r0), (1, .null), (2, .int a2)] := hl
  generalize hR : (headSpec (jw yX5_named cX5_named 5 (some (.array .int))) ({ frames := 1, cells := 0, slots := 0, locals := 22 })).room = R
  subst hH0
  have hh : jSt (dC, dI) B base G0 G0 EX5_namedZ s.heap 0 0 [] [] [(jFs11, jSef dC dI G0)] s.heap [] := jSt.start hX hP0 jMc.nil hI0
  clear hX hP0
  have hkm1 : ((-1) : Int32).toInt = (-1) := by decide
  have hk0 : (0 : Int32).toInt = 0 := by decide
  have hk1 : (1 : Int32).toInt = 1 := by decide
  have hly_5_1 := htw (u_lay RX3 TX3 1) (jWc_wsX30 _ (u_in_lay (by decide)))
  have hly_5_2 := htw (u_lay RX3 TX3 2) (jWc_wsX30 _ (u_in_lay (by decide)))
  have hly_11_4 := htw (u_lay RX9 TX9 4) (jWc_wsX90 _ (u_in_lay (by decide)))
  have hly_11_5 := htw (u_lay RX9 TX9 5) (jWc_wsX90 _ (u_in_lay (by decide)))
  have hlk_164 := (htw (.fieldLink RX5 164 "ProofServer$Goal" "names" "[I") (jWr_81 _ (List.mem_of_getElem? (i := 16) rfl)))
  have hlk_180 := (htw (.fieldLink RX5 180 "ProofServer$Goal" "hypotheses" "[[I") (jWr_84 _ (List.mem_of_getElem? (i := 10) rfl)))
  have hlk_174 := (htw (.fieldLink RX5 174 "ProofServer$State" "factNames" "[I") (jWr_81 _ (List.mem_of_getElem? (i := 14) rfl)))
  have hlk_117 := (htw (.fieldLink RX5 117 "ProofServer$State" "facts" "[[I") (jWr_82 _ (List.mem_of_getElem? (i := 6) rfl)))
  have hrg_a2 := jb_rng a2
  refine j7_nld_n hx hb dX5_named_0 rfl (lv_at hl 1 rfl) ?_
  refine lv_ifnonnullN hx hb dX5_named_1 ?_
  refine lv_iconst (v := (-1)) hx hb dX5_named_4 (by decide) ?_
  refine lv_goto (tgt := 16) hx hb dX5_named_5 (by decide) ?_
  refine lv_istore_n (lv' := [(3, .int (-1)), (0, .ref r0), (1, .null), (2, .int a2)]) hx hb dX5_named_16 rfl hl (by decide) rfl (fun ls hl => ?_)
  refine j7_nld_n hx hb dX5_named_17 rfl (lv_at hl 2 rfl) ?_
  refine lv_ifnullN (tgt := 32) hx hb dX5_named_18 (by decide) ?_
  obtain ⟨sx_1, sy_1, sm_1, hs1_1, hs2_1, hg_sx_1, hg_sy_1, hsm_1⟩ := (hh.iv 0 rfl) _ hg_r0
  have hh_2 := hh.more (P1 := [(r0, 11, 4, .ref sx_1), (r0, 11, 5, .ref sy_1)]) (jP.cons hg_r0 hs1_1 (jP.cons hg_r0 hs2_1 jP.nil))
  clear hh hs1_1 hs2_1
  refine lv_aload_n hx hb dX5_named_32 rfl (lv_at hl 1 rfl) ?_
  refine j7_read hx hb hown hK (C := RX9) (T := TX9) (N := 9) rfl hly_11_4 hlk_174 (hh_2.at 0 rfl) dX5_named_33 ?_
  refine lv_iload_n hx hb dX5_named_36 rfl (lv_at hl 3 rfl) ?_
  refine va_calli (A0 := jA base) (H0 := s.heap) (va_runS (As := [.ref sx_1, .int a2]) (rest := []) ⟨hx, hb, hml, hown, hts⟩ (uX9_find l dC dI ca base B hB hAp hB101 G0 s.heap sx_1 a2 sm_1) (va_cwS 2 hts (jgS (jWr_81 _ (List.mem_of_getElem? (i := 18) rfl)) (jWr_30 _ (List.mem_of_getElem? (i := 20) rfl)) (jWr_4 _ (List.mem_of_getElem? (i := 18) rfl)) (jWr_30 _ (List.mem_of_getElem? (i := 21) rfl))) rfl rfl rfl (by decide +kernel) ⟨by rw [← hR]; exact Nat.le_of_ble_eq_true rfl, by rw [← hR]; exact Nat.le_of_ble_eq_true rfl⟩) ⟨fun a U g mk q => by obtain ⟨q0, q1, q2, qK, q10, q11, q12⟩ := q; exact ⟨q0, q1, q2, jG.calling g mk a qK, q10, q11, q12⟩, fun U hU hW => ⟨rfl, hU, hh_2.2.1, hG.step hW hU hh_2.1, hg_sx_1, jP.nil, by first | omega | rfl | assumption | decide | exact Or.inl rfl | exact Or.inr rfl | (simp only; omega)⟩⟩ rfl rfl hl.1 rfl (lv_room (Nat.le_of_ble_eq_true rfl)) dX5_named_37 ⟨Nat.zero_le _, Nat.zero_le _⟩) hh_2.1 (fun q _ h => h) (fun q h => h) (fun r_4 u_3 t_3 H_3 locs_3 ht_3 hvm_3 hr_4 hb_3 hz_3 hk_3 hS_3 => ?_)
  rw [ht_3] at hb_3
  obtain ⟨hb_31, hb_32, hb_33, hb_34, hb_35⟩ := hb_3
  have hh_3 : jSt (dC, dI) B base G0 G0 EX5_namedZ s.heap 0 0 [(r0, 11, 4, .ref sx_1), (r0, 11, 5, .ref sy_1)] [] [(jFs11, jSef dC dI G0)] H_3 locs_3 := ((hh_2.call hb_31 hb_32 hb_33 hb_34 hS_3 rfl (L1 := [(r0, 11, 4, .ref sx_1), (r0, 11, 5, .ref sy_1)]) [0, 1] rfl rfl (M1 := []) [] rfl rfl (I1 := [(jFs11, jSef dC dI G0)]) [0] rfl rfl).more hb_35)
  clear hh_2 ht_3 hvm_3 hz_3 hk_3 hS_3 hb_31 hb_32 hb_33 hb_34 hb_35
  obtain ⟨hr_4_0, hr_4_1⟩ := hr_4
  refine lv_istore (lv' := [(4, .int r_4), (3, .int (-1)), (0, .ref r0), (1, .null), (2, .int a2)]) hx hb dX5_named_40 hl (by decide) rfl (fun ls hl => ?_)
  refine lv_iload hx hb dX5_named_42 (lv_at hl 0 rfl) ?_
  refine lv_if_ge (tgt := 51) hx hb dX5_named_44 (by decide) (fun c_5 => ?_) (fun c_5 => ?_)
  · skip
    have c_5' : r_4.toInt ≥ 0 := jb_ge (rfl) ((by decide)) c_5
    refine lv_aload_n hx hb dX5_named_51 rfl (lv_at hl 2 rfl) ?_
    refine j7_read hx hb hown hK (C := RX9) (T := TX9) (N := 9) rfl hly_11_5 hlk_117 (hh_3.at 1 rfl) dX5_named_52 ?_
    refine lv_iload hx hb dX5_named_55 (lv_at hl 0 rfl) ?_
    refine j7_qaldA hx hb hK5 hh_3 hB313 (by decide) hg_sy_1 (x := r_4.toInt) (rfl) (by omega) dX5_named_57 (fun o_6 ho_6 => ?_)
    obtain ⟨el_7, nel_7, rfl, hg_el_7, hn_el_7⟩ := ho_6
    simp only [va_rf]
    rw [hQ]
    exact W.aret (v := .ref el_7) hx hb hr (Or.inr ⟨_, rfl⟩) (Or.inr ⟨_, rfl⟩) (fun t ht hW => ⟨⟨.ref el_7, (), rfl, Or.inr ⟨_, _, rfl, hg_el_7, by omega⟩, ⟨hh_3.rt (M1 := []) [] rfl ht, by rw [ht]; exact hh_3.2.2.2.2.2.2.2.2.sub (L1 := [(jFs11, jSef dC dI G0)]) [0] rfl⟩⟩, by rw [ht]; try exact hh_3.1.1, fun q h9 hq => by rw [ht]; try exact hh_3.1.2.1 q h9 hq⟩) hh_3.1.2.2 dX5_named_58
  · skip
    have c_5' : r_4.toInt < 0 := jb_ge_n (rfl) ((by decide)) c_5
    refine lv_null hx hb dX5_named_47 ?_
    refine lv_goto (tgt := 58) hx hb dX5_named_48 (by decide) ?_
    rw [hQ]
    exact W.aret (v := .null) hx hb hr (Or.inr ⟨_, rfl⟩) (Or.inl rfl) (fun t ht hW => ⟨⟨.null, (), rfl, Or.inl rfl, ⟨hh_3.rt (M1 := []) [] rfl ht, by rw [ht]; exact hh_3.2.2.2.2.2.2.2.2.sub (L1 := [(jFs11, jSef dC dI G0)]) [0] rfl⟩⟩, by rw [ht]; try exact hh_3.1.1, fun q h9 hq => by rw [ht]; try exact hh_3.1.2.1 q h9 hq⟩) hh_3.1.2.2 dX5_named_58
end
