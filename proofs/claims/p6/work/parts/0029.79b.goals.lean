section
theorem dX13_addHyp_0 : decode cX13_addHyp 0 = .ok (.aload_n 0, 1) := by decide +kernel
theorem dX13_addHyp_1 : decode cX13_addHyp 1 = .ok (.getfield 65, 3) := by decide +kernel
theorem dX13_addHyp_4 : decode cX13_addHyp 4 = .ok (.bipush 8, 2) := by decide +kernel
theorem dX13_addHyp_6 : decode cX13_addHyp 6 = .ok (.iload_n 1, 1) := by decide +kernel
theorem dX13_addHyp_7 : decode cX13_addHyp 7 = .ok (.imul, 1) := by decide +kernel
theorem dX13_addHyp_8 : decode cX13_addHyp 8 = .ok (.aload_n 0, 1) := by decide +kernel
theorem dX13_addHyp_9 : decode cX13_addHyp 9 = .ok (.getfield 62, 3) := by decide +kernel
theorem dX13_addHyp_12 : decode cX13_addHyp 12 = .ok (.iload_n 1, 1) := by decide +kernel
theorem dX13_addHyp_13 : decode cX13_addHyp 13 = .ok (.iaload, 1) := by decide +kernel
theorem dX13_addHyp_14 : decode cX13_addHyp 14 = .ok (.iadd, 1) := by decide +kernel
theorem dX13_addHyp_15 : decode cX13_addHyp 15 = .ok (.iload_n 2, 1) := by decide +kernel
theorem dX13_addHyp_16 : decode cX13_addHyp 16 = .ok (.iastore, 1) := by decide +kernel
theorem dX13_addHyp_17 : decode cX13_addHyp 17 = .ok (.aload_n 0, 1) := by decide +kernel
theorem dX13_addHyp_18 : decode cX13_addHyp 18 = .ok (.getfield 68, 3) := by decide +kernel
theorem dX13_addHyp_21 : decode cX13_addHyp 21 = .ok (.bipush 8, 2) := by decide +kernel
theorem dX13_addHyp_23 : decode cX13_addHyp 23 = .ok (.iload_n 1, 1) := by decide +kernel
theorem dX13_addHyp_24 : decode cX13_addHyp 24 = .ok (.imul, 1) := by decide +kernel
theorem dX13_addHyp_25 : decode cX13_addHyp 25 = .ok (.aload_n 0, 1) := by decide +kernel
theorem dX13_addHyp_26 : decode cX13_addHyp 26 = .ok (.getfield 62, 3) := by decide +kernel
theorem dX13_addHyp_29 : decode cX13_addHyp 29 = .ok (.iload_n 1, 1) := by decide +kernel
theorem dX13_addHyp_30 : decode cX13_addHyp 30 = .ok (.iaload, 1) := by decide +kernel
theorem dX13_addHyp_31 : decode cX13_addHyp 31 = .ok (.iadd, 1) := by decide +kernel
theorem dX13_addHyp_32 : decode cX13_addHyp 32 = .ok (.iload_n 3, 1) := by decide +kernel
theorem dX13_addHyp_33 : decode cX13_addHyp 33 = .ok (.iastore, 1) := by decide +kernel
theorem dX13_addHyp_34 : decode cX13_addHyp 34 = .ok (.aload_n 0, 1) := by decide +kernel
theorem dX13_addHyp_35 : decode cX13_addHyp 35 = .ok (.getfield 62, 3) := by decide +kernel
theorem dX13_addHyp_38 : decode cX13_addHyp 38 = .ok (.iload_n 1, 1) := by decide +kernel
theorem dX13_addHyp_39 : decode cX13_addHyp 39 = .ok (.dup2, 1) := by decide +kernel
theorem dX13_addHyp_40 : decode cX13_addHyp 40 = .ok (.iaload, 1) := by decide +kernel
theorem dX13_addHyp_41 : decode cX13_addHyp 41 = .ok (.iconst 1, 1) := by decide +kernel
theorem dX13_addHyp_42 : decode cX13_addHyp 42 = .ok (.iadd, 1) := by decide +kernel
theorem dX13_addHyp_43 : decode cX13_addHyp 43 = .ok (.iastore, 1) := by decide +kernel
theorem dX13_addHyp_44 : decode cX13_addHyp 44 = .ok (.return_, 1) := by decide +kernel
theorem dX13_dropHyp_0 : decode cX13_dropHyp 0 = .ok (.iload_n 2, 1) := by decide +kernel
theorem dX13_dropHyp_1 : decode cX13_dropHyp 1 = .ok (.istore_n 3, 1) := by decide +kernel
theorem dX13_dropHyp_2 : decode cX13_dropHyp 2 = .ok (.iload_n 3, 1) := by decide +kernel
theorem dX13_dropHyp_3 : decode cX13_dropHyp 3 = .ok (.iconst 1, 1) := by decide +kernel
theorem dX13_dropHyp_4 : decode cX13_dropHyp 4 = .ok (.iadd, 1) := by decide +kernel
theorem dX13_dropHyp_5 : decode cX13_dropHyp 5 = .ok (.aload_n 0, 1) := by decide +kernel
theorem dX13_dropHyp_6 : decode cX13_dropHyp 6 = .ok (.getfield 62, 3) := by decide +kernel
theorem dX13_dropHyp_9 : decode cX13_dropHyp 9 = .ok (.iload_n 1, 1) := by decide +kernel
theorem dX13_dropHyp_10 : decode cX13_dropHyp 10 = .ok (.iaload, 1) := by decide +kernel
theorem dX13_dropHyp_11 : decode cX13_dropHyp 11 = .ok (.if_icmp .ge 57, 3) := by decide +kernel
theorem dX13_dropHyp_14 : decode cX13_dropHyp 14 = .ok (.aload_n 0, 1) := by decide +kernel
theorem dX13_dropHyp_15 : decode cX13_dropHyp 15 = .ok (.getfield 65, 3) := by decide +kernel
theorem dX13_dropHyp_18 : decode cX13_dropHyp 18 = .ok (.bipush 8, 2) := by decide +kernel
theorem dX13_dropHyp_20 : decode cX13_dropHyp 20 = .ok (.iload_n 1, 1) := by decide +kernel
theorem dX13_dropHyp_21 : decode cX13_dropHyp 21 = .ok (.imul, 1) := by decide +kernel
theorem dX13_dropHyp_22 : decode cX13_dropHyp 22 = .ok (.iload_n 3, 1) := by decide +kernel
theorem dX13_dropHyp_23 : decode cX13_dropHyp 23 = .ok (.iadd, 1) := by decide +kernel
theorem dX13_dropHyp_24 : decode cX13_dropHyp 24 = .ok (.aload_n 0, 1) := by decide +kernel
theorem dX13_dropHyp_25 : decode cX13_dropHyp 25 = .ok (.getfield 65, 3) := by decide +kernel
theorem dX13_dropHyp_28 : decode cX13_dropHyp 28 = .ok (.bipush 8, 2) := by decide +kernel
theorem dX13_dropHyp_30 : decode cX13_dropHyp 30 = .ok (.iload_n 1, 1) := by decide +kernel
theorem dX13_dropHyp_31 : decode cX13_dropHyp 31 = .ok (.imul, 1) := by decide +kernel
theorem dX13_dropHyp_32 : decode cX13_dropHyp 32 = .ok (.iload_n 3, 1) := by decide +kernel
theorem dX13_dropHyp_33 : decode cX13_dropHyp 33 = .ok (.iadd, 1) := by decide +kernel
theorem dX13_dropHyp_34 : decode cX13_dropHyp 34 = .ok (.iconst 1, 1) := by decide +kernel
theorem dX13_dropHyp_35 : decode cX13_dropHyp 35 = .ok (.iadd, 1) := by decide +kernel
theorem dX13_dropHyp_36 : decode cX13_dropHyp 36 = .ok (.iaload, 1) := by decide +kernel
theorem dX13_dropHyp_37 : decode cX13_dropHyp 37 = .ok (.iastore, 1) := by decide +kernel
theorem dX13_dropHyp_38 : decode cX13_dropHyp 38 = .ok (.aload_n 0, 1) := by decide +kernel
theorem dX13_dropHyp_39 : decode cX13_dropHyp 39 = .ok (.getfield 68, 3) := by decide +kernel
theorem dX13_dropHyp_42 : decode cX13_dropHyp 42 = .ok (.bipush 8, 2) := by decide +kernel
theorem dX13_dropHyp_44 : decode cX13_dropHyp 44 = .ok (.iload_n 1, 1) := by decide +kernel
theorem dX13_dropHyp_45 : decode cX13_dropHyp 45 = .ok (.imul, 1) := by decide +kernel
theorem dX13_dropHyp_46 : decode cX13_dropHyp 46 = .ok (.iload_n 3, 1) := by decide +kernel
theorem dX13_dropHyp_47 : decode cX13_dropHyp 47 = .ok (.iadd, 1) := by decide +kernel
theorem dX13_dropHyp_48 : decode cX13_dropHyp 48 = .ok (.aload_n 0, 1) := by decide +kernel
theorem dX13_dropHyp_49 : decode cX13_dropHyp 49 = .ok (.getfield 68, 3) := by decide +kernel
theorem dX13_dropHyp_52 : decode cX13_dropHyp 52 = .ok (.bipush 8, 2) := by decide +kernel
theorem dX13_dropHyp_54 : decode cX13_dropHyp 54 = .ok (.iload_n 1, 1) := by decide +kernel
theorem dX13_dropHyp_55 : decode cX13_dropHyp 55 = .ok (.imul, 1) := by decide +kernel
theorem dX13_dropHyp_56 : decode cX13_dropHyp 56 = .ok (.iload_n 3, 1) := by decide +kernel
theorem dX13_dropHyp_57 : decode cX13_dropHyp 57 = .ok (.iadd, 1) := by decide +kernel
theorem dX13_dropHyp_58 : decode cX13_dropHyp 58 = .ok (.iconst 1, 1) := by decide +kernel
theorem dX13_dropHyp_59 : decode cX13_dropHyp 59 = .ok (.iadd, 1) := by decide +kernel
theorem dX13_dropHyp_60 : decode cX13_dropHyp 60 = .ok (.iaload, 1) := by decide +kernel
theorem dX13_dropHyp_61 : decode cX13_dropHyp 61 = .ok (.iastore, 1) := by decide +kernel
theorem dX13_dropHyp_62 : decode cX13_dropHyp 62 = .ok (.iinc 3 1, 3) := by decide +kernel
theorem dX13_dropHyp_65 : decode cX13_dropHyp 65 = .ok (.goto (-63), 3) := by decide +kernel
theorem dX13_dropHyp_68 : decode cX13_dropHyp 68 = .ok (.aload_n 0, 1) := by decide +kernel
theorem dX13_dropHyp_69 : decode cX13_dropHyp 69 = .ok (.getfield 62, 3) := by decide +kernel
theorem dX13_dropHyp_72 : decode cX13_dropHyp 72 = .ok (.iload_n 1, 1) := by decide +kernel
theorem dX13_dropHyp_73 : decode cX13_dropHyp 73 = .ok (.dup2, 1) := by decide +kernel
theorem dX13_dropHyp_74 : decode cX13_dropHyp 74 = .ok (.iaload, 1) := by decide +kernel
theorem dX13_dropHyp_75 : decode cX13_dropHyp 75 = .ok (.iconst 1, 1) := by decide +kernel
theorem dX13_dropHyp_76 : decode cX13_dropHyp 76 = .ok (.isub, 1) := by decide +kernel
theorem dX13_dropHyp_77 : decode cX13_dropHyp 77 = .ok (.iastore, 1) := by decide +kernel
theorem dX13_dropHyp_78 : decode cX13_dropHyp 78 = .ok (.return_, 1) := by decide +kernel
def EX13_copyGoalK : List (Nat × Nat) := [(158, 0), (159, 0), (161, 0), (162, 0), (163, 0)]
def EX13_failsK : List (Nat × Nat) := [(15, 34)]
def EX13_timesK : List (Nat × Nat) := [(15, 21), (15, 34), (158, 0), (159, 0), (161, 0), (162, 0), (163, 0)]
def EX13_addHyp : List (Nat × Nat) := [(159, 0), (162, 0), (163, 0)]
def EX13_dropHyp : List (Nat × Nat) := [(159, 0), (162, 0), (163, 0)]
def EX13_addFactK : List (Nat × Nat) := [(15, 15), (160, 0), (163, 0)]
def EX13_doneK : List (Nat × Nat) := [(15, 21), (15, 34), (158, 0), (159, 0), (161, 0), (162, 0), (163, 0)]
def EX13_symbolOfK : List (Nat × Nat) := []
def EX13_factOfK : List (Nat × Nat) := []
def EX13_hypOfK : List (Nat × Nat) := []
def EX13_checkNewK : List (Nat × Nat) := [(15, 34)]
set_option maxHeartbeats 4000000 in
set_option maxRecDepth 20000 in
theorem uX13_copyGoalK (l : Launch) (dC : Nat → ClassId) (dI : Nat → Nat → Nat) (ca : Nat → ClassId) (base : Nat) (B : jF) (hB : jBok B) (hAp : jAp (dC, dI)) (hB15 : ∀ n G a H, B 15 n G a H ↔ jOb (dC, dI) 15 50 (F15 n G) a H) (hB158 : ∀ n G a H, B 158 n G a H ↔ jAr (dC, dI) (ca 1) (fun j z => 0 ≤ z.toInt ∧ z.toInt ≤ 6) n a H) (hB159 : ∀ n G a H, B 159 n G a H ↔ jAr (dC, dI) (ca 1) (fun j z => 0 ≤ z.toInt ∧ z.toInt ≤ 8) n a H) (hB161 : ∀ n G a H, B 161 n G a H ↔ jAr (dC, dI) (ca 1) (fun j z => 0 ≤ z.toInt ∧ z.toInt ≤ 119999) n a H) (hB162 : ∀ n G a H, B 162 n G a H ↔ jAr (dC, dI) (ca 1) (fun j z => 0 ≤ z.toInt ∧ z.toInt ≤ 119999) n a H) (hB163 : ∀ n G a H, B 163 n G a H ↔ jAr (dC, dI) (ca 1) (fun j z => 0 ≤ z.toInt ∧ z.toInt ≤ 1599) n a H) (G0 : jT) (H0 : Heap) (r0 : Nat) (a1 : Int32) (a2 : Int32) (zg : Nat) (zh : Nat) (zp : Nat) (fg : Nat → Int32) (fh : Nat → Int32) (fp : Nat → Int32) : Met l yX13_copyGoal (jw yX13_copyGoal cX13_copyGoal 4 none) ({ frames := 0, cells := 0, slots := 0, locals := 0 }) (va_Pc [.ref r0, .int a1, .int a2] (fun U => U.heap = H0 ∧ jX B base G0 [] H0 ∧ jG dC dI ca base U ∧ G0 r0 = some (15, 0) ∧ G0 zg = some (161, 46) ∧ G0 zh = some (159, 46) ∧ G0 zp = some (162, 368) ∧ jP (dC, dI) G0 H0 [(r0, 15, 22, .ref zg), (r0, 15, 25, .ref zh), (r0, 15, 27, .ref zp)] ∧ jMc (dC, dI) G0 H0 [(zg, 161, 46, ca 1, fg), (zh, 159, 46, ca 1, fh), (zp, 162, 368, ca 1, fp)] ∧ 0 ≤ a1.toInt ∧ a1.toInt ≤ 45 ∧ 0 ≤ a2.toInt ∧ a2.toInt ≤ 45)) (va_Qv (S := (Nat → Int32) × (Nat → Int32) × (Nat → Int32)) (fun u => jCpy fg fh fp u.1 u.2.1 u.2.2 a1.toInt a2.toInt) (fun u t => jRt (dC, dI) B base G0 EX13_copyGoalK H0 [] t.heap ∧ jMc (dC, dI) G0 t.heap [(zg, 161, 46, ca 1, u.1), (zh, 159, 46, ca 1, u.2.1), (zp, 162, 368, ca 1, u.2.2)]) (jA base)) 0 0 (jA base) := by
  refine Met.ofW (cc := cX13_copyGoal) (maxL := 4) (ret := none) (by decide) rfl ?_
  intro p e s m args below meth c s₁ Bd hml hv
  obtain ⟨rfl, hH0, hX, hG, hg_r0, hg_zg, hg_zh, hg_zp, hP0, hM0, hp0, hp1, hp2, hp3⟩ := hv
  have hK := hG.1
  have hx := Bd.exec
  have hb := Bd.bytes
  have hr := Bd.returns
  have hts := atoms_spec (ws := (jw yX13_copyGoal cX13_copyGoal 4 none)) Bd.pre
  have htw : ∀ w ∈ jWl, w.before _ s = true := fun w h => hts w (List.mem_cons_of_mem _ h)
  have hown : s.vm.findClass RX13 = some m.cls := findClass_of_methodNamed Bd.named
  have hlocks := Bd.notSynchronized
  obtain ⟨Q, hQ⟩ : ∃ Q, Q = MQ below (va_Qv (S := (Nat → Int32) × (Nat → Int32) × (Nat → Int32)) (fun u => jCpy fg fh fp u.1 u.2.1 u.2.2 a1.toInt a2.toInt) (fun u t => jRt (dC, dI) B base G0 EX13_copyGoalK H0 [] t.heap ∧ jMc (dC, dI) G0 t.heap [(zg, 161, 46, ca 1, u.1), (zh, 159, 46, ca 1, u.2.1), (zp, 162, 368, ca 1, u.2.2)]) (jA base)) ([.ref r0, .int a1, .int a2] : List Value).toArray s 0 0 (jA base) := ⟨_, rfl⟩
  rw [← hQ]
  have hl := lv_entry ([.ref r0, .int a1, .int a2]) (n := 4) (Nat.le_of_ble_eq_true rfl)
  rw [lg_entry_eq]
  generalize (lg_sl ([.ref r0, .int a1, .int a2]) ++ List.replicate (4 - (lg_sl ([.ref r0, .int a1, .int a2])).length) Slot.unset).toArray = ls at hl ⊢
  have hl : lv_has ls 4 [(0, .ref r0), (1, .int a1), (2, .int a2)] := hl
  generalize hR : (headSpec (jw yX13_copyGoal cX13_copyGoal 4 none) ({ frames := 0, cells := 0, slots := 0, locals := 0 })).room = R
  subst hH0
  have hh : jSt (dC, dI) B base G0 G0 EX13_copyGoalK s.heap 0 0 [(r0, 15, 22, .ref zg), (r0, 15, 25, .ref zh), (r0, 15, 27, .ref zp)] [(zg, 161, 46, ca 1, fg), (zh, 159, 46, ca 1, fh), (zp, 162, 368, ca 1, fp)] [] s.heap [] := jSt.start hX hP0 hM0 jIs.nil
  clear hX hP0
  have hk0 : (0 : Int32).toInt = 0 := by decide
  have hk1 : (1 : Int32).toInt = 1 := by decide
  have hk6 : (6 : Int32).toInt = 6 := by decide
  have hk8 : (8 : Int32).toInt = 8 := by decide
  have hly_15_22 := htw (u_lay RX13 TX13 22) (jWc_wsX130 _ (u_in_lay (by decide)))
  have hly_15_23 := htw (u_lay RX13 TX13 23) (jWc_wsX130 _ (u_in_lay (by decide)))
  have hly_15_24 := htw (u_lay RX13 TX13 24) (jWc_wsX130 _ (u_in_lay (by decide)))
  have hly_15_25 := htw (u_lay RX13 TX13 25) (jWc_wsX130 _ (u_in_lay (by decide)))
  have hly_15_26 := htw (u_lay RX13 TX13 26) (jWc_wsX130 _ (u_in_lay (by decide)))
  have hly_15_27 := htw (u_lay RX13 TX13 27) (jWc_wsX130 _ (u_in_lay (by decide)))
  have hlk_53 := (htw (.fieldLink RX13 53 "ProofServerModel$Kernel" "goal" "[I") (jWr_14 _ (List.mem_of_getElem? (i := 22) rfl)))
  have hlk_56 := (htw (.fieldLink RX13 56 "ProofServerModel$Kernel" "vars" "[I") (jWr_14 _ (List.mem_of_getElem? (i := 23) rfl)))
  have hlk_62 := (htw (.fieldLink RX13 62 "ProofServerModel$Kernel" "hyps" "[I") (jWr_15 _ (List.mem_of_getElem? (i := 1) rfl)))
  have hlk_59 := (htw (.fieldLink RX13 59 "ProofServerModel$Kernel" "varName" "[I") (jWr_15 _ (List.mem_of_getElem? (i := 0) rfl)))
  have hlk_65 := (htw (.fieldLink RX13 65 "ProofServerModel$Kernel" "hypName" "[I") (jWr_15 _ (List.mem_of_getElem? (i := 2) rfl)))
  have hlk_68 := (htw (.fieldLink RX13 68 "ProofServerModel$Kernel" "hyp" "[I") (jWr_15 _ (List.mem_of_getElem? (i := 3) rfl)))
  have hrg_a1 := jb_rng a1
  have hrg_a2 := jb_rng a2
  obtain ⟨fp0, hfp0⟩ : ∃ z, z = fp := ⟨_, rfl⟩
  refine lv_aload_n hx hb dX13_copyGoal_0 rfl (lv_at hl 0 rfl) ?_
  refine j7_read hx hb hown hK (C := RX13) (T := TX13) (N := 50) rfl hly_15_22 hlk_53 (hh.at 0 rfl) dX13_copyGoal_1 ?_
  refine lv_iload_n hx hb dX13_copyGoal_4 rfl (lv_at hl 2 rfl) ?_
  refine lv_aload_n hx hb dX13_copyGoal_5 rfl (lv_at hl 0 rfl) ?_
  refine j7_read hx hb hown hK (C := RX13) (T := TX13) (N := 50) rfl hly_15_22 hlk_53 (hh.at 0 rfl) dX13_copyGoal_6 ?_
  refine lv_iload_n hx hb dX13_copyGoal_9 rfl (lv_at hl 1 rfl) ?_
  refine j7_ialdM hx hb hK hh hB161 1 rfl (by decide) hg_zg (x := a1.toInt) (rfl) (by omega) (j := 0) rfl dX13_copyGoal_10 (fun z_1 ez_1 (hz_1 : 0 ≤ z_1.toInt ∧ z_1.toInt ≤ 119999) => ?_)
  have hqz_1 : z_1.toInt = jSo fg (a1.toInt) := by unfold jSo; rw [ez_1]
  refine j7_iastU hx hb hK hh hB hB161 1 rfl (by decide) (by decide) rfl 0 rfl (M1 := [(zh, 159, 46, ca 1, fh), (zp, 162, 368, ca 1, fp)]) [1, 2] rfl rfl rfl hg_zg (x := a2.toInt) (rfl) (by omega) (by first | omega | (refine ⟨?_, ?_⟩ <;> (first | omega | rfl | assumption | decide | exact Or.inl rfl | exact Or.inr rfl | (simp only; omega)))) dX13_copyGoal_11 (fun H_2 locs_2 fs_3 hv_2 ho_2 hh_2 => ?_)
  have hv_2 : jSo fs_3 (a2.toInt) = z_1.toInt := by unfold jSo; rw [hv_2]; try exact rfl
  clear hh
  refine lv_aload_n hx hb dX13_copyGoal_12 rfl (lv_at hl 0 rfl) ?_
  obtain ⟨v_4, hv_4, hh_5⟩ := hh_2.pin (C := RX13) (T := TX13) (N := 50) hB15 rfl (by decide) hg_r0 (i := 23) (by decide) rfl
  clear hh_2
  obtain ⟨vars_6, rfl, hg_vars_6⟩ := hv_4
  refine j7_read hx hb hown hK (C := RX13) (T := TX13) (N := 50) rfl hly_15_23 hlk_56 (hh_5.at 0 rfl) dX13_copyGoal_13 ?_
  refine lv_iload_n hx hb dX13_copyGoal_16 rfl (lv_at hl 2 rfl) ?_
  refine lv_aload_n hx hb dX13_copyGoal_17 rfl (lv_at hl 0 rfl) ?_
  refine j7_read hx hb hown hK (C := RX13) (T := TX13) (N := 50) rfl hly_15_23 hlk_56 (hh_5.at 0 rfl) dX13_copyGoal_18 ?_
  refine lv_iload_n hx hb dX13_copyGoal_21 rfl (lv_at hl 1 rfl) ?_
  refine j7_iald hx hb hK hh_5 hB158 1 rfl (by decide) hg_vars_6 (x := a1.toInt) (rfl) (by omega) dX13_copyGoal_22 (fun z_7 (hz_7 : 0 ≤ z_7.toInt ∧ z_7.toInt ≤ 6) => ?_)
  refine j7_iast hx hb hK hh_5 hB hB158 1 rfl (by decide) (by decide) rfl rfl rfl hg_vars_6 (x := a2.toInt) (rfl) (by omega) (by first | omega | (refine ⟨?_, ?_⟩ <;> (first | omega | rfl | assumption | decide | exact Or.inl rfl | exact Or.inr rfl | (simp only; omega)))) dX13_copyGoal_23 (fun H_8 locs_8 hh_8 => ?_)
  clear hh_5
  refine lv_aload_n hx hb dX13_copyGoal_24 rfl (lv_at hl 0 rfl) ?_
  refine j7_read hx hb hown hK (C := RX13) (T := TX13) (N := 50) rfl hly_15_25 hlk_62 (hh_8.at 2 rfl) dX13_copyGoal_25 ?_
  refine lv_iload_n hx hb dX13_copyGoal_28 rfl (lv_at hl 2 rfl) ?_
  refine lv_aload_n hx hb dX13_copyGoal_29 rfl (lv_at hl 0 rfl) ?_
  refine j7_read hx hb hown hK (C := RX13) (T := TX13) (N := 50) rfl hly_15_25 hlk_62 (hh_8.at 2 rfl) dX13_copyGoal_30 ?_
  refine lv_iload_n hx hb dX13_copyGoal_33 rfl (lv_at hl 1 rfl) ?_
  refine j7_ialdM hx hb hK hh_8 hB159 1 rfl (by decide) hg_zh (x := a1.toInt) (rfl) (by omega) (j := 1) rfl dX13_copyGoal_34 (fun z_9 ez_9 (hz_9 : 0 ≤ z_9.toInt ∧ z_9.toInt ≤ 8) => ?_)
  have hqz_9 : z_9.toInt = jSo fh (a1.toInt) := by unfold jSo; rw [ez_9]
  refine j7_iastU hx hb hK hh_8 hB hB159 1 rfl (by decide) (by decide) rfl 1 rfl (M1 := [(zg, 161, 46, ca 1, fs_3), (zp, 162, 368, ca 1, fp)]) [0, 2] rfl rfl rfl hg_zh (x := a2.toInt) (rfl) (by omega) (by first | omega | (refine ⟨?_, ?_⟩ <;> (first | omega | rfl | assumption | decide | exact Or.inl rfl | exact Or.inr rfl | (simp only; omega)))) dX13_copyGoal_35 (fun H_10 locs_10 fs_11 hv_10 ho_10 hh_10 => ?_)
  have hv_10 : jSo fs_11 (a2.toInt) = z_9.toInt := by unfold jSo; rw [hv_10]; try exact rfl
  clear hh_8
  refine lv_iconst (v := 0) hx hb dX13_copyGoal_36 (by decide) ?_
  refine lv_istore_n (lv' := [(3, .int 0), (0, .ref r0), (1, .int a1), (2, .int a2)]) hx hb dX13_copyGoal_37 rfl hl (by decide) rfl (fun ls hl => ?_)
  have L38 : ∀ (N : Nat) (v3_12 : Int32) (H_12 : Heap) (locs_12 : List Loc), jSt (dC, dI) B base G0 G0 EX13_copyGoalK s.heap 0 0 [(r0, 15, 23, .ref vars_6), (r0, 15, 22, .ref zg), (r0, 15, 25, .ref zh), (r0, 15, 27, .ref zp)] [(zh, 159, 46, ca 1, fs_11), (zg, 161, 46, ca 1, fs_3), (zp, 162, 368, ca 1, fp)] [] H_12 locs_12 → (0 ≤ v3_12.toInt ∧ v3_12.toInt ≤ 6) → (6 - v3_12.toInt : Int) < N → ∀ ls : Array Slot, lv_has ls 4 [(0, .ref r0), (1, .int a1), (2, .int a2), (3, .int v3_12)] → W p l e R s m ([.ref r0, .int a1, .int a2] : List Value).toArray below meth c H_12 locs_12 0 0 Q (F0 m 38 ls []) := by
    intro N
    induction N with
    | zero => intro v3_12 H_12 locs_12 hh_12  hi_12 hm; exact absurd hm (by omega)
    | succ N L38 =>
      intro v3_12 H_12 locs_12 hh_12  hi_12 hm_12 ls hl
      obtain ⟨hi_12_0, hi_12_1⟩ := hi_12
      refine lv_iload_n hx hb dX13_copyGoal_38 rfl (lv_at hl 3 rfl) ?_
      refine lv_bipush (v := 6) hx hb dX13_copyGoal_39 (by decide) ?_
      refine lv_icmp_ge (tgt := 72) hx hb dX13_copyGoal_41 (by decide) (fun c_13 => ?_) (fun c_13 => ?_)
      · skip
        have c_13' : v3_12.toInt ≥ 6 := jb_ge (rfl) ((by decide)) c_13
        refine lv_iconst (v := 0) hx hb dX13_copyGoal_72 (by decide) ?_
        refine lv_istore_n (lv' := [(3, .int 0), (0, .ref r0), (1, .int a1), (2, .int a2)]) hx hb dX13_copyGoal_73 rfl hl (by decide) rfl (fun ls hl => ?_)
        have L74 : ∀ (N : Nat) (v3_14 : Int32) (fp_14 : Nat → Int32) (H_14 : Heap) (locs_14 : List Loc), jSt (dC, dI) B base G0 G0 EX13_copyGoalK s.heap 0 0 [(r0, 15, 23, .ref vars_6), (r0, 15, 22, .ref zg), (r0, 15, 25, .ref zh), (r0, 15, 27, .ref zp)] [(zp, 162, 368, ca 1, fp_14), (zh, 159, 46, ca 1, fs_11), (zg, 161, 46, ca 1, fs_3)] [] H_14 locs_14 → (0 ≤ v3_14.toInt ∧ v3_14.toInt ≤ 8 ∧ jPq fp0 fp_14 a1.toInt a2.toInt v3_14.toInt) → (8 - v3_14.toInt : Int) < N → ∀ ls : Array Slot, lv_has ls 4 [(0, .ref r0), (1, .int a1), (2, .int a2), (3, .int v3_14)] → W p l e R s m ([.ref r0, .int a1, .int a2] : List Value).toArray below meth c H_14 locs_14 0 0 Q (F0 m 74 ls []) := by
          intro N
          induction N with
          | zero => intro v3_14 fp_14 H_14 locs_14 hh_14  hi_14 hm; exact absurd hm (by omega)
          | succ N L74 =>
            intro v3_14 fp_14 H_14 locs_14 hh_14  hi_14 hm_14 ls hl
            obtain ⟨hi_14_0, hi_14_1, hi_14_2⟩ := hi_14
            refine lv_iload_n hx hb dX13_copyGoal_74 rfl (lv_at hl 3 rfl) ?_
            refine lv_bipush (v := 8) hx hb dX13_copyGoal_75 (by decide) ?_
            refine lv_icmp_ge (tgt := 130) hx hb dX13_copyGoal_77 (by decide) (fun c_15 => ?_) (fun c_15 => ?_)
            · skip
              have c_15' : v3_14.toInt ≥ 8 := jb_ge (rfl) ((by decide)) c_15
              rw [hQ]
              exact W.vret hx hb hr (fun t ht hW => ⟨⟨(fs_3, fs_11, fp_14), rfl, by
    try dsimp only
    have h8 := hi_14_2
    rw [show v3_14.toInt = 8 by omega, hfp0] at h8
    exact ⟨jUpd.mk (n := 46) (hv_2.trans hqz_1) ho_2 rfl (by omega), jUpd.mk (n := 46) (hv_10.trans hqz_9) ho_10 rfl (by omega), h8.1, h8.2⟩, ⟨hh_14.rt (M1 := []) [] rfl ht, by rw [ht]; exact hh_14.2.2.2.2.2.2.2.1.sub [2, 1, 0] rfl⟩⟩, by rw [ht]; try exact hh_14.1.1, fun q h9 hq => by rw [ht]; try exact hh_14.1.2.1 q h9 hq⟩) hh_14.1.2.2 dX13_copyGoal_130
            · skip
              have c_15' : v3_14.toInt < 8 := jb_ge_n (rfl) ((by decide)) c_15
              refine lv_aload_n hx hb dX13_copyGoal_80 rfl (lv_at hl 0 rfl) ?_
              obtain ⟨v_16, hv_16, hh_17⟩ := hh_14.pin (C := RX13) (T := TX13) (N := 50) hB15 rfl (by decide) hg_r0 (i := 26) (by decide) rfl
              clear hh_14
              obtain ⟨hypName_18, rfl, hg_hypName_18⟩ := hv_16
              refine j7_read hx hb hown hK (C := RX13) (T := TX13) (N := 50) rfl hly_15_26 hlk_65 (hh_17.at 0 rfl) dX13_copyGoal_81 ?_
              refine lv_bipush (v := 8) hx hb dX13_copyGoal_84 (by decide) ?_
              refine lv_iload_n hx hb dX13_copyGoal_86 rfl (lv_at hl 2 rfl) ?_
              refine lv_imul hx hb dX13_copyGoal_87 ?_
              refine lv_topi (fun z_19 ez_19 => ?_)
              have hz_19 : z_19.toInt = 8 * a2.toInt := by rw [ez_19]; exact jb_imul2 ((by decide)) (rfl) (by omega)
              refine lv_iload_n hx hb dX13_copyGoal_88 rfl (lv_at hl 3 rfl) ?_
              refine lv_iadd hx hb dX13_copyGoal_89 ?_
              refine lv_topi (fun z_20 ez_20 => ?_)
              have hz_20 : z_20.toInt = z_19.toInt + v3_14.toInt := by rw [ez_20]; exact jb_iadd2 (rfl) (rfl) (by omega)
              refine lv_aload_n hx hb dX13_copyGoal_90 rfl (lv_at hl 0 rfl) ?_
              refine j7_read hx hb hown hK (C := RX13) (T := TX13) (N := 50) rfl hly_15_26 hlk_65 (hh_17.at 0 rfl) dX13_copyGoal_91 ?_
              refine lv_bipush (v := 8) hx hb dX13_copyGoal_94 (by decide) ?_
              refine lv_iload_n hx hb dX13_copyGoal_96 rfl (lv_at hl 1 rfl) ?_
              refine lv_imul hx hb dX13_copyGoal_97 ?_
              refine lv_topi (fun z_21 ez_21 => ?_)
              have hz_21 : z_21.toInt = 8 * a1.toInt := by rw [ez_21]; exact jb_imul2 ((by decide)) (rfl) (by omega)
              refine lv_iload_n hx hb dX13_copyGoal_98 rfl (lv_at hl 3 rfl) ?_
              refine lv_iadd hx hb dX13_copyGoal_99 ?_
              refine lv_topi (fun z_22 ez_22 => ?_)
              have hz_22 : z_22.toInt = z_21.toInt + v3_14.toInt := by rw [ez_22]; exact jb_iadd2 (rfl) (rfl) (by omega)
              refine j7_iald hx hb hK hh_17 hB163 1 rfl (by decide) hg_hypName_18 (x := z_22.toInt) (rfl) (by omega) dX13_copyGoal_100 (fun z_23 (hz_23 : 0 ≤ z_23.toInt ∧ z_23.toInt ≤ 1599) => ?_)
              refine j7_iast hx hb hK hh_17 hB hB163 1 rfl (by decide) (by decide) rfl rfl rfl hg_hypName_18 (x := z_20.toInt) (rfl) (by omega) (by first | omega | (refine ⟨?_, ?_⟩ <;> (first | omega | rfl | assumption | decide | exact Or.inl rfl | exact Or.inr rfl | (simp only; omega)))) dX13_copyGoal_101 (fun H_24 locs_24 hh_24 => ?_)
              clear hh_17
              refine lv_aload_n hx hb dX13_copyGoal_102 rfl (lv_at hl 0 rfl) ?_
              refine j7_read hx hb hown hK (C := RX13) (T := TX13) (N := 50) rfl hly_15_27 hlk_68 (hh_24.at 4 rfl) dX13_copyGoal_103 ?_
              refine lv_bipush (v := 8) hx hb dX13_copyGoal_106 (by decide) ?_
              refine lv_iload_n hx hb dX13_copyGoal_108 rfl (lv_at hl 2 rfl) ?_
              refine lv_imul hx hb dX13_copyGoal_109 ?_
              refine lv_topi (fun z_25 ez_25 => ?_)
              have hz_25 : z_25.toInt = 8 * a2.toInt := by rw [ez_25]; exact jb_imul2 ((by decide)) (rfl) (by omega)
              refine lv_iload_n hx hb dX13_copyGoal_110 rfl (lv_at hl 3 rfl) ?_
              refine lv_iadd hx hb dX13_copyGoal_111 ?_
              refine lv_topi (fun z_26 ez_26 => ?_)
              have hz_26 : z_26.toInt = z_25.toInt + v3_14.toInt := by rw [ez_26]; exact jb_iadd2 (rfl) (rfl) (by omega)
              refine lv_aload_n hx hb dX13_copyGoal_112 rfl (lv_at hl 0 rfl) ?_
              refine j7_read hx hb hown hK (C := RX13) (T := TX13) (N := 50) rfl hly_15_27 hlk_68 (hh_24.at 4 rfl) dX13_copyGoal_113 ?_
              refine lv_bipush (v := 8) hx hb dX13_copyGoal_116 (by decide) ?_
              refine lv_iload_n hx hb dX13_copyGoal_118 rfl (lv_at hl 1 rfl) ?_
              refine lv_imul hx hb dX13_copyGoal_119 ?_
              refine lv_topi (fun z_27 ez_27 => ?_)
              have hz_27 : z_27.toInt = 8 * a1.toInt := by rw [ez_27]; exact jb_imul2 ((by decide)) (rfl) (by omega)
              refine lv_iload_n hx hb dX13_copyGoal_120 rfl (lv_at hl 3 rfl) ?_
              refine lv_iadd hx hb dX13_copyGoal_121 ?_
              refine lv_topi (fun z_28 ez_28 => ?_)
              have hz_28 : z_28.toInt = z_27.toInt + v3_14.toInt := by rw [ez_28]; exact jb_iadd2 (rfl) (rfl) (by omega)
              refine j7_ialdM hx hb hK hh_24 hB162 1 rfl (by decide) hg_zp (x := z_28.toInt) (rfl) (by omega) (j := 0) rfl dX13_copyGoal_122 (fun z_29 ez_29 (hz_29 : 0 ≤ z_29.toInt ∧ z_29.toInt ≤ 119999) => ?_)
              have hqz_29 : z_29.toInt = jSo fp_14 (((8 * a1.toInt) + v3_14.toInt)) := by unfold jSo; rw [ez_29, show z_28.toInt = ((8 * a1.toInt) + v3_14.toInt) by omega]
              refine j7_iastU hx hb hK hh_24 hB hB162 1 rfl (by decide) (by decide) rfl 0 rfl (M1 := [(zh, 159, 46, ca 1, fs_11), (zg, 161, 46, ca 1, fs_3)]) [1, 2] rfl rfl rfl hg_zp (x := z_26.toInt) (rfl) (by omega) (by first | omega | (refine ⟨?_, ?_⟩ <;> (first | omega | rfl | assumption | decide | exact Or.inl rfl | exact Or.inr rfl | (simp only; omega)))) dX13_copyGoal_123 (fun H_30 locs_30 fs_31 hv_30 ho_30 hh_30 => ?_)
              have hv_30 : jSo fs_31 (z_26.toInt) = z_29.toInt := by unfold jSo; rw [hv_30]; try exact rfl
              rw [show z_26.toInt = ((8 * a2.toInt) + v3_14.toInt) by omega] at hv_30 ho_30
              clear hh_24
              obtain ⟨z_32, ez_32⟩ : ∃ y : Int32, y = v3_14 + 1 := ⟨_, rfl⟩
              refine lv_iinc (v := z_32) (lv' := [(3, .int z_32), (0, .ref r0), (1, .int a1), (2, .int a2)]) hx hb dX13_copyGoal_124 hl (k := 3) rfl (by rw [ez_32]; rfl) (by decide) rfl (fun ls hl => ?_)
              have hz_32 : z_32.toInt = v3_14.toInt + 1 := by rw [ez_32]; exact jb_iadd2 (rfl) (by decide) (by omega)
              refine lv_goto (tgt := 74) hx hb dX13_copyGoal_127 (by decide) ?_
              exact L74 z_32 fs_31 _ _ (hh_30.sub (L1 := [(r0, 15, 23, .ref vars_6), (r0, 15, 22, .ref zg), (r0, 15, 25, .ref zh), (r0, 15, 27, .ref zp)]) [1, 2, 3, 4] rfl (M1 := [(zp, 162, 368, ca 1, fs_31), (zh, 159, 46, ca 1, fs_11), (zg, 161, 46, ca 1, fs_3)]) [0, 1, 2] rfl (I1 := []) [] rfl) (⟨(by first | omega | rfl | assumption | (rw [hk0, hfp0]; exact jPq.rf _ _ _) | (rw [show (z_32).toInt = v3_14.toInt + 1 by omega]; exact hi_14_2.s hv_30 ho_30 (by omega) hqz_29 (by omega) (by omega) (by omega) (by omega))), (by first | omega | rfl | assumption | (rw [hk0, hfp0]; exact jPq.rf _ _ _) | (rw [show (z_32).toInt = v3_14.toInt + 1 by omega]; exact hi_14_2.s hv_30 ho_30 (by omega) hqz_29 (by omega) (by omega) (by omega) (by omega))), (by first | assumption | (rw [hk0, hfp0]; exact jPq.rf _ _ _) | (rw [show (z_32).toInt = v3_14.toInt + 1 by omega]; exact hi_14_2.s hv_30 ho_30 (by omega) hqz_29 (by omega) (by omega) (by omega) (by omega)) | omega)⟩) (by omega) _ (lv_sub hl [1, 2, 3, 0] rfl)
        exact L74 (8 - (0 : Int32).toInt : Int).toNat.succ 0 fp _ _ (hh_12.sub (L1 := [(r0, 15, 23, .ref vars_6), (r0, 15, 22, .ref zg), (r0, 15, 25, .ref zh), (r0, 15, 27, .ref zp)]) [0, 1, 2, 3] rfl (M1 := [(zp, 162, 368, ca 1, fp), (zh, 159, 46, ca 1, fs_11), (zg, 161, 46, ca 1, fs_3)]) [2, 0, 1] rfl (I1 := []) [] rfl) (⟨(by first | omega | rfl | assumption | (rw [hk0, hfp0]; exact jPq.rf _ _ _) | (rw [show (0).toInt = (zz_none).toInt + 1 by omega]; exact (zz_none).s hv_30 ho_30 (by omega) hqz_29 (by omega) (by omega) (by omega) (by omega))), (by first | omega | rfl | assumption | (rw [hk0, hfp0]; exact jPq.rf _ _ _) | (rw [show (0).toInt = (zz_none).toInt + 1 by omega]; exact (zz_none).s hv_30 ho_30 (by omega) hqz_29 (by omega) (by omega) (by omega) (by omega))), (by first | assumption | (rw [hk0, hfp0]; exact jPq.rf _ _ _) | (rw [show (0).toInt = (zz_none).toInt + 1 by omega]; exact (zz_none).s hv_30 ho_30 (by omega) hqz_29 (by omega) (by omega) (by omega) (by omega)) | omega)⟩) (by omega) _ (lv_sub hl [1, 2, 3, 0] rfl)
      · skip
        have c_13' : v3_12.toInt < 6 := jb_ge_n (rfl) ((by decide)) c_13
        refine lv_aload_n hx hb dX13_copyGoal_44 rfl (lv_at hl 0 rfl) ?_
        obtain ⟨v_33, hv_33, hh_34⟩ := hh_12.pin (C := RX13) (T := TX13) (N := 50) hB15 rfl (by decide) hg_r0 (i := 24) (by decide) rfl
        clear hh_12
        obtain ⟨varName_35, rfl, hg_varName_35⟩ := hv_33
        refine j7_read hx hb hown hK (C := RX13) (T := TX13) (N := 50) rfl hly_15_24 hlk_59 (hh_34.at 0 rfl) dX13_copyGoal_45 ?_
        refine lv_bipush (v := 6) hx hb dX13_copyGoal_48 (by decide) ?_
        refine lv_iload_n hx hb dX13_copyGoal_50 rfl (lv_at hl 2 rfl) ?_
        refine lv_imul hx hb dX13_copyGoal_51 ?_
        refine lv_topi (fun z_36 ez_36 => ?_)
        have hz_36 : z_36.toInt = 6 * a2.toInt := by rw [ez_36]; exact jb_imul2 ((by decide)) (rfl) (by omega)
        refine lv_iload_n hx hb dX13_copyGoal_52 rfl (lv_at hl 3 rfl) ?_
        refine lv_iadd hx hb dX13_copyGoal_53 ?_
        refine lv_topi (fun z_37 ez_37 => ?_)
        have hz_37 : z_37.toInt = z_36.toInt + v3_12.toInt := by rw [ez_37]; exact jb_iadd2 (rfl) (rfl) (by omega)
        refine lv_aload_n hx hb dX13_copyGoal_54 rfl (lv_at hl 0 rfl) ?_
        refine j7_read hx hb hown hK (C := RX13) (T := TX13) (N := 50) rfl hly_15_24 hlk_59 (hh_34.at 0 rfl) dX13_copyGoal_55 ?_
        refine lv_bipush (v := 6) hx hb dX13_copyGoal_58 (by decide) ?_
        refine lv_iload_n hx hb dX13_copyGoal_60 rfl (lv_at hl 1 rfl) ?_
        refine lv_imul hx hb dX13_copyGoal_61 ?_
        refine lv_topi (fun z_38 ez_38 => ?_)
        have hz_38 : z_38.toInt = 6 * a1.toInt := by rw [ez_38]; exact jb_imul2 ((by decide)) (rfl) (by omega)
        refine lv_iload_n hx hb dX13_copyGoal_62 rfl (lv_at hl 3 rfl) ?_
        refine lv_iadd hx hb dX13_copyGoal_63 ?_
        refine lv_topi (fun z_39 ez_39 => ?_)
        have hz_39 : z_39.toInt = z_38.toInt + v3_12.toInt := by rw [ez_39]; exact jb_iadd2 (rfl) (rfl) (by omega)
        refine j7_iald hx hb hK hh_34 hB163 1 rfl (by decide) hg_varName_35 (x := z_39.toInt) (rfl) (by omega) dX13_copyGoal_64 (fun z_40 (hz_40 : 0 ≤ z_40.toInt ∧ z_40.toInt ≤ 1599) => ?_)
        refine j7_iast hx hb hK hh_34 hB hB163 1 rfl (by decide) (by decide) rfl rfl rfl hg_varName_35 (x := z_37.toInt) (rfl) (by omega) (by first | omega | (refine ⟨?_, ?_⟩ <;> (first | omega | rfl | assumption | decide | exact Or.inl rfl | exact Or.inr rfl | (simp only; omega)))) dX13_copyGoal_65 (fun H_41 locs_41 hh_41 => ?_)
        clear hh_34
        obtain ⟨z_42, ez_42⟩ : ∃ y : Int32, y = v3_12 + 1 := ⟨_, rfl⟩
        refine lv_iinc (v := z_42) (lv' := [(3, .int z_42), (0, .ref r0), (1, .int a1), (2, .int a2)]) hx hb dX13_copyGoal_66 hl (k := 3) rfl (by rw [ez_42]; rfl) (by decide) rfl (fun ls hl => ?_)
        have hz_42 : z_42.toInt = v3_12.toInt + 1 := by rw [ez_42]; exact jb_iadd2 (rfl) (by decide) (by omega)
        refine lv_goto (tgt := 38) hx hb dX13_copyGoal_69 (by decide) ?_
        exact L38 z_42 _ _ (hh_41.sub (L1 := [(r0, 15, 23, .ref vars_6), (r0, 15, 22, .ref zg), (r0, 15, 25, .ref zh), (r0, 15, 27, .ref zp)]) [1, 2, 3, 4] rfl (M1 := [(zh, 159, 46, ca 1, fs_11), (zg, 161, 46, ca 1, fs_3), (zp, 162, 368, ca 1, fp)]) [0, 1, 2] rfl (I1 := []) [] rfl) (by first | omega | (refine ⟨?_, ?_⟩ <;> (first | omega | rfl | assumption | decide | exact Or.inl rfl | exact Or.inr rfl | (simp only; omega)))) (by omega) _ (lv_sub hl [1, 2, 3, 0] rfl)
  exact L38 (6 - (0 : Int32).toInt : Int).toNat.succ 0 _ _ hh_10 (by first | omega | (refine ⟨?_, ?_⟩ <;> (first | omega | rfl | assumption | decide | exact Or.inl rfl | exact Or.inr rfl | (simp only; omega)))) (by omega) _ (lv_sub hl [1, 2, 3, 0] rfl)
set_option maxHeartbeats 4000000 in
set_option maxRecDepth 20000 in
theorem uX13_failsK (l : Launch) (dC : Nat → ClassId) (dI : Nat → Nat → Nat) (ca : Nat → ClassId) (base : Nat) (B : jF) (hB : jBok B) (hAp : jAp (dC, dI)) (hB15 : ∀ n G a H, B 15 n G a H ↔ jOb (dC, dI) 15 50 (F15 n G) a H) (G0 : jT) (H0 : Heap) (r0 : Nat) (a1 : Int32) (pu : Int32) : Met l yX13_fails (jw yX13_fails cX13_fails 2 none) ({ frames := 0, cells := 0, slots := 0, locals := 0 }) (va_Pc [.ref r0, .int a1] (fun U => U.heap = H0 ∧ jX B base G0 [] H0 ∧ jG dC dI ca base U ∧ G0 r0 = some (15, 0) ∧ jP (dC, dI) G0 H0 [(r0, 15, 34, .int pu)] ∧ 0 ≤ pu.toInt ∧ pu.toInt ≤ 9 ∧ 1 ≤ a1.toInt ∧ a1.toInt ≤ 9)) (va_Qv (S := Int32) (fun u => 1 ≤ u.toInt ∧ u.toInt ≤ 9 ∧ pu.toInt ≤ u.toInt ∧ (1 ≤ pu.toInt → u.toInt = pu.toInt)) (fun u t => jRt (dC, dI) B base G0 EX13_failsK H0 [(r0, 15, 34, .int u)] t.heap) (jA base)) 0 0 (jA base) := by
  refine Met.ofW (cc := cX13_fails) (maxL := 2) (ret := none) (by decide) rfl ?_
  intro p e s m args below meth c s₁ Bd hml hv
  obtain ⟨rfl, hH0, hX, hG, hg_r0, hP0, hp0, hp1, hp2, hp3⟩ := hv
  have hK := hG.1
  have hx := Bd.exec
  have hb := Bd.bytes
  have hr := Bd.returns
  have hts := atoms_spec (ws := (jw yX13_fails cX13_fails 2 none)) Bd.pre
  have htw : ∀ w ∈ jWl, w.before _ s = true := fun w h => hts w (List.mem_cons_of_mem _ h)
  have hown : s.vm.findClass RX13 = some m.cls := findClass_of_methodNamed Bd.named
  have hlocks := Bd.notSynchronized
  obtain ⟨Q, hQ⟩ : ∃ Q, Q = MQ below (va_Qv (S := Int32) (fun u => 1 ≤ u.toInt ∧ u.toInt ≤ 9 ∧ pu.toInt ≤ u.toInt ∧ (1 ≤ pu.toInt → u.toInt = pu.toInt)) (fun u t => jRt (dC, dI) B base G0 EX13_failsK H0 [(r0, 15, 34, .int u)] t.heap) (jA base)) ([.ref r0, .int a1] : List Value).toArray s 0 0 (jA base) := ⟨_, rfl⟩
  rw [← hQ]
  have hl := lv_entry ([.ref r0, .int a1]) (n := 2) (Nat.le_of_ble_eq_true rfl)
  rw [lg_entry_eq]
  generalize (lg_sl ([.ref r0, .int a1]) ++ List.replicate (2 - (lg_sl ([.ref r0, .int a1])).length) Slot.unset).toArray = ls at hl ⊢
  have hl : lv_has ls 2 [(0, .ref r0), (1, .int a1)] := hl
  generalize hR : (headSpec (jw yX13_fails cX13_fails 2 none) ({ frames := 0, cells := 0, slots := 0, locals := 0 })).room = R
  subst hH0
  have hh : jSt (dC, dI) B base G0 G0 EX13_failsK s.heap 0 0 [(r0, 15, 34, .int pu)] [] [] s.heap [] := jSt.start hX hP0 jMc.nil jIs.nil
  clear hX hP0
  have hk0 : (0 : Int32).toInt = 0 := by decide
  have hk1 : (1 : Int32).toInt = 1 := by decide
  have hly_15_34 := htw (u_lay RX13 TX13 34) (jWc_wsX130 _ (u_in_lay (by decide)))
  have hlk_221 := (htw (.fieldLink RX13 221 "ProofServerModel$Kernel" "fault" "I") (jWr_60 _ (List.mem_of_getElem? (i := 3) rfl)))
  have hrg_a1 := jb_rng a1
  refine lv_aload_n hx hb dX13_fails_0 rfl (lv_at hl 0 rfl) ?_
  refine j7_read hx hb hown hK (C := RX13) (T := TX13) (N := 50) rfl hly_15_34 hlk_221 (hh.at 0 rfl) dX13_fails_1 ?_
  refine lv_if_ne (tgt := 12) hx hb dX13_fails_4 (by decide) (fun c_1 => ?_) (fun c_1 => ?_)
  · skip
    have c_1' : pu.toInt ≠ 0 := jb_ne (rfl) ((by decide)) c_1
    rw [hQ]
    exact W.vret hx hb hr (fun t ht hW => ⟨⟨pu, rfl, by first | omega | (refine ⟨?_, ?_, ?_, ?_⟩ <;> (first | omega | rfl | assumption | decide | exact Or.inl rfl | exact Or.inr rfl | (simp only; omega))), hh.rt (M1 := [(r0, 15, 34, .int pu)]) [0] rfl ht⟩, by rw [ht]; try exact hh.1.1, fun q h9 hq => by rw [ht]; try exact hh.1.2.1 q h9 hq⟩) hh.1.2.2 dX13_fails_12
  · skip
    have c_1' : pu.toInt = 0 := jb_ne_n (rfl) ((by decide)) c_1
    refine lv_aload_n hx hb dX13_fails_7 rfl (lv_at hl 0 rfl) ?_
    refine lv_iload_n hx hb dX13_fails_8 rfl (lv_at hl 1 rfl) ?_
    refine j7_put hx hb hown hK hh hB hAp hB15 (C := RX13) (T := TX13) (N := 50) rfl (by decide) hg_r0 (i := 34) (by decide) hly_15_34 rfl hlk_221 rfl (ty := .int) (v := .int a1) (by decide +kernel) rfl rfl (⟨_, rfl, by omega, by omega⟩) rfl (L1 := []) [] rfl rfl rfl dX13_fails_9 (fun H_2 locs_2 hh_2 => ?_)
    clear hh
    rw [hQ]
    exact W.vret hx hb hr (fun t ht hW => ⟨⟨a1, rfl, by first | omega | (refine ⟨?_, ?_, ?_, ?_⟩ <;> (first | omega | rfl | assumption | decide | exact Or.inl rfl | exact Or.inr rfl | (simp only; omega))), hh_2.rt (M1 := [(r0, 15, 34, .int a1)]) [0] rfl ht⟩, by rw [ht]; try exact hh_2.1.1, fun q h9 hq => by rw [ht]; try exact hh_2.1.2.1 q h9 hq⟩) hh_2.1.2.2 dX13_fails_12
set_option maxHeartbeats 4000000 in
set_option maxRecDepth 20000 in
theorem uX13_timesK (l : Launch) (dC : Nat → ClassId) (dI : Nat → Nat → Nat) (ca : Nat → ClassId) (base : Nat) (B : jF) (hB : jBok B) (hAp : jAp (dC, dI)) (hB15 : ∀ n G a H, B 15 n G a H ↔ jOb (dC, dI) 15 50 (F15 n G) a H) (hB158 : ∀ n G a H, B 158 n G a H ↔ jAr (dC, dI) (ca 1) (fun j z => 0 ≤ z.toInt ∧ z.toInt ≤ 6) n a H) (hB159 : ∀ n G a H, B 159 n G a H ↔ jAr (dC, dI) (ca 1) (fun j z => 0 ≤ z.toInt ∧ z.toInt ≤ 8) n a H) (hB161 : ∀ n G a H, B 161 n G a H ↔ jAr (dC, dI) (ca 1) (fun j z => 0 ≤ z.toInt ∧ z.toInt ≤ 119999) n a H) (hB162 : ∀ n G a H, B 162 n G a H ↔ jAr (dC, dI) (ca 1) (fun j z => 0 ≤ z.toInt ∧ z.toInt ≤ 119999) n a H) (hB163 : ∀ n G a H, B 163 n G a H ↔ jAr (dC, dI) (ca 1) (fun j z => 0 ≤ z.toInt ∧ z.toInt ≤ 1599) n a H) (G0 : jT) (H0 : Heap) (r0 : Nat) (a1 : Int32) (pg : Int32) (pu : Int32) (zg : Nat) (zh : Nat) (zp : Nat) (fg : Nat → Int32) (fh : Nat → Int32) (fp : Nat → Int32) : Met l yX13_times (jw yX13_times cX13_times 3 none) ({ frames := 1, cells := 0, slots := 0, locals := 23 }) (va_Pc [.ref r0, .int a1] (fun U => U.heap = H0 ∧ jX B base G0 [] H0 ∧ jG dC dI ca base U ∧ G0 r0 = some (15, 0) ∧ G0 zg = some (161, 46) ∧ G0 zh = some (159, 46) ∧ G0 zp = some (162, 368) ∧ jP (dC, dI) G0 H0 [(r0, 15, 21, .int pg), (r0, 15, 34, .int pu), (r0, 15, 22, .ref zg), (r0, 15, 25, .ref zh), (r0, 15, 27, .ref zp)] ∧ jMc (dC, dI) G0 H0 [(zg, 161, 46, ca 1, fg), (zh, 159, 46, ca 1, fh), (zp, 162, 368, ca 1, fp)] ∧ 1 ≤ pg.toInt ∧ pg.toInt ≤ 6 ∧ pu.toInt = 0 ∧ 0 ≤ a1.toInt ∧ a1.toInt ≤ 1000)) (va_Qv (S := Int32 × Int32 × (Nat → Int32) × (Nat → Int32) × (Nat → Int32)) (fun u => 0 ≤ u.2.1.toInt ∧ u.2.1.toInt ≤ 9 ∧ 0 ≤ u.1.toInt ∧ u.1.toInt ≤ 6 ∧ (u.2.1.toInt ≤ 0 → u.1.toInt = pg.toInt + a1.toInt - 1 ∧ jTm fg fh fp u.2.2.1 u.2.2.2.1 u.2.2.2.2 pg.toInt u.1.toInt a1.toInt) ∧ (1 ≤ u.2.1.toInt → u.1.toInt = pg.toInt ∧ u.2.2.1 = fg ∧ u.2.2.2.1 = fh ∧ u.2.2.2.2 = fp)) (fun u t => jRt (dC, dI) B base G0 EX13_timesK H0 [(r0, 15, 21, .int u.1), (r0, 15, 34, .int u.2.1)] t.heap ∧ jMc (dC, dI) G0 t.heap [(zg, 161, 46, ca 1, u.2.2.1), (zh, 159, 46, ca 1, u.2.2.2.1), (zp, 162, 368, ca 1, u.2.2.2.2)]) (jA base)) 0 0 (jA base) := by
  refine Met.ofW (cc := cX13_times) (maxL := 3) (ret := none) (by decide) rfl ?_
  intro p e s m args below meth c s₁ Bd hml hv
  obtain ⟨rfl, hH0, hX, hG, hg_r0, hg_zg, hg_zh, hg_zp, hP0, hM0, hp0, hp1, hp2, hp3, hp4⟩ := hv
  have hK := hG.1
  have hx := Bd.exec
  have hb := Bd.bytes
  have hr := Bd.returns
  have hts := atoms_spec (ws := (jw yX13_times cX13_times 3 none)) Bd.pre
  have htw : ∀ w ∈ jWl, w.before _ s = true := fun w h => hts w (List.mem_cons_of_mem _ h)
  have hown : s.vm.findClass RX13 = some m.cls := findClass_of_methodNamed Bd.named
  have hlocks := Bd.notSynchronized
  obtain ⟨Q, hQ⟩ : ∃ Q, Q = MQ below (va_Qv (S := Int32 × Int32 × (Nat → Int32) × (Nat → Int32) × (Nat → Int32)) (fun u => 0 ≤ u.2.1.toInt ∧ u.2.1.toInt ≤ 9 ∧ 0 ≤ u.1.toInt ∧ u.1.toInt ≤ 6 ∧ (u.2.1.toInt ≤ 0 → u.1.toInt = pg.toInt + a1.toInt - 1 ∧ jTm fg fh fp u.2.2.1 u.2.2.2.1 u.2.2.2.2 pg.toInt u.1.toInt a1.toInt) ∧ (1 ≤ u.2.1.toInt → u.1.toInt = pg.toInt ∧ u.2.2.1 = fg ∧ u.2.2.2.1 = fh ∧ u.2.2.2.2 = fp)) (fun u t => jRt (dC, dI) B base G0 EX13_timesK H0 [(r0, 15, 21, .int u.1), (r0, 15, 34, .int u.2.1)] t.heap ∧ jMc (dC, dI) G0 t.heap [(zg, 161, 46, ca 1, u.2.2.1), (zh, 159, 46, ca 1, u.2.2.2.1), (zp, 162, 368, ca 1, u.2.2.2.2)]) (jA base)) ([.ref r0, .int a1] : List Value).toArray s 0 0 (jA base) := ⟨_, rfl⟩
  rw [← hQ]
  have hl := lv_entry ([.ref r0, .int a1]) (n := 3) (Nat.le_of_ble_eq_true rfl)
  rw [lg_entry_eq]
  generalize (lg_sl ([.ref r0, .int a1]) ++ List.replicate (3 - (lg_sl ([.ref r0, .int a1])).length) Slot.unset).toArray = ls at hl ⊢
  have hl : lv_has ls 3 [(0, .ref r0), (1, .int a1)] := hl
  generalize hR : (headSpec (jw yX13_times cX13_times 3 none) ({ frames := 1, cells := 0, slots := 0, locals := 23 })).room = R
  subst hH0
  have hh : jSt (dC, dI) B base G0 G0 EX13_timesK s.heap 0 0 [(r0, 15, 21, .int pg), (r0, 15, 34, .int pu), (r0, 15, 22, .ref zg), (r0, 15, 25, .ref zh), (r0, 15, 27, .ref zp)] [(zg, 161, 46, ca 1, fg), (zh, 159, 46, ca 1, fh), (zp, 162, 368, ca 1, fp)] [] s.heap [] := jSt.start hX hP0 hM0 jIs.nil
  clear hX hP0
  have hk0 : (0 : Int32).toInt = 0 := by decide
  have hk1 : (1 : Int32).toInt = 1 := by decide
  have hk6 : (6 : Int32).toInt = 6 := by decide
  have hk9 : (9 : Int32).toInt = 9 := by decide
  have hly_15_21 := htw (u_lay RX13 TX13 21) (jWc_wsX130 _ (u_in_lay (by decide)))
  have hly_15_34 := htw (u_lay RX13 TX13 34) (jWc_wsX130 _ (u_in_lay (by decide)))
  have hlk_119 := (htw (.fieldLink RX13 119 "ProofServerModel$Kernel" "goals" "I") (jWr_59 _ (List.mem_of_getElem? (i := 20) rfl)))
  have hlk_221 := (htw (.fieldLink RX13 221 "ProofServerModel$Kernel" "fault" "I") (jWr_60 _ (List.mem_of_getElem? (i := 3) rfl)))
  have hrg_a1 := jb_rng a1
  obtain ⟨fg0, hfg0⟩ : ∃ z, z = fg := ⟨_, rfl⟩
  obtain ⟨fh0, hfh0⟩ : ∃ z, z = fh := ⟨_, rfl⟩
  obtain ⟨fp0, hfp0⟩ : ∃ z, z = fp := ⟨_, rfl⟩
  refine lv_aload_n hx hb dX13_times_0 rfl (lv_at hl 0 rfl) ?_
  refine j7_read hx hb hown hK (C := RX13) (T := TX13) (N := 50) rfl hly_15_21 hlk_119 (hh.at 0 rfl) dX13_times_1 ?_
  refine lv_iconst (v := 1) hx hb dX13_times_4 (by decide) ?_
  refine lv_isub hx hb dX13_times_5 ?_
  refine lv_topi (fun z_1 ez_1 => ?_)
  have hz_1 : z_1.toInt = pg.toInt - 1 := by rw [ez_1]; exact jb_isub2 (rfl) ((by decide)) (by omega)
  refine lv_iload_n hx hb dX13_times_6 rfl (lv_at hl 1 rfl) ?_
  refine lv_iadd hx hb dX13_times_7 ?_
  refine lv_topi (fun z_2 ez_2 => ?_)
  have hz_2 : z_2.toInt = z_1.toInt + a1.toInt := by rw [ez_2]; exact jb_iadd2 (rfl) (rfl) (by omega)
  refine lv_bipush (v := 6) hx hb dX13_times_8 (by decide) ?_
  refine lv_icmp_le (tgt := 19) hx hb dX13_times_10 (by decide) (fun c_3 => ?_) (fun c_3 => ?_)
  · skip
    have c_3' : z_2.toInt ≤ 6 := jb_le (rfl) ((by decide)) c_3
    refine lv_aload_n hx hb dX13_times_19 rfl (lv_at hl 0 rfl) ?_
    refine j7_read hx hb hown hK (C := RX13) (T := TX13) (N := 50) rfl hly_15_34 hlk_221 (hh.at 1 rfl) dX13_times_20 ?_
    refine lv_if_le (tgt := 27) hx hb dX13_times_23 (by decide) (fun c_4 => ?_) (fun c_4 => ?_)
    · skip
      have c_4' : pu.toInt ≤ 0 := jb_le (rfl) ((by decide)) c_4
      refine lv_iload_n hx hb dX13_times_27 rfl (lv_at hl 1 rfl) ?_
      have C57 : ∀ (fg_5 : Nat → Int32) (fh_5 : Nat → Int32) (fp_5 : Nat → Int32) (H_5 : Heap) (locs_5 : List Loc), jSt (dC, dI) B base G0 G0 EX13_timesK s.heap 0 0 [(r0, 15, 21, .int pg), (r0, 15, 34, .int pu), (r0, 15, 22, .ref zg), (r0, 15, 25, .ref zh), (r0, 15, 27, .ref zp)] [(zp, 162, 368, ca 1, fp_5), (zh, 159, 46, ca 1, fh_5), (zg, 161, 46, ca 1, fg_5)] [] H_5 locs_5 → ((a1.toInt = 0 → jT0 fg0 fh0 fp0 fg_5 fh_5 fp_5 pg.toInt (pg.toInt - 1)) ∧ (1 ≤ a1.toInt → fg_5 = fg0 ∧ fh_5 = fh0 ∧ fp_5 = fp0)) → ∀ ls : Array Slot, lv_has ls 3 [(0, .ref r0), (1, .int a1)] → W p l e R s m ([.ref r0, .int a1] : List Value).toArray below meth c H_5 locs_5 0 0 Q (F0 m 57 ls []) := by
        intro fg_5 fh_5 fp_5 H_5 locs_5 hh_5  hi_5 ls hl
        obtain ⟨hi_5_0, hi_5_1⟩ := hi_5
        refine lv_aload_n hx hb dX13_times_57 rfl (lv_at hl 0 rfl) ?_
        refine j7_read hx hb hown hK (C := RX13) (T := TX13) (N := 50) rfl hly_15_21 hlk_119 (hh_5.at 0 rfl) dX13_times_58 ?_
        refine lv_iconst (v := 1) hx hb dX13_times_61 (by decide) ?_
        refine lv_isub hx hb dX13_times_62 ?_
        refine lv_topi (fun z_6 ez_6 => ?_)
        have hz_6 : z_6.toInt = pg.toInt - 1 := by rw [ez_6]; exact jb_isub2 (rfl) ((by decide)) (by omega)
        refine lv_istore_n (lv' := [(2, .int z_6), (0, .ref r0), (1, .int a1)]) hx hb dX13_times_63 rfl hl (by decide) rfl (fun ls hl => ?_)
        have L64 : ∀ (N : Nat) (v2_7 : Int32) (fg_7 : Nat → Int32) (fh_7 : Nat → Int32) (fp_7 : Nat → Int32) (H_7 : Heap) (locs_7 : List Loc), jSt (dC, dI) B base G0 G0 EX13_timesK s.heap 0 0 [(r0, 15, 21, .int pg), (r0, 15, 34, .int pu), (r0, 15, 22, .ref zg), (r0, 15, 25, .ref zh), (r0, 15, 27, .ref zp)] [(zp, 162, 368, ca 1, fp_7), (zh, 159, 46, ca 1, fh_7), (zg, 161, 46, ca 1, fg_7)] [] H_7 locs_7 → (0 ≤ v2_7.toInt ∧ v2_7.toInt ≤ pg.toInt - 1 ∧ (a1.toInt = 0 → jT0 fg0 fh0 fp0 fg_7 fh_7 fp_7 pg.toInt (pg.toInt - 1)) ∧ (1 ≤ a1.toInt → jTu1 fg0 fh0 fp0 fg_7 fh_7 fp_7 pg.toInt a1.toInt v2_7.toInt)) → (v2_7.toInt : Int) < N → ∀ ls : Array Slot, lv_has ls 3 [(0, .ref r0), (1, .int a1), (2, .int v2_7)] → W p l e R s m ([.ref r0, .int a1] : List Value).toArray below meth c H_7 locs_7 0 0 Q (F0 m 64 ls []) := by
          intro N
          induction N with
          | zero => intro v2_7 fg_7 fh_7 fp_7 H_7 locs_7 hh_7  hi_7 hm; exact absurd hm (by omega)
          | succ N L64 =>
            intro v2_7 fg_7 fh_7 fp_7 H_7 locs_7 hh_7  hi_7 hm_7 ls hl
            obtain ⟨hi_7_0, hi_7_1, hi_7_2, hi_7_3⟩ := hi_7
            refine lv_iload_n hx hb dX13_times_64 rfl (lv_at hl 2 rfl) ?_
            refine lv_if_le (tgt := 88) hx hb dX13_times_65 (by decide) (fun c_8 => ?_) (fun c_8 => ?_)
            · skip
              have c_8' : v2_7.toInt ≤ 0 := jb_le (rfl) ((by decide)) c_8
              refine lv_iconst (v := 1) hx hb dX13_times_88 (by decide) ?_
              refine lv_istore_n (lv' := [(2, .int 1), (0, .ref r0), (1, .int a1)]) hx hb dX13_times_89 rfl hl (by decide) rfl (fun ls hl => ?_)
              have L90 : ∀ (N : Nat) (v2_9 : Int32) (fg_9 : Nat → Int32) (fh_9 : Nat → Int32) (fp_9 : Nat → Int32) (H_9 : Heap) (locs_9 : List Loc), jSt (dC, dI) B base G0 G0 EX13_timesK s.heap 0 0 [(r0, 15, 21, .int pg), (r0, 15, 34, .int pu), (r0, 15, 22, .ref zg), (r0, 15, 25, .ref zh), (r0, 15, 27, .ref zp)] [(zp, 162, 368, ca 1, fp_9), (zh, 159, 46, ca 1, fh_9), (zg, 161, 46, ca 1, fg_9)] [] H_9 locs_9 → (1 ≤ v2_9.toInt ∧ v2_9.toInt ≤ 1001 ∧ (a1.toInt = 0 → jT0 fg0 fh0 fp0 fg_9 fh_9 fp_9 pg.toInt (pg.toInt - 1)) ∧ (1 ≤ a1.toInt → jTu2 fg0 fh0 fp0 fg_9 fh_9 fp_9 pg.toInt a1.toInt v2_9.toInt)) → (((a1.toInt - v2_9.toInt).toNat : Int) : Int) < N → ∀ ls : Array Slot, lv_has ls 3 [(0, .ref r0), (1, .int a1), (2, .int v2_9)] → W p l e R s m ([.ref r0, .int a1] : List Value).toArray below meth c H_9 locs_9 0 0 Q (F0 m 90 ls []) := by
                intro N
                induction N with
                | zero => intro v2_9 fg_9 fh_9 fp_9 H_9 locs_9 hh_9  hi_9 hm; exact absurd hm (by omega)
                | succ N L90 =>
                  intro v2_9 fg_9 fh_9 fp_9 H_9 locs_9 hh_9  hi_9 hm_9 ls hl
                  obtain ⟨hi_9_0, hi_9_1, hi_9_2, hi_9_3⟩ := hi_9
                  refine lv_iload_n hx hb dX13_times_90 rfl (lv_at hl 2 rfl) ?_
                  refine lv_iload_n hx hb dX13_times_91 rfl (lv_at hl 1 rfl) ?_
                  refine lv_icmp_ge (tgt := 107) hx hb dX13_times_92 (by decide) (fun c_10 => ?_) (fun c_10 => ?_)
                  · skip
                    have c_10' : v2_9.toInt ≥ a1.toInt := jb_ge (rfl) (rfl) c_10
                    refine lv_aload_n hx hb dX13_times_107 rfl (lv_at hl 0 rfl) ?_
                    refine lv_dup hx hb dX13_times_108 rfl ?_
                    refine j7_read hx hb hown hK (C := RX13) (T := TX13) (N := 50) rfl hly_15_21 hlk_119 (hh_9.at 0 rfl) dX13_times_109 ?_
                    refine lv_iload_n hx hb dX13_times_112 rfl (lv_at hl 1 rfl) ?_
                    refine lv_iconst (v := 1) hx hb dX13_times_113 (by decide) ?_
                    refine lv_isub hx hb dX13_times_114 ?_
                    refine lv_topi (fun z_11 ez_11 => ?_)
                    have hz_11 : z_11.toInt = a1.toInt - 1 := by rw [ez_11]; exact jb_isub2 (rfl) ((by decide)) (by omega)
                    refine lv_iadd hx hb dX13_times_115 ?_
                    refine lv_topi (fun z_12 ez_12 => ?_)
                    have hz_12 : z_12.toInt = pg.toInt + z_11.toInt := by rw [ez_12]; exact jb_iadd2 (rfl) (rfl) (by omega)
                    refine j7_put hx hb hown hK hh_9 hB hAp hB15 (C := RX13) (T := TX13) (N := 50) rfl (by decide) hg_r0 (i := 21) (by decide) hly_15_21 rfl hlk_119 rfl (ty := .int) (v := .int z_12) (by decide +kernel) rfl rfl (⟨_, rfl, by omega, by omega⟩) rfl (L1 := [(r0, 15, 34, .int pu), (r0, 15, 22, .ref zg), (r0, 15, 25, .ref zh), (r0, 15, 27, .ref zp)]) [1, 2, 3, 4] rfl rfl rfl dX13_times_116 (fun H_13 locs_13 hh_13 => ?_)
                    clear hh_9
                    rw [hQ]
                    exact W.vret hx hb hr (fun t ht hW => ⟨⟨(z_12, pu, fg_9, fh_9, fp_9), rfl, by
    try dsimp only
    refine ⟨by omega, by omega, by omega, by omega, fun _ => ⟨by omega, ?_⟩, fun h9 => absurd h9 (by omega)⟩
    by_cases h7 : a1.toInt = 0
    · have h8 := hi_9_2 h7
      rw [hfg0, hfh0, hfp0] at h8
      exact h8.tm rfl (by omega) (by omega)
    · have h8 := hi_9_3 (by omega)
      rw [hfg0, hfh0, hfp0] at h8
      exact h8.tm (by omega) (by omega) (by omega), ⟨hh_13.rt (M1 := [(r0, 15, 21, .int z_12), (r0, 15, 34, .int pu)]) [0, 1] rfl ht, by rw [ht]; exact hh_13.2.2.2.2.2.2.2.1.sub [2, 1, 0] rfl⟩⟩, by rw [ht]; try exact hh_13.1.1, fun q h9 hq => by rw [ht]; try exact hh_13.1.2.1 q h9 hq⟩) hh_13.1.2.2 dX13_times_119
                  · skip
                    have c_10' : v2_9.toInt < a1.toInt := jb_ge_n (rfl) (rfl) c_10
                    refine lv_aload_n hx hb dX13_times_95 rfl (lv_at hl 0 rfl) ?_
                    refine lv_iconst (v := 0) hx hb dX13_times_96 (by decide) ?_
                    refine lv_iload_n hx hb dX13_times_97 rfl (lv_at hl 2 rfl) ?_
                    refine va_callv (A0 := jA base) (H0 := s.heap) (va_runV (As := [.int 0, .int v2_9]) (rest := []) ⟨hx, hb, hml, hown, hts⟩ (uX13_copyGoalK l dC dI ca base B hB hAp hB15 hB158 hB159 hB161 hB162 hB163 G0 H_9 r0 0 v2_9 zg zh zp fg_9 fh_9 fp_9) (cwV 2 hts (jgV (jWr_67 _ (List.mem_of_getElem? (i := 23) rfl)) (jWr_68 _ (List.mem_of_getElem? (i := 0) rfl)) (jWr_68 _ (List.mem_of_getElem? (i := 1) rfl)) (jWr_12 _ (List.mem_of_getElem? (i := 12) rfl)) (jWr_68 _ (List.mem_of_getElem? (i := 2) rfl))) rfl rfl rfl (by decide +kernel) ⟨by rw [← hR]; exact Nat.le_of_ble_eq_true rfl, by rw [← hR]; exact Nat.le_of_ble_eq_true rfl⟩) ⟨fun a U g mk q => by obtain ⟨q0, q1, q2, qK, q10, q11, q12, q13, q14, q15, q16⟩ := q; exact ⟨q0, q1, q2, jG.calling g mk a qK, q10, q11, q12, q13, q14, q15, q16⟩, hh_9.recv (C := RX13) (T := TX13) (N := 50) hB15 rfl (by decide) hg_r0 hK, fun U hU hW => ⟨rfl, hU, hh_9.2.1, hG.step hW hU hh_9.1, hg_r0, hg_zg, hg_zh, hg_zp, (hh_9.2.2.1.sub (L1 := [(r0, 15, 22, .ref zg), (r0, 15, 25, .ref zh), (r0, 15, 27, .ref zp)]) [2, 3, 4] rfl), (hh_9.2.2.2.2.2.2.2.1.sub (L1 := [(zg, 161, 46, ca 1, fg_9), (zh, 159, 46, ca 1, fh_9), (zp, 162, 368, ca 1, fp_9)]) [2, 1, 0] rfl), by first | omega | (refine ⟨?_, ?_, ?_, ?_⟩ <;> (first | omega | rfl | assumption | decide | exact Or.inl rfl | exact Or.inr rfl | (simp only; omega)))⟩⟩ rfl rfl hl.1 rfl (lv_room (Nat.le_of_ble_eq_true rfl)) dX13_times_98 ⟨Nat.zero_le _, Nat.zero_le _⟩) hh_9.1 (fun q _ h => h) (fun q h => h) (fun u_14 t_14 H_14 locs_14 ht_14 hvm_14 hr_15 hb_14 hz_14 hk_14 hS_14 => ?_)
                    obtain ⟨gg_14, gh_14, gp_14⟩ := u_14
                    rw [ht_14] at hb_14
                    obtain ⟨⟨hb_141, hb_142, hb_143, hb_144, hb_145⟩, hb_146⟩ := hb_14
                    have hh_14 : jSt (dC, dI) B base G0 G0 EX13_timesK s.heap 0 0 [(r0, 15, 21, .int pg), (r0, 15, 34, .int pu), (r0, 15, 22, .ref zg), (r0, 15, 25, .ref zh), (r0, 15, 27, .ref zp)] [(zg, 161, 46, ca 1, gg_14), (zh, 159, 46, ca 1, gh_14), (zp, 162, 368, ca 1, gp_14)] [] H_14 locs_14 := ((hh_9.call hb_141 hb_142 hb_143 hb_144 hS_14 rfl (L1 := [(r0, 15, 21, .int pg), (r0, 15, 34, .int pu), (r0, 15, 22, .ref zg), (r0, 15, 25, .ref zh), (r0, 15, 27, .ref zp)]) [0, 1, 2, 3, 4] rfl rfl (M1 := []) [] rfl rfl (I1 := []) [] rfl rfl).more hb_145).moreM hb_146
                    clear hh_9 ht_14 hvm_14 hz_14 hk_14 hS_14 hb_141 hb_142 hb_143 hb_144 hb_145
                    clear hb_146
                    try simp only at hr_15
                    obtain ⟨z_16, ez_16⟩ : ∃ y : Int32, y = v2_9 + 1 := ⟨_, rfl⟩
                    refine lv_iinc (v := z_16) (lv' := [(2, .int z_16), (0, .ref r0), (1, .int a1)]) hx hb dX13_times_101 hl (k := 2) rfl (by rw [ez_16]; rfl) (by decide) rfl (fun ls hl => ?_)
                    have hz_16 : z_16.toInt = v2_9.toInt + 1 := by rw [ez_16]; exact jb_iadd2 (rfl) (by decide) (by omega)
                    refine lv_goto (tgt := 90) hx hb dX13_times_104 (by decide) ?_
                    exact L90 z_16 gg_14 gh_14 gp_14 _ _ (hh_14.sub (L1 := [(r0, 15, 21, .int pg), (r0, 15, 34, .int pu), (r0, 15, 22, .ref zg), (r0, 15, 25, .ref zh), (r0, 15, 27, .ref zp)]) [0, 1, 2, 3, 4] rfl (M1 := [(zp, 162, 368, ca 1, gp_14), (zh, 159, 46, ca 1, gh_14), (zg, 161, 46, ca 1, gg_14)]) [2, 1, 0] rfl (I1 := []) [] rfl) (⟨(by first | omega | rfl | assumption | (intro h9; exact absurd h9 (by omega)) | exact hi_7_2 | (intro h9; rw [hk1]; exact (hi_7_3 h9).two (by omega)) | (intro h9; rw [show (z_16).toInt = v2_9.toInt + 1 by omega]; exact (hi_9_3 h9).s hr_15 (by omega) (by omega) (by omega) (by omega) (by omega) (by omega))), (by first | omega | rfl | assumption | (intro h9; exact absurd h9 (by omega)) | exact hi_7_2 | (intro h9; rw [hk1]; exact (hi_7_3 h9).two (by omega)) | (intro h9; rw [show (z_16).toInt = v2_9.toInt + 1 by omega]; exact (hi_9_3 h9).s hr_15 (by omega) (by omega) (by omega) (by omega) (by omega) (by omega))), (by first | assumption | (intro h9; exact absurd h9 (by omega)) | exact hi_7_2 | (intro h9; rw [hk1]; exact (hi_7_3 h9).two (by omega)) | (intro h9; rw [show (z_16).toInt = v2_9.toInt + 1 by omega]; exact (hi_9_3 h9).s hr_15 (by omega) (by omega) (by omega) (by omega) (by omega) (by omega)) | omega), (by first | assumption | (intro h9; exact absurd h9 (by omega)) | exact hi_7_2 | (intro h9; rw [hk1]; exact (hi_7_3 h9).two (by omega)) | (intro h9; rw [show (z_16).toInt = v2_9.toInt + 1 by omega]; exact (hi_9_3 h9).s hr_15 (by omega) (by omega) (by omega) (by omega) (by omega) (by omega)) | omega)⟩) (by omega) _ (lv_sub hl [1, 2, 0] rfl)
              exact L90 (((a1.toInt - (1 : Int32).toInt).toNat : Int) : Int).toNat.succ 1 fg_7 fh_7 fp_7 _ _ hh_7 (⟨(by first | omega | rfl | assumption | (intro h9; exact absurd h9 (by omega)) | exact hi_7_2 | (intro h9; rw [hk1]; exact (hi_7_3 h9).two (by omega)) | (intro h9; rw [show (1).toInt = (zz_none).toInt + 1 by omega]; exact ((zz_none) h9).s hr_15 (by omega) (by omega) (by omega) (by omega) (by omega) (by omega))), (by first | omega | rfl | assumption | (intro h9; exact absurd h9 (by omega)) | exact hi_7_2 | (intro h9; rw [hk1]; exact (hi_7_3 h9).two (by omega)) | (intro h9; rw [show (1).toInt = (zz_none).toInt + 1 by omega]; exact ((zz_none) h9).s hr_15 (by omega) (by omega) (by omega) (by omega) (by omega) (by omega))), (by first | assumption | (intro h9; exact absurd h9 (by omega)) | exact hi_7_2 | (intro h9; rw [hk1]; exact (hi_7_3 h9).two (by omega)) | (intro h9; rw [show (1).toInt = (zz_none).toInt + 1 by omega]; exact ((zz_none) h9).s hr_15 (by omega) (by omega) (by omega) (by omega) (by omega) (by omega)) | omega), (by first | assumption | (intro h9; exact absurd h9 (by omega)) | exact hi_7_2 | (intro h9; rw [hk1]; exact (hi_7_3 h9).two (by omega)) | (intro h9; rw [show (1).toInt = (zz_none).toInt + 1 by omega]; exact ((zz_none) h9).s hr_15 (by omega) (by omega) (by omega) (by omega) (by omega) (by omega)) | omega)⟩) (by omega) _ (lv_sub hl [1, 2, 0] rfl)
            · skip
              have c_8' : v2_7.toInt > 0 := jb_le_n (rfl) ((by decide)) c_8
              refine lv_iload_n hx hb dX13_times_68 rfl (lv_at hl 1 rfl) ?_
              refine lv_if_le (tgt := 88) hx hb dX13_times_69 (by decide) (fun c_17 => ?_) (fun c_17 => ?_)
              · skip
                have c_17' : a1.toInt ≤ 0 := jb_le (rfl) ((by decide)) c_17
                refine lv_iconst (v := 1) hx hb dX13_times_88 (by decide) ?_
                refine lv_istore_n (lv' := [(2, .int 1), (0, .ref r0), (1, .int a1)]) hx hb dX13_times_89 rfl hl (by decide) rfl (fun ls hl => ?_)
                have L90 : ∀ (N : Nat) (v2_18 : Int32) (fg_18 : Nat → Int32) (fh_18 : Nat → Int32) (fp_18 : Nat → Int32) (H_18 : Heap) (locs_18 : List Loc), jSt (dC, dI) B base G0 G0 EX13_timesK s.heap 0 0 [(r0, 15, 21, .int pg), (r0, 15, 34, .int pu), (r0, 15, 22, .ref zg), (r0, 15, 25, .ref zh), (r0, 15, 27, .ref zp)] [(zp, 162, 368, ca 1, fp_18), (zh, 159, 46, ca 1, fh_18), (zg, 161, 46, ca 1, fg_18)] [] H_18 locs_18 → (1 ≤ v2_18.toInt ∧ v2_18.toInt ≤ 1001 ∧ (a1.toInt = 0 → jT0 fg0 fh0 fp0 fg_18 fh_18 fp_18 pg.toInt (pg.toInt - 1)) ∧ (1 ≤ a1.toInt → jTu2 fg0 fh0 fp0 fg_18 fh_18 fp_18 pg.toInt a1.toInt v2_18.toInt)) → (((a1.toInt - v2_18.toInt).toNat : Int) : Int) < N → ∀ ls : Array Slot, lv_has ls 3 [(0, .ref r0), (1, .int a1), (2, .int v2_18)] → W p l e R s m ([.ref r0, .int a1] : List Value).toArray below meth c H_18 locs_18 0 0 Q (F0 m 90 ls []) := by
                  intro N
                  induction N with
                  | zero => intro v2_18 fg_18 fh_18 fp_18 H_18 locs_18 hh_18  hi_18 hm; exact absurd hm (by omega)
                  | succ N L90 =>
                    intro v2_18 fg_18 fh_18 fp_18 H_18 locs_18 hh_18  hi_18 hm_18 ls hl
                    obtain ⟨hi_18_0, hi_18_1, hi_18_2, hi_18_3⟩ := hi_18
                    refine lv_iload_n hx hb dX13_times_90 rfl (lv_at hl 2 rfl) ?_
                    refine lv_iload_n hx hb dX13_times_91 rfl (lv_at hl 1 rfl) ?_
                    refine lv_icmp_ge (tgt := 107) hx hb dX13_times_92 (by decide) (fun c_19 => ?_) (fun c_19 => ?_)
                    · skip
                      have c_19' : v2_18.toInt ≥ a1.toInt := jb_ge (rfl) (rfl) c_19
                      refine lv_aload_n hx hb dX13_times_107 rfl (lv_at hl 0 rfl) ?_
                      refine lv_dup hx hb dX13_times_108 rfl ?_
                      refine j7_read hx hb hown hK (C := RX13) (T := TX13) (N := 50) rfl hly_15_21 hlk_119 (hh_18.at 0 rfl) dX13_times_109 ?_
                      refine lv_iload_n hx hb dX13_times_112 rfl (lv_at hl 1 rfl) ?_
                      refine lv_iconst (v := 1) hx hb dX13_times_113 (by decide) ?_
                      refine lv_isub hx hb dX13_times_114 ?_
                      refine lv_topi (fun z_20 ez_20 => ?_)
                      have hz_20 : z_20.toInt = a1.toInt - 1 := by rw [ez_20]; exact jb_isub2 (rfl) ((by decide)) (by omega)
                      refine lv_iadd hx hb dX13_times_115 ?_
                      refine lv_topi (fun z_21 ez_21 => ?_)
                      have hz_21 : z_21.toInt = pg.toInt + z_20.toInt := by rw [ez_21]; exact jb_iadd2 (rfl) (rfl) (by omega)
                      refine j7_put hx hb hown hK hh_18 hB hAp hB15 (C := RX13) (T := TX13) (N := 50) rfl (by decide) hg_r0 (i := 21) (by decide) hly_15_21 rfl hlk_119 rfl (ty := .int) (v := .int z_21) (by decide +kernel) rfl rfl (⟨_, rfl, by omega, by omega⟩) rfl (L1 := [(r0, 15, 34, .int pu), (r0, 15, 22, .ref zg), (r0, 15, 25, .ref zh), (r0, 15, 27, .ref zp)]) [1, 2, 3, 4] rfl rfl rfl dX13_times_116 (fun H_22 locs_22 hh_22 => ?_)
                      clear hh_18
                      rw [hQ]
                      exact W.vret hx hb hr (fun t ht hW => ⟨⟨(z_21, pu, fg_18, fh_18, fp_18), rfl, by
    try dsimp only
    refine ⟨by omega, by omega, by omega, by omega, fun _ => ⟨by omega, ?_⟩, fun h9 => absurd h9 (by omega)⟩
    by_cases h7 : a1.toInt = 0
    · have h8 := hi_18_2 h7
      rw [hfg0, hfh0, hfp0] at h8
      exact h8.tm rfl (by omega) (by omega)
    · have h8 := hi_18_3 (by omega)
      rw [hfg0, hfh0, hfp0] at h8
      exact h8.tm (by omega) (by omega) (by omega), ⟨hh_22.rt (M1 := [(r0, 15, 21, .int z_21), (r0, 15, 34, .int pu)]) [0, 1] rfl ht, by rw [ht]; exact hh_22.2.2.2.2.2.2.2.1.sub [2, 1, 0] rfl⟩⟩, by rw [ht]; try exact hh_22.1.1, fun q h9 hq => by rw [ht]; try exact hh_22.1.2.1 q h9 hq⟩) hh_22.1.2.2 dX13_times_119
                    · skip
                      have c_19' : v2_18.toInt < a1.toInt := jb_ge_n (rfl) (rfl) c_19
                      refine lv_aload_n hx hb dX13_times_95 rfl (lv_at hl 0 rfl) ?_
                      refine lv_iconst (v := 0) hx hb dX13_times_96 (by decide) ?_
                      refine lv_iload_n hx hb dX13_times_97 rfl (lv_at hl 2 rfl) ?_
                      refine va_callv (A0 := jA base) (H0 := s.heap) (va_runV (As := [.int 0, .int v2_18]) (rest := []) ⟨hx, hb, hml, hown, hts⟩ (uX13_copyGoalK l dC dI ca base B hB hAp hB15 hB158 hB159 hB161 hB162 hB163 G0 H_18 r0 0 v2_18 zg zh zp fg_18 fh_18 fp_18) (cwV 2 hts (jgV (jWr_67 _ (List.mem_of_getElem? (i := 23) rfl)) (jWr_68 _ (List.mem_of_getElem? (i := 0) rfl)) (jWr_68 _ (List.mem_of_getElem? (i := 1) rfl)) (jWr_12 _ (List.mem_of_getElem? (i := 12) rfl)) (jWr_68 _ (List.mem_of_getElem? (i := 2) rfl))) rfl rfl rfl (by decide +kernel) ⟨by rw [← hR]; exact Nat.le_of_ble_eq_true rfl, by rw [← hR]; exact Nat.le_of_ble_eq_true rfl⟩) ⟨fun a U g mk q => by obtain ⟨q0, q1, q2, qK, q10, q11, q12, q13, q14, q15, q16⟩ := q; exact ⟨q0, q1, q2, jG.calling g mk a qK, q10, q11, q12, q13, q14, q15, q16⟩, hh_18.recv (C := RX13) (T := TX13) (N := 50) hB15 rfl (by decide) hg_r0 hK, fun U hU hW => ⟨rfl, hU, hh_18.2.1, hG.step hW hU hh_18.1, hg_r0, hg_zg, hg_zh, hg_zp, (hh_18.2.2.1.sub (L1 := [(r0, 15, 22, .ref zg), (r0, 15, 25, .ref zh), (r0, 15, 27, .ref zp)]) [2, 3, 4] rfl), (hh_18.2.2.2.2.2.2.2.1.sub (L1 := [(zg, 161, 46, ca 1, fg_18), (zh, 159, 46, ca 1, fh_18), (zp, 162, 368, ca 1, fp_18)]) [2, 1, 0] rfl), by first | omega | (refine ⟨?_, ?_, ?_, ?_⟩ <;> (first | omega | rfl | assumption | decide | exact Or.inl rfl | exact Or.inr rfl | (simp only; omega)))⟩⟩ rfl rfl hl.1 rfl (lv_room (Nat.le_of_ble_eq_true rfl)) dX13_times_98 ⟨Nat.zero_le _, Nat.zero_le _⟩) hh_18.1 (fun q _ h => h) (fun q h => h) (fun u_23 t_23 H_23 locs_23 ht_23 hvm_23 hr_24 hb_23 hz_23 hk_23 hS_23 => ?_)
                      obtain ⟨gg_23, gh_23, gp_23⟩ := u_23
                      rw [ht_23] at hb_23
                      obtain ⟨⟨hb_231, hb_232, hb_233, hb_234, hb_235⟩, hb_236⟩ := hb_23
                      have hh_23 : jSt (dC, dI) B base G0 G0 EX13_timesK s.heap 0 0 [(r0, 15, 21, .int pg), (r0, 15, 34, .int pu), (r0, 15, 22, .ref zg), (r0, 15, 25, .ref zh), (r0, 15, 27, .ref zp)] [(zg, 161, 46, ca 1, gg_23), (zh, 159, 46, ca 1, gh_23), (zp, 162, 368, ca 1, gp_23)] [] H_23 locs_23 := ((hh_18.call hb_231 hb_232 hb_233 hb_234 hS_23 rfl (L1 := [(r0, 15, 21, .int pg), (r0, 15, 34, .int pu), (r0, 15, 22, .ref zg), (r0, 15, 25, .ref zh), (r0, 15, 27, .ref zp)]) [0, 1, 2, 3, 4] rfl rfl (M1 := []) [] rfl rfl (I1 := []) [] rfl rfl).more hb_235).moreM hb_236
                      clear hh_18 ht_23 hvm_23 hz_23 hk_23 hS_23 hb_231 hb_232 hb_233 hb_234 hb_235
                      clear hb_236
                      try simp only at hr_24
                      obtain ⟨z_25, ez_25⟩ : ∃ y : Int32, y = v2_18 + 1 := ⟨_, rfl⟩
                      refine lv_iinc (v := z_25) (lv' := [(2, .int z_25), (0, .ref r0), (1, .int a1)]) hx hb dX13_times_101 hl (k := 2) rfl (by rw [ez_25]; rfl) (by decide) rfl (fun ls hl => ?_)
                      have hz_25 : z_25.toInt = v2_18.toInt + 1 := by rw [ez_25]; exact jb_iadd2 (rfl) (by decide) (by omega)
                      refine lv_goto (tgt := 90) hx hb dX13_times_104 (by decide) ?_
                      exact L90 z_25 gg_23 gh_23 gp_23 _ _ (hh_23.sub (L1 := [(r0, 15, 21, .int pg), (r0, 15, 34, .int pu), (r0, 15, 22, .ref zg), (r0, 15, 25, .ref zh), (r0, 15, 27, .ref zp)]) [0, 1, 2, 3, 4] rfl (M1 := [(zp, 162, 368, ca 1, gp_23), (zh, 159, 46, ca 1, gh_23), (zg, 161, 46, ca 1, gg_23)]) [2, 1, 0] rfl (I1 := []) [] rfl) (⟨(by first | omega | rfl | assumption | (intro h9; exact absurd h9 (by omega)) | exact hi_7_2 | (intro h9; rw [hk1]; exact (hi_7_3 h9).two (by omega)) | (intro h9; rw [show (z_25).toInt = v2_18.toInt + 1 by omega]; exact (hi_18_3 h9).s hr_24 (by omega) (by omega) (by omega) (by omega) (by omega) (by omega))), (by first | omega | rfl | assumption | (intro h9; exact absurd h9 (by omega)) | exact hi_7_2 | (intro h9; rw [hk1]; exact (hi_7_3 h9).two (by omega)) | (intro h9; rw [show (z_25).toInt = v2_18.toInt + 1 by omega]; exact (hi_18_3 h9).s hr_24 (by omega) (by omega) (by omega) (by omega) (by omega) (by omega))), (by first | assumption | (intro h9; exact absurd h9 (by omega)) | exact hi_7_2 | (intro h9; rw [hk1]; exact (hi_7_3 h9).two (by omega)) | (intro h9; rw [show (z_25).toInt = v2_18.toInt + 1 by omega]; exact (hi_18_3 h9).s hr_24 (by omega) (by omega) (by omega) (by omega) (by omega) (by omega)) | omega), (by first | assumption | (intro h9; exact absurd h9 (by omega)) | exact hi_7_2 | (intro h9; rw [hk1]; exact (hi_7_3 h9).two (by omega)) | (intro h9; rw [show (z_25).toInt = v2_18.toInt + 1 by omega]; exact (hi_18_3 h9).s hr_24 (by omega) (by omega) (by omega) (by omega) (by omega) (by omega)) | omega)⟩) (by omega) _ (lv_sub hl [1, 2, 0] rfl)
                exact L90 (((a1.toInt - (1 : Int32).toInt).toNat : Int) : Int).toNat.succ 1 fg_7 fh_7 fp_7 _ _ hh_7 (⟨(by first | omega | rfl | assumption | (intro h9; exact absurd h9 (by omega)) | exact hi_7_2 | (intro h9; rw [hk1]; exact (hi_7_3 h9).two (by omega)) | (intro h9; rw [show (1).toInt = (zz_none).toInt + 1 by omega]; exact ((zz_none) h9).s hr_24 (by omega) (by omega) (by omega) (by omega) (by omega) (by omega))), (by first | omega | rfl | assumption | (intro h9; exact absurd h9 (by omega)) | exact hi_7_2 | (intro h9; rw [hk1]; exact (hi_7_3 h9).two (by omega)) | (intro h9; rw [show (1).toInt = (zz_none).toInt + 1 by omega]; exact ((zz_none) h9).s hr_24 (by omega) (by omega) (by omega) (by omega) (by omega) (by omega))), (by first | assumption | (intro h9; exact absurd h9 (by omega)) | exact hi_7_2 | (intro h9; rw [hk1]; exact (hi_7_3 h9).two (by omega)) | (intro h9; rw [show (1).toInt = (zz_none).toInt + 1 by omega]; exact ((zz_none) h9).s hr_24 (by omega) (by omega) (by omega) (by omega) (by omega) (by omega)) | omega), (by first | assumption | (intro h9; exact absurd h9 (by omega)) | exact hi_7_2 | (intro h9; rw [hk1]; exact (hi_7_3 h9).two (by omega)) | (intro h9; rw [show (1).toInt = (zz_none).toInt + 1 by omega]; exact ((zz_none) h9).s hr_24 (by omega) (by omega) (by omega) (by omega) (by omega) (by omega)) | omega)⟩) (by omega) _ (lv_sub hl [1, 2, 0] rfl)
              · skip
                have c_17' : a1.toInt > 0 := jb_le_n (rfl) ((by decide)) c_17
                refine lv_aload_n hx hb dX13_times_72 rfl (lv_at hl 0 rfl) ?_
                refine lv_iload_n hx hb dX13_times_73 rfl (lv_at hl 2 rfl) ?_
                refine lv_iload_n hx hb dX13_times_74 rfl (lv_at hl 2 rfl) ?_
                refine lv_iload_n hx hb dX13_times_75 rfl (lv_at hl 1 rfl) ?_
                refine lv_iadd hx hb dX13_times_76 ?_
                refine lv_topi (fun z_26 ez_26 => ?_)
                have hz_26 : z_26.toInt = v2_7.toInt + a1.toInt := by rw [ez_26]; exact jb_iadd2 (rfl) (rfl) (by omega)
                refine lv_iconst (v := 1) hx hb dX13_times_77 (by decide) ?_
                refine lv_isub hx hb dX13_times_78 ?_
                refine lv_topi (fun z_27 ez_27 => ?_)
                have hz_27 : z_27.toInt = z_26.toInt - 1 := by rw [ez_27]; exact jb_isub2 (rfl) ((by decide)) (by omega)
                refine va_callv (A0 := jA base) (H0 := s.heap) (va_runV (As := [.int v2_7, .int z_27]) (rest := []) ⟨hx, hb, hml, hown, hts⟩ (uX13_copyGoalK l dC dI ca base B hB hAp hB15 hB158 hB159 hB161 hB162 hB163 G0 H_7 r0 v2_7 z_27 zg zh zp fg_7 fh_7 fp_7) (cwV 2 hts (jgV (jWr_67 _ (List.mem_of_getElem? (i := 23) rfl)) (jWr_68 _ (List.mem_of_getElem? (i := 0) rfl)) (jWr_68 _ (List.mem_of_getElem? (i := 1) rfl)) (jWr_12 _ (List.mem_of_getElem? (i := 12) rfl)) (jWr_68 _ (List.mem_of_getElem? (i := 2) rfl))) rfl rfl rfl (by decide +kernel) ⟨by rw [← hR]; exact Nat.le_of_ble_eq_true rfl, by rw [← hR]; exact Nat.le_of_ble_eq_true rfl⟩) ⟨fun a U g mk q => by obtain ⟨q0, q1, q2, qK, q10, q11, q12, q13, q14, q15, q16⟩ := q; exact ⟨q0, q1, q2, jG.calling g mk a qK, q10, q11, q12, q13, q14, q15, q16⟩, hh_7.recv (C := RX13) (T := TX13) (N := 50) hB15 rfl (by decide) hg_r0 hK, fun U hU hW => ⟨rfl, hU, hh_7.2.1, hG.step hW hU hh_7.1, hg_r0, hg_zg, hg_zh, hg_zp, (hh_7.2.2.1.sub (L1 := [(r0, 15, 22, .ref zg), (r0, 15, 25, .ref zh), (r0, 15, 27, .ref zp)]) [2, 3, 4] rfl), (hh_7.2.2.2.2.2.2.2.1.sub (L1 := [(zg, 161, 46, ca 1, fg_7), (zh, 159, 46, ca 1, fh_7), (zp, 162, 368, ca 1, fp_7)]) [2, 1, 0] rfl), by first | omega | (refine ⟨?_, ?_, ?_, ?_⟩ <;> (first | omega | rfl | assumption | decide | exact Or.inl rfl | exact Or.inr rfl | (simp only; omega)))⟩⟩ rfl rfl hl.1 rfl (lv_room (Nat.le_of_ble_eq_true rfl)) dX13_times_79 ⟨Nat.zero_le _, Nat.zero_le _⟩) hh_7.1 (fun q _ h => h) (fun q h => h) (fun u_28 t_28 H_28 locs_28 ht_28 hvm_28 hr_29 hb_28 hz_28 hk_28 hS_28 => ?_)
                obtain ⟨gg_28, gh_28, gp_28⟩ := u_28
                rw [ht_28] at hb_28
                obtain ⟨⟨hb_281, hb_282, hb_283, hb_284, hb_285⟩, hb_286⟩ := hb_28
                have hh_28 : jSt (dC, dI) B base G0 G0 EX13_timesK s.heap 0 0 [(r0, 15, 21, .int pg), (r0, 15, 34, .int pu), (r0, 15, 22, .ref zg), (r0, 15, 25, .ref zh), (r0, 15, 27, .ref zp)] [(zg, 161, 46, ca 1, gg_28), (zh, 159, 46, ca 1, gh_28), (zp, 162, 368, ca 1, gp_28)] [] H_28 locs_28 := ((hh_7.call hb_281 hb_282 hb_283 hb_284 hS_28 rfl (L1 := [(r0, 15, 21, .int pg), (r0, 15, 34, .int pu), (r0, 15, 22, .ref zg), (r0, 15, 25, .ref zh), (r0, 15, 27, .ref zp)]) [0, 1, 2, 3, 4] rfl rfl (M1 := []) [] rfl rfl (I1 := []) [] rfl rfl).more hb_285).moreM hb_286
                clear hh_7 ht_28 hvm_28 hz_28 hk_28 hS_28 hb_281 hb_282 hb_283 hb_284 hb_285
                clear hb_286
                try simp only at hr_29
                obtain ⟨z_30, ez_30⟩ : ∃ y : Int32, y = v2_7 + (-1) := ⟨_, rfl⟩
                refine lv_iinc (v := z_30) (lv' := [(2, .int z_30), (0, .ref r0), (1, .int a1)]) hx hb dX13_times_82 hl (k := 2) rfl (by rw [ez_30]; rfl) (by decide) rfl (fun ls hl => ?_)
                have hz_30 : z_30.toInt = v2_7.toInt + (-1) := by rw [ez_30]; exact jb_iadd2 (rfl) (by decide) (by omega)
                refine lv_goto (tgt := 64) hx hb dX13_times_85 (by decide) ?_
                exact L64 z_30 gg_28 gh_28 gp_28 _ _ (hh_28.sub (L1 := [(r0, 15, 21, .int pg), (r0, 15, 34, .int pu), (r0, 15, 22, .ref zg), (r0, 15, 25, .ref zh), (r0, 15, 27, .ref zp)]) [0, 1, 2, 3, 4] rfl (M1 := [(zp, 162, 368, ca 1, gp_28), (zh, 159, 46, ca 1, gh_28), (zg, 161, 46, ca 1, gg_28)]) [2, 1, 0] rfl (I1 := []) [] rfl) (⟨(by first | omega | rfl | assumption | (intro h9; exact absurd h9 (by omega)) | exact hi_5_0 | (intro h9; obtain ⟨e1, e2, e3⟩ := hi_5_1 h9; rw [e1, e2, e3, show (z_30).toInt = pg.toInt - 1 by omega]; exact jTu1.rf _ _ _ _ _) | (intro h9; rw [show (z_30).toInt = v2_7.toInt - 1 by omega]; exact (hi_7_3 h9).s hr_29 (by omega) (by omega) (by omega) (by omega) (by omega) (by omega))), (by first | omega | rfl | assumption | (intro h9; exact absurd h9 (by omega)) | exact hi_5_0 | (intro h9; obtain ⟨e1, e2, e3⟩ := hi_5_1 h9; rw [e1, e2, e3, show (z_30).toInt = pg.toInt - 1 by omega]; exact jTu1.rf _ _ _ _ _) | (intro h9; rw [show (z_30).toInt = v2_7.toInt - 1 by omega]; exact (hi_7_3 h9).s hr_29 (by omega) (by omega) (by omega) (by omega) (by omega) (by omega))), (by first | assumption | (intro h9; exact absurd h9 (by omega)) | exact hi_5_0 | (intro h9; obtain ⟨e1, e2, e3⟩ := hi_5_1 h9; rw [e1, e2, e3, show (z_30).toInt = pg.toInt - 1 by omega]; exact jTu1.rf _ _ _ _ _) | (intro h9; rw [show (z_30).toInt = v2_7.toInt - 1 by omega]; exact (hi_7_3 h9).s hr_29 (by omega) (by omega) (by omega) (by omega) (by omega) (by omega)) | omega), (by first | assumption | (intro h9; exact absurd h9 (by omega)) | exact hi_5_0 | (intro h9; obtain ⟨e1, e2, e3⟩ := hi_5_1 h9; rw [e1, e2, e3, show (z_30).toInt = pg.toInt - 1 by omega]; exact jTu1.rf _ _ _ _ _) | (intro h9; rw [show (z_30).toInt = v2_7.toInt - 1 by omega]; exact (hi_7_3 h9).s hr_29 (by omega) (by omega) (by omega) (by omega) (by omega) (by omega)) | omega)⟩) (by omega) _ (lv_sub hl [1, 2, 0] rfl)
        exact L64 ((z_6 : Int32).toInt : Int).toNat.succ z_6 fg_5 fh_5 fp_5 _ _ hh_5 (⟨(by first | omega | rfl | assumption | (intro h9; exact absurd h9 (by omega)) | exact hi_5_0 | (intro h9; obtain ⟨e1, e2, e3⟩ := hi_5_1 h9; rw [e1, e2, e3, show (z_6).toInt = pg.toInt - 1 by omega]; exact jTu1.rf _ _ _ _ _) | (intro h9; rw [show (z_6).toInt = (zz_none).toInt - 1 by omega]; exact ((zz_none) h9).s hr_29 (by omega) (by omega) (by omega) (by omega) (by omega) (by omega))), (by first | omega | rfl | assumption | (intro h9; exact absurd h9 (by omega)) | exact hi_5_0 | (intro h9; obtain ⟨e1, e2, e3⟩ := hi_5_1 h9; rw [e1, e2, e3, show (z_6).toInt = pg.toInt - 1 by omega]; exact jTu1.rf _ _ _ _ _) | (intro h9; rw [show (z_6).toInt = (zz_none).toInt - 1 by omega]; exact ((zz_none) h9).s hr_29 (by omega) (by omega) (by omega) (by omega) (by omega) (by omega))), (by first | assumption | (intro h9; exact absurd h9 (by omega)) | exact hi_5_0 | (intro h9; obtain ⟨e1, e2, e3⟩ := hi_5_1 h9; rw [e1, e2, e3, show (z_6).toInt = pg.toInt - 1 by omega]; exact jTu1.rf _ _ _ _ _) | (intro h9; rw [show (z_6).toInt = (zz_none).toInt - 1 by omega]; exact ((zz_none) h9).s hr_29 (by omega) (by omega) (by omega) (by omega) (by omega) (by omega)) | omega), (by first | assumption | (intro h9; exact absurd h9 (by omega)) | exact hi_5_0 | (intro h9; obtain ⟨e1, e2, e3⟩ := hi_5_1 h9; rw [e1, e2, e3, show (z_6).toInt = pg.toInt - 1 by omega]; exact jTu1.rf _ _ _ _ _) | (intro h9; rw [show (z_6).toInt = (zz_none).toInt - 1 by omega]; exact ((zz_none) h9).s hr_29 (by omega) (by omega) (by omega) (by omega) (by omega) (by omega)) | omega)⟩) (by omega) _ (lv_sub hl [1, 2, 0] rfl)
      refine lv_if_ne (tgt := 57) hx hb dX13_times_28 (by decide) (fun c_31 => ?_) (fun c_31 => ?_)
      · skip
        have c_31' : a1.toInt ≠ 0 := jb_ne (rfl) ((by decide)) c_31
        exact C57 fg fh fp _ _ (hh.sub (L1 := [(r0, 15, 21, .int pg), (r0, 15, 34, .int pu), (r0, 15, 22, .ref zg), (r0, 15, 25, .ref zh), (r0, 15, 27, .ref zp)]) [0, 1, 2, 3, 4] rfl (M1 := [(zp, 162, 368, ca 1, fp), (zh, 159, 46, ca 1, fh), (zg, 161, 46, ca 1, fg)]) [2, 1, 0] rfl (I1 := []) [] rfl) (⟨(by first | assumption | (intro h9; exact absurd h9 (by omega)) | (intro _; exact ⟨hfg0.symm, hfh0.symm, hfp0.symm⟩) | (intro _; have h8 := (zz_none); rw [show (zz_none).toInt = pg.toInt - 1 by omega] at h8; exact h8) | omega), (by first | assumption | (intro h9; exact absurd h9 (by omega)) | (intro _; exact ⟨hfg0.symm, hfh0.symm, hfp0.symm⟩) | (intro _; have h8 := (zz_none); rw [show (zz_none).toInt = pg.toInt - 1 by omega] at h8; exact h8) | omega)⟩) _ (lv_sub hl [0, 1] rfl)
      · skip
        have c_31' : a1.toInt = 0 := jb_ne_n (rfl) ((by decide)) c_31
        refine lv_iconst (v := 0) hx hb dX13_times_31 (by decide) ?_
        refine lv_istore_n (lv' := [(2, .int 0), (0, .ref r0), (1, .int a1)]) hx hb dX13_times_32 rfl hl (by decide) rfl (fun ls hl => ?_)
        have L33 : ∀ (N : Nat) (v2_32 : Int32) (fg_32 : Nat → Int32) (fh_32 : Nat → Int32) (fp_32 : Nat → Int32) (H_32 : Heap) (locs_32 : List Loc), jSt (dC, dI) B base G0 G0 EX13_timesK s.heap 0 0 [(r0, 15, 21, .int pg), (r0, 15, 34, .int pu), (r0, 15, 22, .ref zg), (r0, 15, 25, .ref zh), (r0, 15, 27, .ref zp)] [(zp, 162, 368, ca 1, fp_32), (zh, 159, 46, ca 1, fh_32), (zg, 161, 46, ca 1, fg_32)] [] H_32 locs_32 → (0 ≤ v2_32.toInt ∧ v2_32.toInt ≤ pg.toInt - 1 ∧ jT0 fg0 fh0 fp0 fg_32 fh_32 fp_32 pg.toInt v2_32.toInt) → (pg.toInt - v2_32.toInt : Int) < N → ∀ ls : Array Slot, lv_has ls 3 [(0, .ref r0), (1, .int a1), (2, .int v2_32)] → W p l e R s m ([.ref r0, .int a1] : List Value).toArray below meth c H_32 locs_32 0 0 Q (F0 m 33 ls []) := by
          intro N
          induction N with
          | zero => intro v2_32 fg_32 fh_32 fp_32 H_32 locs_32 hh_32  hi_32 hm; exact absurd hm (by omega)
          | succ N L33 =>
            intro v2_32 fg_32 fh_32 fp_32 H_32 locs_32 hh_32  hi_32 hm_32 ls hl
            obtain ⟨hi_32_0, hi_32_1, hi_32_2⟩ := hi_32
            refine lv_iload_n hx hb dX13_times_33 rfl (lv_at hl 2 rfl) ?_
            refine lv_iconst (v := 1) hx hb dX13_times_34 (by decide) ?_
            refine lv_iadd hx hb dX13_times_35 ?_
            refine lv_topi (fun z_33 ez_33 => ?_)
            have hz_33 : z_33.toInt = v2_32.toInt + 1 := by rw [ez_33]; exact jb_iadd2 (rfl) ((by decide)) (by omega)
            refine lv_aload_n hx hb dX13_times_36 rfl (lv_at hl 0 rfl) ?_
            refine j7_read hx hb hown hK (C := RX13) (T := TX13) (N := 50) rfl hly_15_21 hlk_119 (hh_32.at 0 rfl) dX13_times_37 ?_
            refine lv_icmp_ge (tgt := 57) hx hb dX13_times_40 (by decide) (fun c_34 => ?_) (fun c_34 => ?_)
            · skip
              have c_34' : z_33.toInt ≥ pg.toInt := jb_ge (rfl) (rfl) c_34
              exact C57 fg_32 fh_32 fp_32 _ _ hh_32 (⟨(by first | assumption | (intro h9; exact absurd h9 (by omega)) | (intro _; exact ⟨hfg0.symm, hfh0.symm, hfp0.symm⟩) | (intro _; have h8 := hi_32_2; rw [show v2_32.toInt = pg.toInt - 1 by omega] at h8; exact h8) | omega), (by first | assumption | (intro h9; exact absurd h9 (by omega)) | (intro _; exact ⟨hfg0.symm, hfh0.symm, hfp0.symm⟩) | (intro _; have h8 := hi_32_2; rw [show v2_32.toInt = pg.toInt - 1 by omega] at h8; exact h8) | omega)⟩) _ (lv_sub hl [0, 1] rfl)
            · skip
              have c_34' : z_33.toInt < pg.toInt := jb_ge_n (rfl) (rfl) c_34
              refine lv_aload_n hx hb dX13_times_43 rfl (lv_at hl 0 rfl) ?_
              refine lv_iload_n hx hb dX13_times_44 rfl (lv_at hl 2 rfl) ?_
              refine lv_iconst (v := 1) hx hb dX13_times_45 (by decide) ?_
              refine lv_iadd hx hb dX13_times_46 ?_
              refine lv_topi (fun z_35 ez_35 => ?_)
              have hz_35 : z_35.toInt = v2_32.toInt + 1 := by rw [ez_35]; exact jb_iadd2 (rfl) ((by decide)) (by omega)
              refine lv_iload_n hx hb dX13_times_47 rfl (lv_at hl 2 rfl) ?_
              refine va_callv (A0 := jA base) (H0 := s.heap) (va_runV (As := [.int z_35, .int v2_32]) (rest := []) ⟨hx, hb, hml, hown, hts⟩ (uX13_copyGoalK l dC dI ca base B hB hAp hB15 hB158 hB159 hB161 hB162 hB163 G0 H_32 r0 z_35 v2_32 zg zh zp fg_32 fh_32 fp_32) (cwV 2 hts (jgV (jWr_67 _ (List.mem_of_getElem? (i := 23) rfl)) (jWr_68 _ (List.mem_of_getElem? (i := 0) rfl)) (jWr_68 _ (List.mem_of_getElem? (i := 1) rfl)) (jWr_12 _ (List.mem_of_getElem? (i := 12) rfl)) (jWr_68 _ (List.mem_of_getElem? (i := 2) rfl))) rfl rfl rfl (by decide +kernel) ⟨by rw [← hR]; exact Nat.le_of_ble_eq_true rfl, by rw [← hR]; exact Nat.le_of_ble_eq_true rfl⟩) ⟨fun a U g mk q => by obtain ⟨q0, q1, q2, qK, q10, q11, q12, q13, q14, q15, q16⟩ := q; exact ⟨q0, q1, q2, jG.calling g mk a qK, q10, q11, q12, q13, q14, q15, q16⟩, hh_32.recv (C := RX13) (T := TX13) (N := 50) hB15 rfl (by decide) hg_r0 hK, fun U hU hW => ⟨rfl, hU, hh_32.2.1, hG.step hW hU hh_32.1, hg_r0, hg_zg, hg_zh, hg_zp, (hh_32.2.2.1.sub (L1 := [(r0, 15, 22, .ref zg), (r0, 15, 25, .ref zh), (r0, 15, 27, .ref zp)]) [2, 3, 4] rfl), (hh_32.2.2.2.2.2.2.2.1.sub (L1 := [(zg, 161, 46, ca 1, fg_32), (zh, 159, 46, ca 1, fh_32), (zp, 162, 368, ca 1, fp_32)]) [2, 1, 0] rfl), by first | omega | (refine ⟨?_, ?_, ?_, ?_⟩ <;> (first | omega | rfl | assumption | decide | exact Or.inl rfl | exact Or.inr rfl | (simp only; omega)))⟩⟩ rfl rfl hl.1 rfl (lv_room (Nat.le_of_ble_eq_true rfl)) dX13_times_48 ⟨Nat.zero_le _, Nat.zero_le _⟩) hh_32.1 (fun q _ h => h) (fun q h => h) (fun u_36 t_36 H_36 locs_36 ht_36 hvm_36 hr_37 hb_36 hz_36 hk_36 hS_36 => ?_)
              obtain ⟨gg_36, gh_36, gp_36⟩ := u_36
              rw [ht_36] at hb_36
              obtain ⟨⟨hb_361, hb_362, hb_363, hb_364, hb_365⟩, hb_366⟩ := hb_36
              have hh_36 : jSt (dC, dI) B base G0 G0 EX13_timesK s.heap 0 0 [(r0, 15, 21, .int pg), (r0, 15, 34, .int pu), (r0, 15, 22, .ref zg), (r0, 15, 25, .ref zh), (r0, 15, 27, .ref zp)] [(zg, 161, 46, ca 1, gg_36), (zh, 159, 46, ca 1, gh_36), (zp, 162, 368, ca 1, gp_36)] [] H_36 locs_36 := ((hh_32.call hb_361 hb_362 hb_363 hb_364 hS_36 rfl (L1 := [(r0, 15, 21, .int pg), (r0, 15, 34, .int pu), (r0, 15, 22, .ref zg), (r0, 15, 25, .ref zh), (r0, 15, 27, .ref zp)]) [0, 1, 2, 3, 4] rfl rfl (M1 := []) [] rfl rfl (I1 := []) [] rfl rfl).more hb_365).moreM hb_366
              clear hh_32 ht_36 hvm_36 hz_36 hk_36 hS_36 hb_361 hb_362 hb_363 hb_364 hb_365
              clear hb_366
              try simp only at hr_37
              obtain ⟨z_38, ez_38⟩ : ∃ y : Int32, y = v2_32 + 1 := ⟨_, rfl⟩
              refine lv_iinc (v := z_38) (lv' := [(2, .int z_38), (0, .ref r0), (1, .int a1)]) hx hb dX13_times_51 hl (k := 2) rfl (by rw [ez_38]; rfl) (by decide) rfl (fun ls hl => ?_)
              have hz_38 : z_38.toInt = v2_32.toInt + 1 := by rw [ez_38]; exact jb_iadd2 (rfl) (by decide) (by omega)
              refine lv_goto (tgt := 33) hx hb dX13_times_54 (by decide) ?_
              exact L33 z_38 gg_36 gh_36 gp_36 _ _ (hh_36.sub (L1 := [(r0, 15, 21, .int pg), (r0, 15, 34, .int pu), (r0, 15, 22, .ref zg), (r0, 15, 25, .ref zh), (r0, 15, 27, .ref zp)]) [0, 1, 2, 3, 4] rfl (M1 := [(zp, 162, 368, ca 1, gp_36), (zh, 159, 46, ca 1, gh_36), (zg, 161, 46, ca 1, gg_36)]) [2, 1, 0] rfl (I1 := []) [] rfl) (⟨(by first | omega | rfl | assumption | (rw [hk0, hfg0, hfh0, hfp0]; exact jT0.rf _ _ _ _) | (rw [show (z_38).toInt = v2_32.toInt + 1 by omega]; exact hi_32_2.s hr_37 (by omega) (by omega) (by omega) (by omega) (by omega))), (by first | omega | rfl | assumption | (rw [hk0, hfg0, hfh0, hfp0]; exact jT0.rf _ _ _ _) | (rw [show (z_38).toInt = v2_32.toInt + 1 by omega]; exact hi_32_2.s hr_37 (by omega) (by omega) (by omega) (by omega) (by omega))), (by first | assumption | (rw [hk0, hfg0, hfh0, hfp0]; exact jT0.rf _ _ _ _) | (rw [show (z_38).toInt = v2_32.toInt + 1 by omega]; exact hi_32_2.s hr_37 (by omega) (by omega) (by omega) (by omega) (by omega)) | omega)⟩) (by omega) _ (lv_sub hl [1, 2, 0] rfl)
        exact L33 (pg.toInt - (0 : Int32).toInt : Int).toNat.succ 0 fg fh fp _ _ (hh.sub (L1 := [(r0, 15, 21, .int pg), (r0, 15, 34, .int pu), (r0, 15, 22, .ref zg), (r0, 15, 25, .ref zh), (r0, 15, 27, .ref zp)]) [0, 1, 2, 3, 4] rfl (M1 := [(zp, 162, 368, ca 1, fp), (zh, 159, 46, ca 1, fh), (zg, 161, 46, ca 1, fg)]) [2, 1, 0] rfl (I1 := []) [] rfl) (⟨(by first | omega | rfl | assumption | (rw [hk0, hfg0, hfh0, hfp0]; exact jT0.rf _ _ _ _) | (rw [show (0).toInt = (zz_none).toInt + 1 by omega]; exact (zz_none).s hr_37 (by omega) (by omega) (by omega) (by omega) (by omega))), (by first | omega | rfl | assumption | (rw [hk0, hfg0, hfh0, hfp0]; exact jT0.rf _ _ _ _) | (rw [show (0).toInt = (zz_none).toInt + 1 by omega]; exact (zz_none).s hr_37 (by omega) (by omega) (by omega) (by omega) (by omega))), (by first | assumption | (rw [hk0, hfg0, hfh0, hfp0]; exact jT0.rf _ _ _ _) | (rw [show (0).toInt = (zz_none).toInt + 1 by omega]; exact (zz_none).s hr_37 (by omega) (by omega) (by omega) (by omega) (by omega)) | omega)⟩) (by omega) _ (lv_sub hl [1, 2, 0] rfl)
    · skip
      have c_4' : pu.toInt > 0 := jb_le_n (rfl) ((by decide)) c_4
      rw [hQ]
      exact W.vret hx hb hr (fun t ht hW => ⟨⟨(pg, pu, fg, fh, fp), rfl, by (try dsimp only); exact (by omega : False).elim, ⟨hh.rt (M1 := [(r0, 15, 21, .int pg), (r0, 15, 34, .int pu)]) [0, 1] rfl ht, by rw [ht]; exact hh.2.2.2.2.2.2.2.1.sub [0, 1, 2] rfl⟩⟩, by rw [ht]; try exact hh.1.1, fun q h9 hq => by rw [ht]; try exact hh.1.2.1 q h9 hq⟩) hh.1.2.2 dX13_times_26
  · skip
    have c_3' : z_2.toInt > 6 := jb_le_n (rfl) ((by decide)) c_3
    refine lv_aload_n hx hb dX13_times_13 rfl (lv_at hl 0 rfl) ?_
    refine lv_bipush (v := 9) hx hb dX13_times_14 (by decide) ?_
    refine va_callv (A0 := jA base) (H0 := s.heap) (va_runV (As := [.int 9]) (rest := []) ⟨hx, hb, hml, hown, hts⟩ (uX13_failsK l dC dI ca base B hB hAp hB15 G0 s.heap r0 9 pu) (cwV 1 hts (jgV (jWr_64 _ (List.mem_of_getElem? (i := 19) rfl)) (jWr_64 _ (List.mem_of_getElem? (i := 20) rfl)) (jWr_64 _ (List.mem_of_getElem? (i := 21) rfl)) (jWr_12 _ (List.mem_of_getElem? (i := 12) rfl)) (jWr_64 _ (List.mem_of_getElem? (i := 22) rfl))) rfl rfl rfl (by decide +kernel) ⟨by rw [← hR]; exact Nat.le_of_ble_eq_true rfl, by rw [← hR]; exact Nat.le_of_ble_eq_true rfl⟩) ⟨fun a U g mk q => by obtain ⟨q0, q1, q2, qK, q10, q11, q12⟩ := q; exact ⟨q0, q1, q2, jG.calling g mk a qK, q10, q11, q12⟩, hh.recv (C := RX13) (T := TX13) (N := 50) hB15 rfl (by decide) hg_r0 hK, fun U hU hW => ⟨rfl, hU, hh.2.1, hG.step hW hU hh.1, hg_r0, (hh.2.2.1.sub (L1 := [(r0, 15, 34, .int pu)]) [1] rfl), by first | omega | (refine ⟨?_, ?_, ?_, ?_⟩ <;> (first | omega | rfl | assumption | decide | exact Or.inl rfl | exact Or.inr rfl | (simp only; omega)))⟩⟩ rfl rfl hl.1 rfl (lv_room (Nat.le_of_ble_eq_true rfl)) dX13_times_16 ⟨Nat.zero_le _, Nat.zero_le _⟩) hh.1 (fun q _ h => h) (fun q h => h) (fun u_39 t_39 H_39 locs_39 ht_39 hvm_39 hr_40 hb_39 hz_39 hk_39 hS_39 => ?_)
    obtain ⟨qu_39, rfl⟩ : ∃ z, z = u_39 := ⟨_, rfl⟩
    rw [ht_39] at hb_39
    obtain ⟨hb_391, hb_392, hb_393, hb_394, hb_395⟩ := hb_39
    have hh_39 : jSt (dC, dI) B base G0 G0 EX13_timesK s.heap 0 0 [(r0, 15, 34, .int qu_39), (r0, 15, 21, .int pg), (r0, 15, 22, .ref zg), (r0, 15, 25, .ref zh), (r0, 15, 27, .ref zp)] [(zg, 161, 46, ca 1, fg), (zh, 159, 46, ca 1, fh), (zp, 162, 368, ca 1, fp)] [] H_39 locs_39 := ((hh.call hb_391 hb_392 hb_393 hb_394 hS_39 rfl (L1 := [(r0, 15, 21, .int pg), (r0, 15, 22, .ref zg), (r0, 15, 25, .ref zh), (r0, 15, 27, .ref zp)]) [0, 2, 3, 4] rfl rfl (M1 := [(zg, 161, 46, ca 1, fg), (zh, 159, 46, ca 1, fh), (zp, 162, 368, ca 1, fp)]) [0, 1, 2] rfl rfl (I1 := []) [] rfl rfl).more hb_395)
    clear hh ht_39 hvm_39 hz_39 hk_39 hS_39 hb_391 hb_392 hb_393 hb_394 hb_395
    obtain ⟨hr_40_0, hr_40_1, hr_40_2, hr_40_3⟩ := hr_40
    refine lv_aload_n hx hb dX13_times_19 rfl (lv_at hl 0 rfl) ?_
    refine j7_read hx hb hown hK (C := RX13) (T := TX13) (N := 50) rfl hly_15_34 hlk_221 (hh_39.at 0 rfl) dX13_times_20 ?_
    refine lv_if_le (tgt := 27) hx hb dX13_times_23 (by decide) (fun c_41 => ?_) (fun c_41 => ?_)
    · skip
      have c_41' : qu_39.toInt ≤ 0 := jb_le (rfl) ((by decide)) c_41
      exact (by omega : False).elim
    · skip
      have c_41' : qu_39.toInt > 0 := jb_le_n (rfl) ((by decide)) c_41
      rw [hQ]
      exact W.vret hx hb hr (fun t ht hW => ⟨⟨(pg, qu_39, fg, fh, fp), rfl, by (try dsimp only); refine ⟨by omega, by omega, by omega, by omega, fun h9 => absurd h9 (by omega), fun _ => ⟨by omega, rfl, rfl, rfl⟩⟩, ⟨hh_39.rt (M1 := [(r0, 15, 21, .int pg), (r0, 15, 34, .int qu_39)]) [1, 0] rfl ht, by rw [ht]; exact hh_39.2.2.2.2.2.2.2.1.sub [0, 1, 2] rfl⟩⟩, by rw [ht]; try exact hh_39.1.1, fun q h9 hq => by rw [ht]; try exact hh_39.1.2.1 q h9 hq⟩) hh_39.1.2.2 dX13_times_26
set_option maxHeartbeats 4000000 in
set_option maxRecDepth 20000 in
theorem uX13_addHyp (l : Launch) (dC : Nat → ClassId) (dI : Nat → Nat → Nat) (ca : Nat → ClassId) (base : Nat) (B : jF) (hB : jBok B) (hAp : jAp (dC, dI)) (hB15 : ∀ n G a H, B 15 n G a H ↔ jOb (dC, dI) 15 50 (F15 n G) a H) (hB159 : ∀ n G a H, B 159 n G a H ↔ jAr (dC, dI) (ca 1) (fun j z => 0 ≤ z.toInt ∧ z.toInt ≤ 8) n a H) (hB162 : ∀ n G a H, B 162 n G a H ↔ jAr (dC, dI) (ca 1) (fun j z => 0 ≤ z.toInt ∧ z.toInt ≤ 119999) n a H) (hB163 : ∀ n G a H, B 163 n G a H ↔ jAr (dC, dI) (ca 1) (fun j z => 0 ≤ z.toInt ∧ z.toInt ≤ 1599) n a H) (G0 : jT) (H0 : Heap) (r0 : Nat) (a1 : Int32) (a2 : Int32) (a3 : Int32) (zh : Nat) (zp : Nat) (fh : Nat → Int32) (fp : Nat → Int32) : Met l yX13_addHyp (jw yX13_addHyp cX13_addHyp 4 none) ({ frames := 0, cells := 0, slots := 0, locals := 0 }) (va_Pc [.ref r0, .int a1, .int a2, .int a3] (fun U => U.heap = H0 ∧ jX B base G0 [] H0 ∧ jG dC dI ca base U ∧ G0 r0 = some (15, 0) ∧ G0 zh = some (159, 46) ∧ G0 zp = some (162, 368) ∧ jP (dC, dI) G0 H0 [(r0, 15, 25, .ref zh), (r0, 15, 27, .ref zp)] ∧ jMc (dC, dI) G0 H0 [(zh, 159, 46, ca 1, fh), (zp, 162, 368, ca 1, fp)] ∧ 0 ≤ a1.toInt ∧ a1.toInt ≤ 45 ∧ 0 ≤ jSo fh a1.toInt ∧ jSo fh a1.toInt ≤ 7 ∧ 0 ≤ a2.toInt ∧ a2.toInt ≤ 1599 ∧ 0 ≤ a3.toInt ∧ a3.toInt ≤ 119999)) (va_Qv (S := (Nat → Int32) × (Nat → Int32)) (fun u => jAh fh fp u.1 u.2 a1.toInt a3.toInt) (fun u t => jRt (dC, dI) B base G0 EX13_addHyp H0 [] t.heap ∧ jMc (dC, dI) G0 t.heap [(zh, 159, 46, ca 1, u.1), (zp, 162, 368, ca 1, u.2)]) (jA base)) 0 0 (jA base) := by
  refine Met.ofW (cc := cX13_addHyp) (maxL := 4) (ret := none) (by decide) rfl ?_
  intro p e s m args below meth c s₁ Bd hml hv
  obtain ⟨rfl, hH0, hX, hG, hg_r0, hg_zh, hg_zp, hP0, hM0, hp0, hp1, hp2, hp3, hp4, hp5, hp6, hp7⟩ := hv
  have hK := hG.1
  have hx := Bd.exec
  have hb := Bd.bytes
  have hr := Bd.returns
  have hts := atoms_spec (ws := (jw yX13_addHyp cX13_addHyp 4 none)) Bd.pre
  have htw : ∀ w ∈ jWl, w.before _ s = true := fun w h => hts w (List.mem_cons_of_mem _ h)
  have hown : s.vm.findClass RX13 = some m.cls := findClass_of_methodNamed Bd.named
  have hlocks := Bd.notSynchronized
  obtain ⟨Q, hQ⟩ : ∃ Q, Q = MQ below (va_Qv (S := (Nat → Int32) × (Nat → Int32)) (fun u => jAh fh fp u.1 u.2 a1.toInt a3.toInt) (fun u t => jRt (dC, dI) B base G0 EX13_addHyp H0 [] t.heap ∧ jMc (dC, dI) G0 t.heap [(zh, 159, 46, ca 1, u.1), (zp, 162, 368, ca 1, u.2)]) (jA base)) ([.ref r0, .int a1, .int a2, .int a3] : List Value).toArray s 0 0 (jA base) := ⟨_, rfl⟩
  rw [← hQ]
  have hl := lv_entry ([.ref r0, .int a1, .int a2, .int a3]) (n := 4) (Nat.le_of_ble_eq_true rfl)
  rw [lg_entry_eq]
  generalize (lg_sl ([.ref r0, .int a1, .int a2, .int a3]) ++ List.replicate (4 - (lg_sl ([.ref r0, .int a1, .int a2, .int a3])).length) Slot.unset).toArray = ls at hl ⊢
  have hl : lv_has ls 4 [(0, .ref r0), (1, .int a1), (2, .int a2), (3, .int a3)] := hl
  generalize hR : (headSpec (jw yX13_addHyp cX13_addHyp 4 none) ({ frames := 0, cells := 0, slots := 0, locals := 0 })).room = R
  subst hH0
  have hh : jSt (dC, dI) B base G0 G0 EX13_addHyp s.heap 0 0 [(r0, 15, 25, .ref zh), (r0, 15, 27, .ref zp)] [(zh, 159, 46, ca 1, fh), (zp, 162, 368, ca 1, fp)] [] s.heap [] := jSt.start hX hP0 hM0 jIs.nil
  clear hX hP0
  have hk0 : (0 : Int32).toInt = 0 := by decide
  have hk1 : (1 : Int32).toInt = 1 := by decide
  have hk8 : (8 : Int32).toInt = 8 := by decide
  have hly_15_25 := htw (u_lay RX13 TX13 25) (jWc_wsX130 _ (u_in_lay (by decide)))
  have hly_15_26 := htw (u_lay RX13 TX13 26) (jWc_wsX130 _ (u_in_lay (by decide)))
  have hly_15_27 := htw (u_lay RX13 TX13 27) (jWc_wsX130 _ (u_in_lay (by decide)))
  have hlk_65 := (htw (.fieldLink RX13 65 "ProofServerModel$Kernel" "hypName" "[I") (jWr_15 _ (List.mem_of_getElem? (i := 2) rfl)))
  have hlk_62 := (htw (.fieldLink RX13 62 "ProofServerModel$Kernel" "hyps" "[I") (jWr_15 _ (List.mem_of_getElem? (i := 1) rfl)))
  have hlk_68 := (htw (.fieldLink RX13 68 "ProofServerModel$Kernel" "hyp" "[I") (jWr_15 _ (List.mem_of_getElem? (i := 3) rfl)))
  have hrg_a1 := jb_rng a1
  have hrg_a2 := jb_rng a2
  have hrg_a3 := jb_rng a3
  refine lv_aload_n hx hb dX13_addHyp_0 rfl (lv_at hl 0 rfl) ?_
  obtain ⟨v_1, hv_1, hh_2⟩ := hh.pin (C := RX13) (T := TX13) (N := 50) hB15 rfl (by decide) hg_r0 (i := 26) (by decide) rfl
  clear hh
  obtain ⟨hypName_3, rfl, hg_hypName_3⟩ := hv_1
  refine j7_read hx hb hown hK (C := RX13) (T := TX13) (N := 50) rfl hly_15_26 hlk_65 (hh_2.at 0 rfl) dX13_addHyp_1 ?_
  refine lv_bipush (v := 8) hx hb dX13_addHyp_4 (by decide) ?_
  refine lv_iload_n hx hb dX13_addHyp_6 rfl (lv_at hl 1 rfl) ?_
  refine lv_imul hx hb dX13_addHyp_7 ?_
  refine lv_topi (fun z_4 ez_4 => ?_)
  have hz_4 : z_4.toInt = 8 * a1.toInt := by rw [ez_4]; exact jb_imul2 ((by decide)) (rfl) (by omega)
  refine lv_aload_n hx hb dX13_addHyp_8 rfl (lv_at hl 0 rfl) ?_
  refine j7_read hx hb hown hK (C := RX13) (T := TX13) (N := 50) rfl hly_15_25 hlk_62 (hh_2.at 1 rfl) dX13_addHyp_9 ?_
  refine lv_iload_n hx hb dX13_addHyp_12 rfl (lv_at hl 1 rfl) ?_
  refine j7_ialdM hx hb hK hh_2 hB159 1 rfl (by decide) hg_zh (x := a1.toInt) (rfl) (by omega) (j := 0) rfl dX13_addHyp_13 (fun z_5 ez_5 (hz_5 : 0 ≤ z_5.toInt ∧ z_5.toInt ≤ 8) => ?_)
  have hqz_5 : z_5.toInt = jSo fh (a1.toInt) := by unfold jSo; rw [ez_5]
  refine lv_iadd hx hb dX13_addHyp_14 ?_
  refine lv_topi (fun z_6 ez_6 => ?_)
  have hz_6 : z_6.toInt = z_4.toInt + z_5.toInt := by rw [ez_6]; exact jb_iadd2 (rfl) (rfl) (by omega)
  refine lv_iload_n hx hb dX13_addHyp_15 rfl (lv_at hl 2 rfl) ?_
  refine j7_iast hx hb hK hh_2 hB hB163 1 rfl (by decide) (by decide) rfl rfl rfl hg_hypName_3 (x := z_6.toInt) (rfl) (by omega) (by first | omega | (refine ⟨?_, ?_⟩ <;> (first | omega | rfl | assumption | decide | exact Or.inl rfl | exact Or.inr rfl | (simp only; omega)))) dX13_addHyp_16 (fun H_7 locs_7 hh_7 => ?_)
  clear hh_2
  refine lv_aload_n hx hb dX13_addHyp_17 rfl (lv_at hl 0 rfl) ?_
  refine j7_read hx hb hown hK (C := RX13) (T := TX13) (N := 50) rfl hly_15_27 hlk_68 (hh_7.at 2 rfl) dX13_addHyp_18 ?_
  refine lv_bipush (v := 8) hx hb dX13_addHyp_21 (by decide) ?_
  refine lv_iload_n hx hb dX13_addHyp_23 rfl (lv_at hl 1 rfl) ?_
  refine lv_imul hx hb dX13_addHyp_24 ?_
  refine lv_topi (fun z_8 ez_8 => ?_)
  have hz_8 : z_8.toInt = 8 * a1.toInt := by rw [ez_8]; exact jb_imul2 ((by decide)) (rfl) (by omega)
  refine lv_aload_n hx hb dX13_addHyp_25 rfl (lv_at hl 0 rfl) ?_
  refine j7_read hx hb hown hK (C := RX13) (T := TX13) (N := 50) rfl hly_15_25 hlk_62 (hh_7.at 1 rfl) dX13_addHyp_26 ?_
  refine lv_iload_n hx hb dX13_addHyp_29 rfl (lv_at hl 1 rfl) ?_
  refine j7_ialdM hx hb hK hh_7 hB159 1 rfl (by decide) hg_zh (x := a1.toInt) (rfl) (by omega) (j := 0) rfl dX13_addHyp_30 (fun z_9 ez_9 (hz_9 : 0 ≤ z_9.toInt ∧ z_9.toInt ≤ 8) => ?_)
  have hqz_9 : z_9.toInt = jSo fh (a1.toInt) := by unfold jSo; rw [ez_9]
  refine lv_iadd hx hb dX13_addHyp_31 ?_
  refine lv_topi (fun z_10 ez_10 => ?_)
  have hz_10 : z_10.toInt = z_8.toInt + z_9.toInt := by rw [ez_10]; exact jb_iadd2 (rfl) (rfl) (by omega)
  refine lv_iload_n hx hb dX13_addHyp_32 rfl (lv_at hl 3 rfl) ?_
  refine j7_iastU hx hb hK hh_7 hB hB162 1 rfl (by decide) (by decide) rfl 1 rfl (M1 := [(zh, 159, 46, ca 1, fh)]) [0] rfl rfl rfl hg_zp (x := z_10.toInt) (rfl) (by omega) (by first | omega | (refine ⟨?_, ?_⟩ <;> (first | omega | rfl | assumption | decide | exact Or.inl rfl | exact Or.inr rfl | (simp only; omega)))) dX13_addHyp_33 (fun H_11 locs_11 fs_12 hv_11 ho_11 hh_11 => ?_)
  have hv_11 : jSo fs_12 (z_10.toInt) = a3.toInt := by unfold jSo; rw [hv_11]; try exact rfl
  rw [show z_10.toInt = ((8 * a1.toInt) + z_9.toInt) by omega] at hv_11 ho_11
  clear hh_7
  refine lv_aload_n hx hb dX13_addHyp_34 rfl (lv_at hl 0 rfl) ?_
  refine j7_read hx hb hown hK (C := RX13) (T := TX13) (N := 50) rfl hly_15_25 hlk_62 (hh_11.at 1 rfl) dX13_addHyp_35 ?_
  refine lv_iload_n hx hb dX13_addHyp_38 rfl (lv_at hl 1 rfl) ?_
  refine lv_dup2_11 hx hb dX13_addHyp_39 rfl rfl ?_
  refine j7_ialdM hx hb hK hh_11 hB159 1 rfl (by decide) hg_zh (x := a1.toInt) (rfl) (by omega) (j := 1) rfl dX13_addHyp_40 (fun z_13 ez_13 (hz_13 : 0 ≤ z_13.toInt ∧ z_13.toInt ≤ 8) => ?_)
  have hqz_13 : z_13.toInt = jSo fh (a1.toInt) := by unfold jSo; rw [ez_13]
  refine lv_iconst (v := 1) hx hb dX13_addHyp_41 (by decide) ?_
  refine lv_iadd hx hb dX13_addHyp_42 ?_
  refine lv_topi (fun z_14 ez_14 => ?_)
  have hz_14 : z_14.toInt = z_13.toInt + 1 := by rw [ez_14]; exact jb_iadd2 (rfl) ((by decide)) (by omega)
  refine j7_iastU hx hb hK hh_11 hB hB159 1 rfl (by decide) (by decide) rfl 1 rfl (M1 := [(zp, 162, 368, ca 1, fs_12)]) [0] rfl rfl rfl hg_zh (x := a1.toInt) (rfl) (by omega) (by first | omega | (refine ⟨?_, ?_⟩ <;> (first | omega | rfl | assumption | decide | exact Or.inl rfl | exact Or.inr rfl | (simp only; omega)))) dX13_addHyp_43 (fun H_15 locs_15 fs_16 hv_15 ho_15 hh_15 => ?_)
  have hv_15 : jSo fs_16 (a1.toInt) = z_14.toInt := by unfold jSo; rw [hv_15]; try exact rfl
  clear hh_11
  rw [hQ]
  exact W.vret hx hb hr (fun t ht hW => ⟨⟨(fs_16, fs_12), rfl, by (try dsimp only); exact ⟨jUpd.mk (n := 46) (by rw [hv_15]; omega) ho_15 rfl (by omega), jUpd.mk (n := 368) hv_11 ho_11 (by omega) (by omega)⟩, ⟨hh_15.rt (M1 := []) [] rfl ht, by rw [ht]; exact hh_15.2.2.2.2.2.2.2.1.sub [0, 1] rfl⟩⟩, by rw [ht]; try exact hh_15.1.1, fun q h9 hq => by rw [ht]; try exact hh_15.1.2.1 q h9 hq⟩) hh_15.1.2.2 dX13_addHyp_44
set_option maxHeartbeats 4000000 in
set_option maxRecDepth 20000 in
theorem uX13_dropHyp (l : Launch) (dC : Nat → ClassId) (dI : Nat → Nat → Nat) (ca : Nat → ClassId) (base : Nat) (B : jF) (hB : jBok B) (hAp : jAp (dC, dI)) (hB15 : ∀ n G a H, B 15 n G a H ↔ jOb (dC, dI) 15 50 (F15 n G) a H) (hB159 : ∀ n G a H, B 159 n G a H ↔ jAr (dC, dI) (ca 1) (fun j z => 0 ≤ z.toInt ∧ z.toInt ≤ 8) n a H) (hB162 : ∀ n G a H, B 162 n G a H ↔ jAr (dC, dI) (ca 1) (fun j z => 0 ≤ z.toInt ∧ z.toInt ≤ 119999) n a H) (hB163 : ∀ n G a H, B 163 n G a H ↔ jAr (dC, dI) (ca 1) (fun j z => 0 ≤ z.toInt ∧ z.toInt ≤ 1599) n a H) (G0 : jT) (H0 : Heap) (r0 : Nat) (a1 : Int32) (a2 : Int32) (zh : Nat) (zp : Nat) (fh : Nat → Int32) (fp : Nat → Int32) : Met l yX13_dropHyp (jw yX13_dropHyp cX13_dropHyp 4 none) ({ frames := 0, cells := 0, slots := 0, locals := 0 }) (va_Pc [.ref r0, .int a1, .int a2] (fun U => U.heap = H0 ∧ jX B base G0 [] H0 ∧ jG dC dI ca base U ∧ G0 r0 = some (15, 0) ∧ G0 zh = some (159, 46) ∧ G0 zp = some (162, 368) ∧ jP (dC, dI) G0 H0 [(r0, 15, 25, .ref zh), (r0, 15, 27, .ref zp)] ∧ jMc (dC, dI) G0 H0 [(zh, 159, 46, ca 1, fh), (zp, 162, 368, ca 1, fp)] ∧ 0 ≤ a1.toInt ∧ a1.toInt ≤ 45 ∧ 0 ≤ a2.toInt ∧ a2.toInt < jSo fh a1.toInt ∧ jSo fh a1.toInt ≤ 8)) (va_Qv (S := (Nat → Int32) × (Nat → Int32)) (fun u => jDh fh fp u.1 u.2 a1.toInt) (fun u t => jRt (dC, dI) B base G0 EX13_dropHyp H0 [] t.heap ∧ jMc (dC, dI) G0 t.heap [(zh, 159, 46, ca 1, u.1), (zp, 162, 368, ca 1, u.2)]) (jA base)) 0 0 (jA base) := by
  refine Met.ofW (cc := cX13_dropHyp) (maxL := 4) (ret := none) (by decide) rfl ?_
  intro p e s m args below meth c s₁ Bd hml hv
  obtain ⟨rfl, hH0, hX, hG, hg_r0, hg_zh, hg_zp, hP0, hM0, hp0, hp1, hp2, hp3, hp4⟩ := hv
  have hK := hG.1
  have hx := Bd.exec
  have hb := Bd.bytes
  have hr := Bd.returns
  have hts := atoms_spec (ws := (jw yX13_dropHyp cX13_dropHyp 4 none)) Bd.pre
  have htw : ∀ w ∈ jWl, w.before _ s = true := fun w h => hts w (List.mem_cons_of_mem _ h)
  have hown : s.vm.findClass RX13 = some m.cls := findClass_of_methodNamed Bd.named
  have hlocks := Bd.notSynchronized
  obtain ⟨Q, hQ⟩ : ∃ Q, Q = MQ below (va_Qv (S := (Nat → Int32) × (Nat → Int32)) (fun u => jDh fh fp u.1 u.2 a1.toInt) (fun u t => jRt (dC, dI) B base G0 EX13_dropHyp H0 [] t.heap ∧ jMc (dC, dI) G0 t.heap [(zh, 159, 46, ca 1, u.1), (zp, 162, 368, ca 1, u.2)]) (jA base)) ([.ref r0, .int a1, .int a2] : List Value).toArray s 0 0 (jA base) := ⟨_, rfl⟩
  rw [← hQ]
  have hl := lv_entry ([.ref r0, .int a1, .int a2]) (n := 4) (Nat.le_of_ble_eq_true rfl)
  rw [lg_entry_eq]
  generalize (lg_sl ([.ref r0, .int a1, .int a2]) ++ List.replicate (4 - (lg_sl ([.ref r0, .int a1, .int a2])).length) Slot.unset).toArray = ls at hl ⊢
  have hl : lv_has ls 4 [(0, .ref r0), (1, .int a1), (2, .int a2)] := hl
  generalize hR : (headSpec (jw yX13_dropHyp cX13_dropHyp 4 none) ({ frames := 0, cells := 0, slots := 0, locals := 0 })).room = R
  subst hH0
  have hh : jSt (dC, dI) B base G0 G0 EX13_dropHyp s.heap 0 0 [(r0, 15, 25, .ref zh), (r0, 15, 27, .ref zp)] [(zh, 159, 46, ca 1, fh), (zp, 162, 368, ca 1, fp)] [] s.heap [] := jSt.start hX hP0 hM0 jIs.nil
  clear hX hP0
  have hk0 : (0 : Int32).toInt = 0 := by decide
  have hk1 : (1 : Int32).toInt = 1 := by decide
  have hk8 : (8 : Int32).toInt = 8 := by decide
  have hly_15_25 := htw (u_lay RX13 TX13 25) (jWc_wsX130 _ (u_in_lay (by decide)))
  have hly_15_26 := htw (u_lay RX13 TX13 26) (jWc_wsX130 _ (u_in_lay (by decide)))
  have hly_15_27 := htw (u_lay RX13 TX13 27) (jWc_wsX130 _ (u_in_lay (by decide)))
  have hlk_62 := (htw (.fieldLink RX13 62 "ProofServerModel$Kernel" "hyps" "[I") (jWr_15 _ (List.mem_of_getElem? (i := 1) rfl)))
  have hlk_65 := (htw (.fieldLink RX13 65 "ProofServerModel$Kernel" "hypName" "[I") (jWr_15 _ (List.mem_of_getElem? (i := 2) rfl)))
  have hlk_68 := (htw (.fieldLink RX13 68 "ProofServerModel$Kernel" "hyp" "[I") (jWr_15 _ (List.mem_of_getElem? (i := 3) rfl)))
  have hrg_a1 := jb_rng a1
  have hrg_a2 := jb_rng a2
  obtain ⟨fp0, hfp0⟩ : ∃ z, z = fp := ⟨_, rfl⟩
  refine lv_iload_n hx hb dX13_dropHyp_0 rfl (lv_at hl 2 rfl) ?_
  refine lv_istore_n (lv' := [(3, .int a2), (0, .ref r0), (1, .int a1), (2, .int a2)]) hx hb dX13_dropHyp_1 rfl hl (by decide) rfl (fun ls hl => ?_)
  have L2 : ∀ (N : Nat) (v3_1 : Int32) (fp_1 : Nat → Int32) (H_1 : Heap) (locs_1 : List Loc), jSt (dC, dI) B base G0 G0 EX13_dropHyp s.heap 0 0 [(r0, 15, 25, .ref zh), (r0, 15, 27, .ref zp)] [(zp, 162, 368, ca 1, fp_1), (zh, 159, 46, ca 1, fh)] [] H_1 locs_1 → (a2.toInt ≤ v3_1.toInt ∧ v3_1.toInt ≤ 7 ∧ v3_1.toInt + 1 ≤ jSo fh a1.toInt ∧ jDq fp0 fp_1 a1.toInt a2.toInt v3_1.toInt) → (8 - v3_1.toInt : Int) < N → ∀ ls : Array Slot, lv_has ls 4 [(0, .ref r0), (1, .int a1), (2, .int a2), (3, .int v3_1)] → W p l e R s m ([.ref r0, .int a1, .int a2] : List Value).toArray below meth c H_1 locs_1 0 0 Q (F0 m 2 ls []) := by
    intro N
    induction N with
    | zero => intro v3_1 fp_1 H_1 locs_1 hh_1  hi_1 hm; exact absurd hm (by omega)
    | succ N L2 =>
      intro v3_1 fp_1 H_1 locs_1 hh_1  hi_1 hm_1 ls hl
      obtain ⟨hi_1_0, hi_1_1, hi_1_2, hi_1_3⟩ := hi_1
      refine lv_iload_n hx hb dX13_dropHyp_2 rfl (lv_at hl 3 rfl) ?_
      refine lv_iconst (v := 1) hx hb dX13_dropHyp_3 (by decide) ?_
      refine lv_iadd hx hb dX13_dropHyp_4 ?_
      refine lv_topi (fun z_2 ez_2 => ?_)
      have hz_2 : z_2.toInt = v3_1.toInt + 1 := by rw [ez_2]; exact jb_iadd2 (rfl) ((by decide)) (by omega)
      refine lv_aload_n hx hb dX13_dropHyp_5 rfl (lv_at hl 0 rfl) ?_
      refine j7_read hx hb hown hK (C := RX13) (T := TX13) (N := 50) rfl hly_15_25 hlk_62 (hh_1.at 0 rfl) dX13_dropHyp_6 ?_
      refine lv_iload_n hx hb dX13_dropHyp_9 rfl (lv_at hl 1 rfl) ?_
      refine j7_ialdM hx hb hK hh_1 hB159 1 rfl (by decide) hg_zh (x := a1.toInt) (rfl) (by omega) (j := 1) rfl dX13_dropHyp_10 (fun z_3 ez_3 (hz_3 : 0 ≤ z_3.toInt ∧ z_3.toInt ≤ 8) => ?_)
      have hqz_3 : z_3.toInt = jSo fh (a1.toInt) := by unfold jSo; rw [ez_3]
      refine lv_icmp_ge (tgt := 68) hx hb dX13_dropHyp_11 (by decide) (fun c_4 => ?_) (fun c_4 => ?_)
      · skip
        have c_4' : z_2.toInt ≥ z_3.toInt := jb_ge (rfl) (rfl) c_4
        refine lv_aload_n hx hb dX13_dropHyp_68 rfl (lv_at hl 0 rfl) ?_
        refine j7_read hx hb hown hK (C := RX13) (T := TX13) (N := 50) rfl hly_15_25 hlk_62 (hh_1.at 0 rfl) dX13_dropHyp_69 ?_
        refine lv_iload_n hx hb dX13_dropHyp_72 rfl (lv_at hl 1 rfl) ?_
        refine lv_dup2_11 hx hb dX13_dropHyp_73 rfl rfl ?_
        refine j7_ialdM hx hb hK hh_1 hB159 1 rfl (by decide) hg_zh (x := a1.toInt) (rfl) (by omega) (j := 1) rfl dX13_dropHyp_74 (fun z_5 ez_5 (hz_5 : 0 ≤ z_5.toInt ∧ z_5.toInt ≤ 8) => ?_)
        have hqz_5 : z_5.toInt = jSo fh (a1.toInt) := by unfold jSo; rw [ez_5]
        refine lv_iconst (v := 1) hx hb dX13_dropHyp_75 (by decide) ?_
        refine lv_isub hx hb dX13_dropHyp_76 ?_
        refine lv_topi (fun z_6 ez_6 => ?_)
        have hz_6 : z_6.toInt = z_5.toInt - 1 := by rw [ez_6]; exact jb_isub2 (rfl) ((by decide)) (by omega)
        refine j7_iastU hx hb hK hh_1 hB hB159 1 rfl (by decide) (by decide) rfl 1 rfl (M1 := [(zp, 162, 368, ca 1, fp_1)]) [0] rfl rfl rfl hg_zh (x := a1.toInt) (rfl) (by omega) (by first | omega | (refine ⟨?_, ?_⟩ <;> (first | omega | rfl | assumption | decide | exact Or.inl rfl | exact Or.inr rfl | (simp only; omega)))) dX13_dropHyp_77 (fun H_7 locs_7 fs_8 hv_7 ho_7 hh_7 => ?_)
        have hv_7 : jSo fs_8 (a1.toInt) = z_6.toInt := by unfold jSo; rw [hv_7]; try exact rfl
        clear hh_1
        rw [hQ]
        exact W.vret hx hb hr (fun t ht hW => ⟨⟨(fs_8, fp_1), rfl, by
    try dsimp only
    have h8 := hi_1_3
    rw [hfp0] at h8
    exact h8.dh (jUpd.mk (n := 46) (by rw [hv_7]; omega) ho_7 rfl (by omega)) (by omega) (by omega) (by omega), ⟨hh_7.rt (M1 := []) [] rfl ht, by rw [ht]; exact hh_7.2.2.2.2.2.2.2.1.sub [0, 1] rfl⟩⟩, by rw [ht]; try exact hh_7.1.1, fun q h9 hq => by rw [ht]; try exact hh_7.1.2.1 q h9 hq⟩) hh_7.1.2.2 dX13_dropHyp_78
      · skip
        have c_4' : z_2.toInt < z_3.toInt := jb_ge_n (rfl) (rfl) c_4
        refine lv_aload_n hx hb dX13_dropHyp_14 rfl (lv_at hl 0 rfl) ?_
        obtain ⟨v_9, hv_9, hh_10⟩ := hh_1.pin (C := RX13) (T := TX13) (N := 50) hB15 rfl (by decide) hg_r0 (i := 26) (by decide) rfl
        clear hh_1
        obtain ⟨hypName_11, rfl, hg_hypName_11⟩ := hv_9
        refine j7_read hx hb hown hK (C := RX13) (T := TX13) (N := 50) rfl hly_15_26 hlk_65 (hh_10.at 0 rfl) dX13_dropHyp_15 ?_
        refine lv_bipush (v := 8) hx hb dX13_dropHyp_18 (by decide) ?_
        refine lv_iload_n hx hb dX13_dropHyp_20 rfl (lv_at hl 1 rfl) ?_
        refine lv_imul hx hb dX13_dropHyp_21 ?_
        refine lv_topi (fun z_12 ez_12 => ?_)
        have hz_12 : z_12.toInt = 8 * a1.toInt := by rw [ez_12]; exact jb_imul2 ((by decide)) (rfl) (by omega)
        refine lv_iload_n hx hb dX13_dropHyp_22 rfl (lv_at hl 3 rfl) ?_
        refine lv_iadd hx hb dX13_dropHyp_23 ?_
        refine lv_topi (fun z_13 ez_13 => ?_)
        have hz_13 : z_13.toInt = z_12.toInt + v3_1.toInt := by rw [ez_13]; exact jb_iadd2 (rfl) (rfl) (by omega)
        refine lv_aload_n hx hb dX13_dropHyp_24 rfl (lv_at hl 0 rfl) ?_
        refine j7_read hx hb hown hK (C := RX13) (T := TX13) (N := 50) rfl hly_15_26 hlk_65 (hh_10.at 0 rfl) dX13_dropHyp_25 ?_
        refine lv_bipush (v := 8) hx hb dX13_dropHyp_28 (by decide) ?_
        refine lv_iload_n hx hb dX13_dropHyp_30 rfl (lv_at hl 1 rfl) ?_
        refine lv_imul hx hb dX13_dropHyp_31 ?_
        refine lv_topi (fun z_14 ez_14 => ?_)
        have hz_14 : z_14.toInt = 8 * a1.toInt := by rw [ez_14]; exact jb_imul2 ((by decide)) (rfl) (by omega)
        refine lv_iload_n hx hb dX13_dropHyp_32 rfl (lv_at hl 3 rfl) ?_
        refine lv_iadd hx hb dX13_dropHyp_33 ?_
        refine lv_topi (fun z_15 ez_15 => ?_)
        have hz_15 : z_15.toInt = z_14.toInt + v3_1.toInt := by rw [ez_15]; exact jb_iadd2 (rfl) (rfl) (by omega)
        refine lv_iconst (v := 1) hx hb dX13_dropHyp_34 (by decide) ?_
        refine lv_iadd hx hb dX13_dropHyp_35 ?_
        refine lv_topi (fun z_16 ez_16 => ?_)
        have hz_16 : z_16.toInt = z_15.toInt + 1 := by rw [ez_16]; exact jb_iadd2 (rfl) ((by decide)) (by omega)
        refine j7_iald hx hb hK hh_10 hB163 1 rfl (by decide) hg_hypName_11 (x := z_16.toInt) (rfl) (by omega) dX13_dropHyp_36 (fun z_17 (hz_17 : 0 ≤ z_17.toInt ∧ z_17.toInt ≤ 1599) => ?_)
        refine j7_iast hx hb hK hh_10 hB hB163 1 rfl (by decide) (by decide) rfl rfl rfl hg_hypName_11 (x := z_13.toInt) (rfl) (by omega) (by first | omega | (refine ⟨?_, ?_⟩ <;> (first | omega | rfl | assumption | decide | exact Or.inl rfl | exact Or.inr rfl | (simp only; omega)))) dX13_dropHyp_37 (fun H_18 locs_18 hh_18 => ?_)
        clear hh_10
        refine lv_aload_n hx hb dX13_dropHyp_38 rfl (lv_at hl 0 rfl) ?_
        refine j7_read hx hb hown hK (C := RX13) (T := TX13) (N := 50) rfl hly_15_27 hlk_68 (hh_18.at 2 rfl) dX13_dropHyp_39 ?_
        refine lv_bipush (v := 8) hx hb dX13_dropHyp_42 (by decide) ?_
        refine lv_iload_n hx hb dX13_dropHyp_44 rfl (lv_at hl 1 rfl) ?_
        refine lv_imul hx hb dX13_dropHyp_45 ?_
        refine lv_topi (fun z_19 ez_19 => ?_)
        have hz_19 : z_19.toInt = 8 * a1.toInt := by rw [ez_19]; exact jb_imul2 ((by decide)) (rfl) (by omega)
        refine lv_iload_n hx hb dX13_dropHyp_46 rfl (lv_at hl 3 rfl) ?_
        refine lv_iadd hx hb dX13_dropHyp_47 ?_
        refine lv_topi (fun z_20 ez_20 => ?_)
        have hz_20 : z_20.toInt = z_19.toInt + v3_1.toInt := by rw [ez_20]; exact jb_iadd2 (rfl) (rfl) (by omega)
        refine lv_aload_n hx hb dX13_dropHyp_48 rfl (lv_at hl 0 rfl) ?_
        refine j7_read hx hb hown hK (C := RX13) (T := TX13) (N := 50) rfl hly_15_27 hlk_68 (hh_18.at 2 rfl) dX13_dropHyp_49 ?_
        refine lv_bipush (v := 8) hx hb dX13_dropHyp_52 (by decide) ?_
        refine lv_iload_n hx hb dX13_dropHyp_54 rfl (lv_at hl 1 rfl) ?_
        refine lv_imul hx hb dX13_dropHyp_55 ?_
        refine lv_topi (fun z_21 ez_21 => ?_)
        have hz_21 : z_21.toInt = 8 * a1.toInt := by rw [ez_21]; exact jb_imul2 ((by decide)) (rfl) (by omega)
        refine lv_iload_n hx hb dX13_dropHyp_56 rfl (lv_at hl 3 rfl) ?_
        refine lv_iadd hx hb dX13_dropHyp_57 ?_
        refine lv_topi (fun z_22 ez_22 => ?_)
        have hz_22 : z_22.toInt = z_21.toInt + v3_1.toInt := by rw [ez_22]; exact jb_iadd2 (rfl) (rfl) (by omega)
        refine lv_iconst (v := 1) hx hb dX13_dropHyp_58 (by decide) ?_
        refine lv_iadd hx hb dX13_dropHyp_59 ?_
        refine lv_topi (fun z_23 ez_23 => ?_)
        have hz_23 : z_23.toInt = z_22.toInt + 1 := by rw [ez_23]; exact jb_iadd2 (rfl) ((by decide)) (by omega)
        refine j7_ialdM hx hb hK hh_18 hB162 1 rfl (by decide) hg_zp (x := z_23.toInt) (rfl) (by omega) (j := 0) rfl dX13_dropHyp_60 (fun z_24 ez_24 (hz_24 : 0 ≤ z_24.toInt ∧ z_24.toInt ≤ 119999) => ?_)
        have hqz_24 : z_24.toInt = jSo fp_1 ((((8 * a1.toInt) + v3_1.toInt) + 1)) := by unfold jSo; rw [ez_24, show z_23.toInt = (((8 * a1.toInt) + v3_1.toInt) + 1) by omega]
        refine j7_iastU hx hb hK hh_18 hB hB162 1 rfl (by decide) (by decide) rfl 0 rfl (M1 := [(zh, 159, 46, ca 1, fh)]) [1] rfl rfl rfl hg_zp (x := z_20.toInt) (rfl) (by omega) (by first | omega | (refine ⟨?_, ?_⟩ <;> (first | omega | rfl | assumption | decide | exact Or.inl rfl | exact Or.inr rfl | (simp only; omega)))) dX13_dropHyp_61 (fun H_25 locs_25 fs_26 hv_25 ho_25 hh_25 => ?_)
        have hv_25 : jSo fs_26 (z_20.toInt) = z_24.toInt := by unfold jSo; rw [hv_25]; try exact rfl
        rw [show z_20.toInt = ((8 * a1.toInt) + v3_1.toInt) by omega] at hv_25 ho_25
        clear hh_18
        obtain ⟨z_27, ez_27⟩ : ∃ y : Int32, y = v3_1 + 1 := ⟨_, rfl⟩
        refine lv_iinc (v := z_27) (lv' := [(3, .int z_27), (0, .ref r0), (1, .int a1), (2, .int a2)]) hx hb dX13_dropHyp_62 hl (k := 3) rfl (by rw [ez_27]; rfl) (by decide) rfl (fun ls hl => ?_)
        have hz_27 : z_27.toInt = v3_1.toInt + 1 := by rw [ez_27]; exact jb_iadd2 (rfl) (by decide) (by omega)
        refine lv_goto (tgt := 2) hx hb dX13_dropHyp_65 (by decide) ?_
        exact L2 z_27 fs_26 _ _ (hh_25.sub (L1 := [(r0, 15, 25, .ref zh), (r0, 15, 27, .ref zp)]) [1, 2] rfl (M1 := [(zp, 162, 368, ca 1, fs_26), (zh, 159, 46, ca 1, fh)]) [0, 1] rfl (I1 := []) [] rfl) (⟨(by first | omega | rfl | assumption | (rw [hfp0]; exact jDq.rf _ _ _) | (rw [show (z_27).toInt = v3_1.toInt + 1 by omega]; exact hi_1_3.s hv_25 ho_25 (by omega) hqz_24 (by omega) (by omega) (by omega))), (by first | omega | rfl | assumption | (rw [hfp0]; exact jDq.rf _ _ _) | (rw [show (z_27).toInt = v3_1.toInt + 1 by omega]; exact hi_1_3.s hv_25 ho_25 (by omega) hqz_24 (by omega) (by omega) (by omega))), (by first | omega | rfl | assumption | (rw [hfp0]; exact jDq.rf _ _ _) | (rw [show (z_27).toInt = v3_1.toInt + 1 by omega]; exact hi_1_3.s hv_25 ho_25 (by omega) hqz_24 (by omega) (by omega) (by omega))), (by first | assumption | (rw [hfp0]; exact jDq.rf _ _ _) | (rw [show (z_27).toInt = v3_1.toInt + 1 by omega]; exact hi_1_3.s hv_25 ho_25 (by omega) hqz_24 (by omega) (by omega) (by omega)) | omega)⟩) (by omega) _ (lv_sub hl [1, 2, 3, 0] rfl)
  exact L2 (8 - (a2 : Int32).toInt : Int).toNat.succ a2 fp _ _ (hh.sub (L1 := [(r0, 15, 25, .ref zh), (r0, 15, 27, .ref zp)]) [0, 1] rfl (M1 := [(zp, 162, 368, ca 1, fp), (zh, 159, 46, ca 1, fh)]) [1, 0] rfl (I1 := []) [] rfl) (⟨(by first | omega | rfl | assumption | (rw [hfp0]; exact jDq.rf _ _ _) | (rw [show (a2).toInt = (zz_none).toInt + 1 by omega]; exact (zz_none).s hv_25 ho_25 (by omega) hqz_24 (by omega) (by omega) (by omega))), (by first | omega | rfl | assumption | (rw [hfp0]; exact jDq.rf _ _ _) | (rw [show (a2).toInt = (zz_none).toInt + 1 by omega]; exact (zz_none).s hv_25 ho_25 (by omega) hqz_24 (by omega) (by omega) (by omega))), (by first | omega | rfl | assumption | (rw [hfp0]; exact jDq.rf _ _ _) | (rw [show (a2).toInt = (zz_none).toInt + 1 by omega]; exact (zz_none).s hv_25 ho_25 (by omega) hqz_24 (by omega) (by omega) (by omega))), (by first | assumption | (rw [hfp0]; exact jDq.rf _ _ _) | (rw [show (a2).toInt = (zz_none).toInt + 1 by omega]; exact (zz_none).s hv_25 ho_25 (by omega) hqz_24 (by omega) (by omega) (by omega)) | omega)⟩) (by omega) _ (lv_sub hl [1, 2, 3, 0] rfl)
set_option maxHeartbeats 4000000 in
set_option maxRecDepth 20000 in
theorem uX13_addFactK (l : Launch) (dC : Nat → ClassId) (dI : Nat → Nat → Nat) (ca : Nat → ClassId) (base : Nat) (B : jF) (hB : jBok B) (hAp : jAp (dC, dI)) (hB15 : ∀ n G a H, B 15 n G a H ↔ jOb (dC, dI) 15 50 (F15 n G) a H) (hB160 : ∀ n G a H, B 160 n G a H ↔ jAr (dC, dI) (ca 1) (fun j z => 0 ≤ z.toInt ∧ z.toInt ≤ 119999) n a H) (hB163 : ∀ n G a H, B 163 n G a H ↔ jAr (dC, dI) (ca 1) (fun j z => 0 ≤ z.toInt ∧ z.toInt ≤ 1599) n a H) (G0 : jT) (H0 : Heap) (r0 : Nat) (a1 : Int32) (a2 : Int32) (pf : Int32) (zf : Nat) (ff : Nat → Int32) : Met l yX13_addFact (jw yX13_addFact cX13_addFact 3 none) ({ frames := 0, cells := 0, slots := 0, locals := 0 }) (va_Pc [.ref r0, .int a1, .int a2] (fun U => U.heap = H0 ∧ jX B base G0 [] H0 ∧ jG dC dI ca base U ∧ G0 r0 = some (15, 0) ∧ G0 zf = some (160, 16) ∧ jP (dC, dI) G0 H0 [(r0, 15, 15, .int pf), (r0, 15, 17, .ref zf)] ∧ jMc (dC, dI) G0 H0 [(zf, 160, 16, ca 1, ff)] ∧ 0 ≤ pf.toInt ∧ pf.toInt ≤ 15 ∧ 0 ≤ a1.toInt ∧ a1.toInt ≤ 1599 ∧ 0 ≤ a2.toInt ∧ a2.toInt ≤ 119999)) (va_Qv (S := Int32 × (Nat → Int32)) (fun u => u.1.toInt = pf.toInt + 1 ∧ jUpd 16 ff u.2 pf.toInt a2.toInt) (fun u t => jRt (dC, dI) B base G0 EX13_addFactK H0 [(r0, 15, 15, .int u.1)] t.heap ∧ jMc (dC, dI) G0 t.heap [(zf, 160, 16, ca 1, u.2)]) (jA base)) 0 0 (jA base) := by
  refine Met.ofW (cc := cX13_addFact) (maxL := 3) (ret := none) (by decide) rfl ?_
  intro p e s m args below meth c s₁ Bd hml hv
  obtain ⟨rfl, hH0, hX, hG, hg_r0, hg_zf, hP0, hM0, hp0, hp1, hp2, hp3, hp4, hp5⟩ := hv
  have hK := hG.1
  have hx := Bd.exec
  have hb := Bd.bytes
  have hr := Bd.returns
  have hts := atoms_spec (ws := (jw yX13_addFact cX13_addFact 3 none)) Bd.pre
  have htw : ∀ w ∈ jWl, w.before _ s = true := fun w h => hts w (List.mem_cons_of_mem _ h)
  have hown : s.vm.findClass RX13 = some m.cls := findClass_of_methodNamed Bd.named
  have hlocks := Bd.notSynchronized
  obtain ⟨Q, hQ⟩ : ∃ Q, Q = MQ below (va_Qv (S := Int32 × (Nat → Int32)) (fun u => u.1.toInt = pf.toInt + 1 ∧ jUpd 16 ff u.2 pf.toInt a2.toInt) (fun u t => jRt (dC, dI) B base G0 EX13_addFactK H0 [(r0, 15, 15, .int u.1)] t.heap ∧ jMc (dC, dI) G0 t.heap [(zf, 160, 16, ca 1, u.2)]) (jA base)) ([.ref r0, .int a1, .int a2] : List Value).toArray s 0 0 (jA base) := ⟨_, rfl⟩
  rw [← hQ]
  have hl := lv_entry ([.ref r0, .int a1, .int a2]) (n := 3) (Nat.le_of_ble_eq_true rfl)
  rw [lg_entry_eq]
  generalize (lg_sl ([.ref r0, .int a1, .int a2]) ++ List.replicate (3 - (lg_sl ([.ref r0, .int a1, .int a2])).length) Slot.unset).toArray = ls at hl ⊢
  have hl : lv_has ls 3 [(0, .ref r0), (1, .int a1), (2, .int a2)] := hl
  generalize hR : (headSpec (jw yX13_addFact cX13_addFact 3 none) ({ frames := 0, cells := 0, slots := 0, locals := 0 })).room = R
  subst hH0
  have hh : jSt (dC, dI) B base G0 G0 EX13_addFactK s.heap 0 0 [(r0, 15, 15, .int pf), (r0, 15, 17, .ref zf)] [(zf, 160, 16, ca 1, ff)] [] s.heap [] := jSt.start hX hP0 hM0 jIs.nil
  clear hX hP0
  have hk0 : (0 : Int32).toInt = 0 := by decide
  have hk1 : (1 : Int32).toInt = 1 := by decide
  have hly_15_15 := htw (u_lay RX13 TX13 15) (jWc_wsX130 _ (u_in_lay (by decide)))
  have hly_15_16 := htw (u_lay RX13 TX13 16) (jWc_wsX130 _ (u_in_lay (by decide)))
  have hly_15_17 := htw (u_lay RX13 TX13 17) (jWc_wsX130 _ (u_in_lay (by decide)))
  have hlk_47 := (htw (.fieldLink RX13 47 "ProofServerModel$Kernel" "factName" "[I") (jWr_14 _ (List.mem_of_getElem? (i := 20) rfl)))
  have hlk_112 := (htw (.fieldLink RX13 112 "ProofServerModel$Kernel" "facts" "I") (jWr_59 _ (List.mem_of_getElem? (i := 18) rfl)))
  have hlk_50 := (htw (.fieldLink RX13 50 "ProofServerModel$Kernel" "fact" "[I") (jWr_14 _ (List.mem_of_getElem? (i := 21) rfl)))
  have hrg_a1 := jb_rng a1
  have hrg_a2 := jb_rng a2
  refine lv_aload_n hx hb dX13_addFact_0 rfl (lv_at hl 0 rfl) ?_
  obtain ⟨v_1, hv_1, hh_2⟩ := hh.pin (C := RX13) (T := TX13) (N := 50) hB15 rfl (by decide) hg_r0 (i := 16) (by decide) rfl
  clear hh
  obtain ⟨factName_3, rfl, hg_factName_3⟩ := hv_1
  refine j7_read hx hb hown hK (C := RX13) (T := TX13) (N := 50) rfl hly_15_16 hlk_47 (hh_2.at 0 rfl) dX13_addFact_1 ?_
  refine lv_aload_n hx hb dX13_addFact_4 rfl (lv_at hl 0 rfl) ?_
  refine j7_read hx hb hown hK (C := RX13) (T := TX13) (N := 50) rfl hly_15_15 hlk_112 (hh_2.at 1 rfl) dX13_addFact_5 ?_
  refine lv_iload_n hx hb dX13_addFact_8 rfl (lv_at hl 1 rfl) ?_
  refine j7_iast hx hb hK hh_2 hB hB163 1 rfl (by decide) (by decide) rfl rfl rfl hg_factName_3 (x := pf.toInt) (rfl) (by omega) (by first | omega | (refine ⟨?_, ?_⟩ <;> (first | omega | rfl | assumption | decide | exact Or.inl rfl | exact Or.inr rfl | (simp only; omega)))) dX13_addFact_9 (fun H_4 locs_4 hh_4 => ?_)
  clear hh_2
  refine lv_aload_n hx hb dX13_addFact_10 rfl (lv_at hl 0 rfl) ?_
  refine j7_read hx hb hown hK (C := RX13) (T := TX13) (N := 50) rfl hly_15_17 hlk_50 (hh_4.at 2 rfl) dX13_addFact_11 ?_
  refine lv_aload_n hx hb dX13_addFact_14 rfl (lv_at hl 0 rfl) ?_
  refine j7_read hx hb hown hK (C := RX13) (T := TX13) (N := 50) rfl hly_15_15 hlk_112 (hh_4.at 1 rfl) dX13_addFact_15 ?_
  refine lv_iload_n hx hb dX13_addFact_18 rfl (lv_at hl 2 rfl) ?_
  refine j7_iastU hx hb hK hh_4 hB hB160 1 rfl (by decide) (by decide) rfl 0 rfl (M1 := []) [] rfl rfl rfl hg_zf (x := pf.toInt) (rfl) (by omega) (by first | omega | (refine ⟨?_, ?_⟩ <;> (first | omega | rfl | assumption | decide | exact Or.inl rfl | exact Or.inr rfl | (simp only; omega)))) dX13_addFact_19 (fun H_5 locs_5 fs_6 hv_5 ho_5 hh_5 => ?_)
  have hv_5 : jSo fs_6 (pf.toInt) = a2.toInt := by unfold jSo; rw [hv_5]; try exact rfl
  clear hh_4
  refine lv_aload_n hx hb dX13_addFact_20 rfl (lv_at hl 0 rfl) ?_
  refine lv_dup hx hb dX13_addFact_21 rfl ?_
  refine j7_read hx hb hown hK (C := RX13) (T := TX13) (N := 50) rfl hly_15_15 hlk_112 (hh_5.at 1 rfl) dX13_addFact_22 ?_
  refine lv_iconst (v := 1) hx hb dX13_addFact_25 (by decide) ?_
  refine lv_iadd hx hb dX13_addFact_26 ?_
  refine lv_topi (fun z_7 ez_7 => ?_)
  have hz_7 : z_7.toInt = pf.toInt + 1 := by rw [ez_7]; exact jb_iadd2 (rfl) ((by decide)) (by omega)
  refine j7_put hx hb hown hK hh_5 hB hAp hB15 (C := RX13) (T := TX13) (N := 50) rfl (by decide) hg_r0 (i := 15) (by decide) hly_15_15 rfl hlk_112 rfl (ty := .int) (v := .int z_7) (by decide +kernel) rfl rfl (⟨_, rfl, by omega, by omega⟩) rfl (L1 := [(r0, 15, 16, .ref factName_3), (r0, 15, 17, .ref zf)]) [0, 2] rfl rfl rfl dX13_addFact_27 (fun H_8 locs_8 hh_8 => ?_)
  clear hh_5
  rw [hQ]
  exact W.vret hx hb hr (fun t ht hW => ⟨⟨(z_7, fs_6), rfl, by (try dsimp only); exact ⟨by omega, jUpd.mk (n := 16) hv_5 ho_5 rfl (by omega)⟩, ⟨hh_8.rt (M1 := [(r0, 15, 15, .int z_7)]) [0] rfl ht, by rw [ht]; exact hh_8.2.2.2.2.2.2.2.1.sub [0] rfl⟩⟩, by rw [ht]; try exact hh_8.1.1, fun q h9 hq => by rw [ht]; try exact hh_8.1.2.1 q h9 hq⟩) hh_8.1.2.2 dX13_addFact_30
set_option maxHeartbeats 4000000 in
set_option maxRecDepth 20000 in
theorem uX13_doneK (l : Launch) (dC : Nat → ClassId) (dI : Nat → Nat → Nat) (ca : Nat → ClassId) (base : Nat) (B : jF) (hB : jBok B) (hAp : jAp (dC, dI)) (hB15 : ∀ n G a H, B 15 n G a H ↔ jOb (dC, dI) 15 50 (F15 n G) a H) (hB158 : ∀ n G a H, B 158 n G a H ↔ jAr (dC, dI) (ca 1) (fun j z => 0 ≤ z.toInt ∧ z.toInt ≤ 6) n a H) (hB159 : ∀ n G a H, B 159 n G a H ↔ jAr (dC, dI) (ca 1) (fun j z => 0 ≤ z.toInt ∧ z.toInt ≤ 8) n a H) (hB161 : ∀ n G a H, B 161 n G a H ↔ jAr (dC, dI) (ca 1) (fun j z => 0 ≤ z.toInt ∧ z.toInt ≤ 119999) n a H) (hB162 : ∀ n G a H, B 162 n G a H ↔ jAr (dC, dI) (ca 1) (fun j z => 0 ≤ z.toInt ∧ z.toInt ≤ 119999) n a H) (hB163 : ∀ n G a H, B 163 n G a H ↔ jAr (dC, dI) (ca 1) (fun j z => 0 ≤ z.toInt ∧ z.toInt ≤ 1599) n a H) (G0 : jT) (H0 : Heap) (r0 : Nat) (a1 : Int32) (pg : Int32) (pu : Int32) (zg : Nat) (zh : Nat) (zp : Nat) (fg : Nat → Int32) (fh : Nat → Int32) (fp : Nat → Int32) : Met l yX13_done (jw yX13_done cX13_done 2 none) ({ frames := 2, cells := 0, slots := 0, locals := 45 }) (va_Pc [.ref r0, .int a1] (fun U => U.heap = H0 ∧ jX B base G0 [] H0 ∧ jG dC dI ca base U ∧ G0 r0 = some (15, 0) ∧ (a1 = 0 ∨ a1 = 1) ∧ G0 zg = some (161, 46) ∧ G0 zh = some (159, 46) ∧ G0 zp = some (162, 368) ∧ jP (dC, dI) G0 H0 [(r0, 15, 21, .int pg), (r0, 15, 34, .int pu), (r0, 15, 22, .ref zg), (r0, 15, 25, .ref zh), (r0, 15, 27, .ref zp)] ∧ jMc (dC, dI) G0 H0 [(zg, 161, 46, ca 1, fg), (zh, 159, 46, ca 1, fh), (zp, 162, 368, ca 1, fp)] ∧ 1 ≤ pg.toInt ∧ pg.toInt ≤ 6 ∧ pu.toInt = 0)) (va_Qv (S := Int32 × Int32 × (Nat → Int32) × (Nat → Int32) × (Nat → Int32)) (fun u => 0 ≤ u.2.1.toInt ∧ u.2.1.toInt ≤ 9 ∧ 0 ≤ u.1.toInt ∧ u.1.toInt ≤ 6 ∧ (u.2.1.toInt ≤ 0 → u.1.toInt = pg.toInt - 1 ∧ jTm fg fh fp u.2.2.1 u.2.2.2.1 u.2.2.2.2 pg.toInt u.1.toInt 0) ∧ (1 ≤ u.2.1.toInt → u.1.toInt = pg.toInt ∧ u.2.2.1 = fg ∧ u.2.2.2.1 = fh ∧ u.2.2.2.2 = fp)) (fun u t => jRt (dC, dI) B base G0 EX13_doneK H0 [(r0, 15, 21, .int u.1), (r0, 15, 34, .int u.2.1)] t.heap ∧ jMc (dC, dI) G0 t.heap [(zg, 161, 46, ca 1, u.2.2.1), (zh, 159, 46, ca 1, u.2.2.2.1), (zp, 162, 368, ca 1, u.2.2.2.2)]) (jA base)) 0 0 (jA base) := by
  refine Met.ofW (cc := cX13_done) (maxL := 2) (ret := none) (by decide) rfl ?_
  intro p e s m args below meth c s₁ Bd hml hv
  obtain ⟨rfl, hH0, hX, hG, hg_r0, hz_a1, hg_zg, hg_zh, hg_zp, hP0, hM0, hp0, hp1, hp2⟩ := hv
  have hK := hG.1
  have hx := Bd.exec
  have hb := Bd.bytes
  have hr := Bd.returns
  have hts := atoms_spec (ws := (jw yX13_done cX13_done 2 none)) Bd.pre
  have htw : ∀ w ∈ jWl, w.before _ s = true := fun w h => hts w (List.mem_cons_of_mem _ h)
  have hown : s.vm.findClass RX13 = some m.cls := findClass_of_methodNamed Bd.named
  have hlocks := Bd.notSynchronized
  obtain ⟨Q, hQ⟩ : ∃ Q, Q = MQ below (va_Qv (S := Int32 × Int32 × (Nat → Int32) × (Nat → Int32) × (Nat → Int32)) (fun u => 0 ≤ u.2.1.toInt ∧ u.2.1.toInt ≤ 9 ∧ 0 ≤ u.1.toInt ∧ u.1.toInt ≤ 6 ∧ (u.2.1.toInt ≤ 0 → u.1.toInt = pg.toInt - 1 ∧ jTm fg fh fp u.2.2.1 u.2.2.2.1 u.2.2.2.2 pg.toInt u.1.toInt 0) ∧ (1 ≤ u.2.1.toInt → u.1.toInt = pg.toInt ∧ u.2.2.1 = fg ∧ u.2.2.2.1 = fh ∧ u.2.2.2.2 = fp)) (fun u t => jRt (dC, dI) B base G0 EX13_doneK H0 [(r0, 15, 21, .int u.1), (r0, 15, 34, .int u.2.1)] t.heap ∧ jMc (dC, dI) G0 t.heap [(zg, 161, 46, ca 1, u.2.2.1), (zh, 159, 46, ca 1, u.2.2.2.1), (zp, 162, 368, ca 1, u.2.2.2.2)]) (jA base)) ([.ref r0, .int a1] : List Value).toArray s 0 0 (jA base) := ⟨_, rfl⟩
  rw [← hQ]
  have hl := lv_entry ([.ref r0, .int a1]) (n := 2) (Nat.le_of_ble_eq_true rfl)
  rw [lg_entry_eq]
  generalize (lg_sl ([.ref r0, .int a1]) ++ List.replicate (2 - (lg_sl ([.ref r0, .int a1])).length) Slot.unset).toArray = ls at hl ⊢
  have hl : lv_has ls 2 [(0, .ref r0), (1, .int a1)] := hl
  generalize hR : (headSpec (jw yX13_done cX13_done 2 none) ({ frames := 2, cells := 0, slots := 0, locals := 45 })).room = R
  subst hH0
  have hh : jSt (dC, dI) B base G0 G0 EX13_doneK s.heap 0 0 [(r0, 15, 21, .int pg), (r0, 15, 34, .int pu), (r0, 15, 22, .ref zg), (r0, 15, 25, .ref zh), (r0, 15, 27, .ref zp)] [(zg, 161, 46, ca 1, fg), (zh, 159, 46, ca 1, fh), (zp, 162, 368, ca 1, fp)] [] s.heap [] := jSt.start hX hP0 hM0 jIs.nil
  clear hX hP0
  have hk0 : (0 : Int32).toInt = 0 := by decide
  have hk1 : (1 : Int32).toInt = 1 := by decide
  have hk8 : (8 : Int32).toInt = 8 := by decide
  have hrg_a1 := jb_rng a1
  refine lv_iload_n hx hb dX13_done_0 rfl (lv_at hl 1 rfl) ?_
  refine lv_if_eq (tgt := 12) hx hb dX13_done_1 (by decide) (fun c_1 => ?_) (fun c_1 => ?_)
  · skip
    have c_1' : a1.toInt = 0 := jb_eq (rfl) ((by decide)) c_1
    refine lv_aload_n hx hb dX13_done_12 rfl (lv_at hl 0 rfl) ?_
    refine lv_bipush (v := 8) hx hb dX13_done_13 (by decide) ?_
    refine va_callv (A0 := jA base) (H0 := s.heap) (va_runV (As := [.int 8]) (rest := []) ⟨hx, hb, hml, hown, hts⟩ (uX13_failsK l dC dI ca base B hB hAp hB15 G0 s.heap r0 8 pu) (cwV 1 hts (jgV (jWr_64 _ (List.mem_of_getElem? (i := 19) rfl)) (jWr_64 _ (List.mem_of_getElem? (i := 20) rfl)) (jWr_64 _ (List.mem_of_getElem? (i := 21) rfl)) (jWr_12 _ (List.mem_of_getElem? (i := 12) rfl)) (jWr_64 _ (List.mem_of_getElem? (i := 22) rfl))) rfl rfl rfl (by decide +kernel) ⟨by rw [← hR]; exact Nat.le_of_ble_eq_true rfl, by rw [← hR]; exact Nat.le_of_ble_eq_true rfl⟩) ⟨fun a U g mk q => by obtain ⟨q0, q1, q2, qK, q10, q11, q12⟩ := q; exact ⟨q0, q1, q2, jG.calling g mk a qK, q10, q11, q12⟩, hh.recv (C := RX13) (T := TX13) (N := 50) hB15 rfl (by decide) hg_r0 hK, fun U hU hW => ⟨rfl, hU, hh.2.1, hG.step hW hU hh.1, hg_r0, (hh.2.2.1.sub (L1 := [(r0, 15, 34, .int pu)]) [1] rfl), by first | omega | (refine ⟨?_, ?_, ?_, ?_⟩ <;> (first | omega | rfl | assumption | decide | exact Or.inl rfl | exact Or.inr rfl | (simp only; omega)))⟩⟩ rfl rfl hl.1 rfl (lv_room (Nat.le_of_ble_eq_true rfl)) dX13_done_15 ⟨Nat.zero_le _, Nat.zero_le _⟩) hh.1 (fun q _ h => h) (fun q h => h) (fun u_2 t_2 H_2 locs_2 ht_2 hvm_2 hr_3 hb_2 hz_2 hk_2 hS_2 => ?_)
    obtain ⟨qu_2, rfl⟩ : ∃ z, z = u_2 := ⟨_, rfl⟩
    rw [ht_2] at hb_2
    obtain ⟨hb_21, hb_22, hb_23, hb_24, hb_25⟩ := hb_2
    have hh_2 : jSt (dC, dI) B base G0 G0 EX13_doneK s.heap 0 0 [(r0, 15, 34, .int qu_2), (r0, 15, 21, .int pg), (r0, 15, 22, .ref zg), (r0, 15, 25, .ref zh), (r0, 15, 27, .ref zp)] [(zg, 161, 46, ca 1, fg), (zh, 159, 46, ca 1, fh), (zp, 162, 368, ca 1, fp)] [] H_2 locs_2 := ((hh.call hb_21 hb_22 hb_23 hb_24 hS_2 rfl (L1 := [(r0, 15, 21, .int pg), (r0, 15, 22, .ref zg), (r0, 15, 25, .ref zh), (r0, 15, 27, .ref zp)]) [0, 2, 3, 4] rfl rfl (M1 := [(zg, 161, 46, ca 1, fg), (zh, 159, 46, ca 1, fh), (zp, 162, 368, ca 1, fp)]) [0, 1, 2] rfl rfl (I1 := []) [] rfl rfl).more hb_25)
    clear hh ht_2 hvm_2 hz_2 hk_2 hS_2 hb_21 hb_22 hb_23 hb_24 hb_25
    obtain ⟨hr_3_0, hr_3_1, hr_3_2, hr_3_3⟩ := hr_3
    rw [hQ]
    exact W.vret hx hb hr (fun t ht hW => ⟨⟨(pg, qu_2, fg, fh, fp), rfl, by (try dsimp only); refine ⟨by omega, by omega, by omega, by omega, fun h9 => absurd h9 (by omega), fun _ => ⟨by omega, rfl, rfl, rfl⟩⟩, ⟨hh_2.rt (M1 := [(r0, 15, 21, .int pg), (r0, 15, 34, .int qu_2)]) [1, 0] rfl ht, by rw [ht]; exact hh_2.2.2.2.2.2.2.2.1.sub [0, 1, 2] rfl⟩⟩, by rw [ht]; try exact hh_2.1.1, fun q h9 hq => by rw [ht]; try exact hh_2.1.2.1 q h9 hq⟩) hh_2.1.2.2 dX13_done_18
  · skip
    have c_1' : a1.toInt ≠ 0 := jb_eq_n (rfl) ((by decide)) c_1
    refine lv_aload_n hx hb dX13_done_4 rfl (lv_at hl 0 rfl) ?_
    refine lv_iconst (v := 0) hx hb dX13_done_5 (by decide) ?_
    refine va_callv (A0 := jA base) (H0 := s.heap) (va_runV (As := [.int 0]) (rest := []) ⟨hx, hb, hml, hown, hts⟩ (uX13_timesK l dC dI ca base B hB hAp hB15 hB158 hB159 hB161 hB162 hB163 G0 s.heap r0 0 pg pu zg zh zp fg fh fp) (cwV 1 hts (jgV (jWr_67 _ (List.mem_of_getElem? (i := 19) rfl)) (jWr_67 _ (List.mem_of_getElem? (i := 20) rfl)) (jWr_67 _ (List.mem_of_getElem? (i := 21) rfl)) (jWr_12 _ (List.mem_of_getElem? (i := 12) rfl)) (jWr_67 _ (List.mem_of_getElem? (i := 22) rfl))) rfl rfl rfl (by decide +kernel) ⟨by rw [← hR]; exact Nat.le_of_ble_eq_true rfl, by rw [← hR]; exact Nat.le_of_ble_eq_true rfl⟩) ⟨fun a U g mk q => by obtain ⟨q0, q1, q2, qK, q10, q11, q12, q13, q14, q15, q16⟩ := q; exact ⟨q0, q1, q2, jG.calling g mk a qK, q10, q11, q12, q13, q14, q15, q16⟩, hh.recv (C := RX13) (T := TX13) (N := 50) hB15 rfl (by decide) hg_r0 hK, fun U hU hW => ⟨rfl, hU, hh.2.1, hG.step hW hU hh.1, hg_r0, hg_zg, hg_zh, hg_zp, (hh.2.2.1.sub (L1 := [(r0, 15, 21, .int pg), (r0, 15, 34, .int pu), (r0, 15, 22, .ref zg), (r0, 15, 25, .ref zh), (r0, 15, 27, .ref zp)]) [0, 1, 2, 3, 4] rfl), (hh.2.2.2.2.2.2.2.1.sub (L1 := [(zg, 161, 46, ca 1, fg), (zh, 159, 46, ca 1, fh), (zp, 162, 368, ca 1, fp)]) [0, 1, 2] rfl), by first | omega | (refine ⟨?_, ?_, ?_, ?_, ?_⟩ <;> (first | omega | rfl | assumption | decide | exact Or.inl rfl | exact Or.inr rfl | (simp only; omega)))⟩⟩ rfl rfl hl.1 rfl (lv_room (Nat.le_of_ble_eq_true rfl)) dX13_done_6 ⟨Nat.zero_le _, Nat.zero_le _⟩) hh.1 (fun q _ h => h) (fun q h => h) (fun u_4 t_4 H_4 locs_4 ht_4 hvm_4 hr_5 hb_4 hz_4 hk_4 hS_4 => ?_)
    obtain ⟨qg_4, qu_4, gg_4, gh_4, gp_4⟩ := u_4
    rw [ht_4] at hb_4
    obtain ⟨⟨hb_41, hb_42, hb_43, hb_44, hb_45⟩, hb_46⟩ := hb_4
    have hh_4 : jSt (dC, dI) B base G0 G0 EX13_doneK s.heap 0 0 [(r0, 15, 21, .int qg_4), (r0, 15, 34, .int qu_4), (r0, 15, 22, .ref zg), (r0, 15, 25, .ref zh), (r0, 15, 27, .ref zp)] [(zg, 161, 46, ca 1, gg_4), (zh, 159, 46, ca 1, gh_4), (zp, 162, 368, ca 1, gp_4)] [] H_4 locs_4 := ((hh.call hb_41 hb_42 hb_43 hb_44 hS_4 rfl (L1 := [(r0, 15, 22, .ref zg), (r0, 15, 25, .ref zh), (r0, 15, 27, .ref zp)]) [2, 3, 4] rfl rfl (M1 := []) [] rfl rfl (I1 := []) [] rfl rfl).more hb_45).moreM hb_46
    clear hh ht_4 hvm_4 hz_4 hk_4 hS_4 hb_41 hb_42 hb_43 hb_44 hb_45
    clear hb_46
    try simp only at hr_5
    obtain ⟨hr_5_0, hr_5_1, hr_5_2, hr_5_3, hr_5_4, hr_5_5⟩ := hr_5
    refine lv_goto (tgt := 18) hx hb dX13_done_9 (by decide) ?_
    rw [hQ]
    exact W.vret hx hb hr (fun t ht hW => ⟨⟨(qg_4, qu_4, gg_4, gh_4, gp_4), rfl, by (try dsimp only); refine ⟨by omega, by omega, by omega, by omega, fun h9 => ⟨by have := (hr_5_4 h9).1; omega, by have := (hr_5_4 h9).2; rw [hk0] at this; exact this⟩, hr_5_5⟩, ⟨hh_4.rt (M1 := [(r0, 15, 21, .int qg_4), (r0, 15, 34, .int qu_4)]) [0, 1] rfl ht, by rw [ht]; exact hh_4.2.2.2.2.2.2.2.1.sub [0, 1, 2] rfl⟩⟩, by rw [ht]; try exact hh_4.1.1, fun q h9 hq => by rw [ht]; try exact hh_4.1.2.1 q h9 hq⟩) hh_4.1.2.2 dX13_done_18
set_option maxHeartbeats 4000000 in
set_option maxRecDepth 20000 in
theorem uX13_symbolOfK (l : Launch) (dC : Nat → ClassId) (dI : Nat → Nat → Nat) (ca : Nat → ClassId) (base : Nat) (B : jF) (hB : jBok B) (hAp : jAp (dC, dI)) (hB15 : ∀ n G a H, B 15 n G a H ↔ jOb (dC, dI) 15 50 (F15 n G) a H) (hB163 : ∀ n G a H, B 163 n G a H ↔ jAr (dC, dI) (ca 1) (fun j z => 0 ≤ z.toInt ∧ z.toInt ≤ 1599) n a H) (G0 : jT) (H0 : Heap) (r0 : Nat) (a1 : Int32) (py : Int32) : Met l yX13_symbolOf (jw yX13_symbolOf cX13_symbolOf 3 (some .int)) ({ frames := 0, cells := 0, slots := 0, locals := 0 }) (va_Pc [.ref r0, .int a1] (fun U => U.heap = H0 ∧ jX B base G0 [] H0 ∧ jG dC dI ca base U ∧ G0 r0 = some (15, 0) ∧ jP (dC, dI) G0 H0 [(r0, 15, 11, .int py)] ∧ 0 ≤ py.toInt ∧ py.toInt ≤ 16)) (va_Qi (S := Unit) (fun r u => (-1 ≤ r.toInt ∧ r.toInt < py.toInt)) (fun u t => jRt (dC, dI) B base G0 EX13_symbolOfK H0 [] t.heap) (jA base)) 0 0 (jA base) := by
  refine Met.ofW (cc := cX13_symbolOf) (maxL := 3) (ret := (some .int)) (by decide) rfl ?_
  intro p e s m args below meth c s₁ Bd hml hv
  obtain ⟨rfl, hH0, hX, hG, hg_r0, hP0, hp0, hp1⟩ := hv
  have hK := hG.1
  have hx := Bd.exec
  have hb := Bd.bytes
  have hr := Bd.returns
  have hts := atoms_spec (ws := (jw yX13_symbolOf cX13_symbolOf 3 (some .int))) Bd.pre
  have htw : ∀ w ∈ jWl, w.before _ s = true := fun w h => hts w (List.mem_cons_of_mem _ h)
  have hown : s.vm.findClass RX13 = some m.cls := findClass_of_methodNamed Bd.named
  have hlocks := Bd.notSynchronized
  obtain ⟨Q, hQ⟩ : ∃ Q, Q = MQ below (va_Qi (S := Unit) (fun r u => (-1 ≤ r.toInt ∧ r.toInt < py.toInt)) (fun u t => jRt (dC, dI) B base G0 EX13_symbolOfK H0 [] t.heap) (jA base)) ([.ref r0, .int a1] : List Value).toArray s 0 0 (jA base) := ⟨_, rfl⟩
  rw [← hQ]
  have hl := lv_entry ([.ref r0, .int a1]) (n := 3) (Nat.le_of_ble_eq_true rfl)
  rw [lg_entry_eq]
  generalize (lg_sl ([.ref r0, .int a1]) ++ List.replicate (3 - (lg_sl ([.ref r0, .int a1])).length) Slot.unset).toArray = ls at hl ⊢
  have hl : lv_has ls 3 [(0, .ref r0), (1, .int a1)] := hl
  generalize hR : (headSpec (jw yX13_symbolOf cX13_symbolOf 3 (some .int)) ({ frames := 0, cells := 0, slots := 0, locals := 0 })).room = R
  subst hH0
  have hh : jSt (dC, dI) B base G0 G0 EX13_symbolOfK s.heap 0 0 [(r0, 15, 11, .int py)] [] [] s.heap [] := jSt.start hX hP0 jMc.nil jIs.nil
  clear hX hP0
  have hkm1 : ((-1) : Int32).toInt = (-1) := by decide
  have hk0 : (0 : Int32).toInt = 0 := by decide
  have hk1 : (1 : Int32).toInt = 1 := by decide
  have hly_15_11 := htw (u_lay RX13 TX13 11) (jWc_wsX130 _ (u_in_lay (by decide)))
  have hly_15_12 := htw (u_lay RX13 TX13 12) (jWc_wsX130 _ (u_in_lay (by decide)))
  have hlk_109 := (htw (.fieldLink RX13 109 "ProofServerModel$Kernel" "symbols" "I") (jWr_59 _ (List.mem_of_getElem? (i := 17) rfl)))
  have hlk_37 := (htw (.fieldLink RX13 37 "ProofServerModel$Kernel" "symbol" "[I") (jWr_14 _ (List.mem_of_getElem? (i := 17) rfl)))
  have hrg_a1 := jb_rng a1
  refine lv_iconst (v := 0) hx hb dX13_symbolOf_0 (by decide) ?_
  refine lv_istore_n (lv' := [(2, .int 0), (0, .ref r0), (1, .int a1)]) hx hb dX13_symbolOf_1 rfl hl (by decide) rfl (fun ls hl => ?_)
  have L2 : ∀ (N : Nat) (v2_1 : Int32) (H_1 : Heap) (locs_1 : List Loc), jSt (dC, dI) B base G0 G0 EX13_symbolOfK s.heap 0 0 [(r0, 15, 11, .int py)] [] [] H_1 locs_1 → (0 ≤ v2_1.toInt ∧ v2_1.toInt ≤ py.toInt) → (py.toInt - v2_1.toInt : Int) < N → ∀ ls : Array Slot, lv_has ls 3 [(0, .ref r0), (1, .int a1), (2, .int v2_1)] → W p l e R s m ([.ref r0, .int a1] : List Value).toArray below meth c H_1 locs_1 0 0 Q (F0 m 2 ls []) := by
    intro N
    induction N with
    | zero => intro v2_1 H_1 locs_1 hh_1  hi_1 hm; exact absurd hm (by omega)
    | succ N L2 =>
      intro v2_1 H_1 locs_1 hh_1  hi_1 hm_1 ls hl
      obtain ⟨hi_1_0, hi_1_1⟩ := hi_1
      refine lv_iload_n hx hb dX13_symbolOf_2 rfl (lv_at hl 2 rfl) ?_
      refine lv_aload_n hx hb dX13_symbolOf_3 rfl (lv_at hl 0 rfl) ?_
      refine j7_read hx hb hown hK (C := RX13) (T := TX13) (N := 50) rfl hly_15_11 hlk_109 (hh_1.at 0 rfl) dX13_symbolOf_4 ?_
      refine lv_icmp_ge (tgt := 28) hx hb dX13_symbolOf_7 (by decide) (fun c_2 => ?_) (fun c_2 => ?_)
      · skip
        have c_2' : v2_1.toInt ≥ py.toInt := jb_ge (rfl) (rfl) c_2
        refine lv_iconst (v := (-1)) hx hb dX13_symbolOf_28 (by decide) ?_
        rw [hQ]
        exact W.iret (v := (-1)) hx hb hr (fun t ht hW => ⟨⟨(-1), (), rfl, by first | omega | (refine ⟨?_, ?_⟩ <;> (first | omega | rfl | assumption | decide | exact Or.inl rfl | exact Or.inr rfl | (simp only; omega))), hh_1.rt (M1 := []) [] rfl ht⟩, by rw [ht]; try exact hh_1.1.1, fun q h9 hq => by rw [ht]; try exact hh_1.1.2.1 q h9 hq⟩) hh_1.1.2.2 dX13_symbolOf_29
      · skip
        have c_2' : v2_1.toInt < py.toInt := jb_ge_n (rfl) (rfl) c_2
        refine lv_aload_n hx hb dX13_symbolOf_10 rfl (lv_at hl 0 rfl) ?_
        obtain ⟨v_3, hv_3, hh_4⟩ := hh_1.pin (C := RX13) (T := TX13) (N := 50) hB15 rfl (by decide) hg_r0 (i := 12) (by decide) rfl
        clear hh_1
        obtain ⟨symbol_5, rfl, hg_symbol_5⟩ := hv_3
        refine j7_read hx hb hown hK (C := RX13) (T := TX13) (N := 50) rfl hly_15_12 hlk_37 (hh_4.at 0 rfl) dX13_symbolOf_11 ?_
        refine lv_iload_n hx hb dX13_symbolOf_14 rfl (lv_at hl 2 rfl) ?_
        refine j7_iald hx hb hK hh_4 hB163 1 rfl (by decide) hg_symbol_5 (x := v2_1.toInt) (rfl) (by omega) dX13_symbolOf_15 (fun z_6 (hz_6 : 0 ≤ z_6.toInt ∧ z_6.toInt ≤ 1599) => ?_)
        refine lv_iload_n hx hb dX13_symbolOf_16 rfl (lv_at hl 1 rfl) ?_
        refine lv_icmp_ne (tgt := 22) hx hb dX13_symbolOf_17 (by decide) (fun c_7 => ?_) (fun c_7 => ?_)
        · skip
          have c_7' : z_6.toInt ≠ a1.toInt := jb_ne (rfl) (rfl) c_7
          obtain ⟨z_8, ez_8⟩ : ∃ y : Int32, y = v2_1 + 1 := ⟨_, rfl⟩
          refine lv_iinc (v := z_8) (lv' := [(2, .int z_8), (0, .ref r0), (1, .int a1)]) hx hb dX13_symbolOf_22 hl (k := 2) rfl (by rw [ez_8]; rfl) (by decide) rfl (fun ls hl => ?_)
          have hz_8 : z_8.toInt = v2_1.toInt + 1 := by rw [ez_8]; exact jb_iadd2 (rfl) (by decide) (by omega)
          refine lv_goto (tgt := 2) hx hb dX13_symbolOf_25 (by decide) ?_
          exact L2 z_8 _ _ (hh_4.sub (L1 := [(r0, 15, 11, .int py)]) [1] rfl (M1 := []) [] rfl (I1 := []) [] rfl) (by first | omega | (refine ⟨?_, ?_⟩ <;> (first | omega | rfl | assumption | decide | exact Or.inl rfl | exact Or.inr rfl | (simp only; omega)))) (by omega) _ (lv_sub hl [1, 2, 0] rfl)
        · skip
          have c_7' : z_6.toInt = a1.toInt := jb_ne_n (rfl) (rfl) c_7
          refine lv_iload_n hx hb dX13_symbolOf_20 rfl (lv_at hl 2 rfl) ?_
          rw [hQ]
          exact W.iret (v := v2_1) hx hb hr (fun t ht hW => ⟨⟨v2_1, (), rfl, by first | omega | (refine ⟨?_, ?_⟩ <;> (first | omega | rfl | assumption | decide | exact Or.inl rfl | exact Or.inr rfl | (simp only; omega))), hh_4.rt (M1 := []) [] rfl ht⟩, by rw [ht]; try exact hh_4.1.1, fun q h9 hq => by rw [ht]; try exact hh_4.1.2.1 q h9 hq⟩) hh_4.1.2.2 dX13_symbolOf_21
  exact L2 (py.toInt - (0 : Int32).toInt : Int).toNat.succ 0 _ _ hh (by first | omega | (refine ⟨?_, ?_⟩ <;> (first | omega | rfl | assumption | decide | exact Or.inl rfl | exact Or.inr rfl | (simp only; omega)))) (by omega) _ (lv_sub hl [1, 2, 0] rfl)
set_option maxHeartbeats 4000000 in
set_option maxRecDepth 20000 in
theorem uX13_factOfK (l : Launch) (dC : Nat → ClassId) (dI : Nat → Nat → Nat) (ca : Nat → ClassId) (base : Nat) (B : jF) (hB : jBok B) (hAp : jAp (dC, dI)) (hB15 : ∀ n G a H, B 15 n G a H ↔ jOb (dC, dI) 15 50 (F15 n G) a H) (hB163 : ∀ n G a H, B 163 n G a H ↔ jAr (dC, dI) (ca 1) (fun j z => 0 ≤ z.toInt ∧ z.toInt ≤ 1599) n a H) (G0 : jT) (H0 : Heap) (r0 : Nat) (a1 : Int32) (pf : Int32) : Met l yX13_factOf (jw yX13_factOf cX13_factOf 3 (some .int)) ({ frames := 0, cells := 0, slots := 0, locals := 0 }) (va_Pc [.ref r0, .int a1] (fun U => U.heap = H0 ∧ jX B base G0 [] H0 ∧ jG dC dI ca base U ∧ G0 r0 = some (15, 0) ∧ jP (dC, dI) G0 H0 [(r0, 15, 15, .int pf)] ∧ 0 ≤ pf.toInt ∧ pf.toInt ≤ 16)) (va_Qi (S := Unit) (fun r u => (-1 ≤ r.toInt ∧ r.toInt < pf.toInt)) (fun u t => jRt (dC, dI) B base G0 EX13_factOfK H0 [] t.heap) (jA base)) 0 0 (jA base) := by
  refine Met.ofW (cc := cX13_factOf) (maxL := 3) (ret := (some .int)) (by decide) rfl ?_
  intro p e s m args below meth c s₁ Bd hml hv
  obtain ⟨rfl, hH0, hX, hG, hg_r0, hP0, hp0, hp1⟩ := hv
  have hK := hG.1
  have hx := Bd.exec
  have hb := Bd.bytes
  have hr := Bd.returns
  have hts := atoms_spec (ws := (jw yX13_factOf cX13_factOf 3 (some .int))) Bd.pre
  have htw : ∀ w ∈ jWl, w.before _ s = true := fun w h => hts w (List.mem_cons_of_mem _ h)
  have hown : s.vm.findClass RX13 = some m.cls := findClass_of_methodNamed Bd.named
  have hlocks := Bd.notSynchronized
  obtain ⟨Q, hQ⟩ : ∃ Q, Q = MQ below (va_Qi (S := Unit) (fun r u => (-1 ≤ r.toInt ∧ r.toInt < pf.toInt)) (fun u t => jRt (dC, dI) B base G0 EX13_factOfK H0 [] t.heap) (jA base)) ([.ref r0, .int a1] : List Value).toArray s 0 0 (jA base) := ⟨_, rfl⟩
  rw [← hQ]
  have hl := lv_entry ([.ref r0, .int a1]) (n := 3) (Nat.le_of_ble_eq_true rfl)
  rw [lg_entry_eq]
  generalize (lg_sl ([.ref r0, .int a1]) ++ List.replicate (3 - (lg_sl ([.ref r0, .int a1])).length) Slot.unset).toArray = ls at hl ⊢
  have hl : lv_has ls 3 [(0, .ref r0), (1, .int a1)] := hl
  generalize hR : (headSpec (jw yX13_factOf cX13_factOf 3 (some .int)) ({ frames := 0, cells := 0, slots := 0, locals := 0 })).room = R
  subst hH0
  have hh : jSt (dC, dI) B base G0 G0 EX13_factOfK s.heap 0 0 [(r0, 15, 15, .int pf)] [] [] s.heap [] := jSt.start hX hP0 jMc.nil jIs.nil
  clear hX hP0
  have hkm1 : ((-1) : Int32).toInt = (-1) := by decide
  have hk0 : (0 : Int32).toInt = 0 := by decide
  have hk1 : (1 : Int32).toInt = 1 := by decide
  have hly_15_15 := htw (u_lay RX13 TX13 15) (jWc_wsX130 _ (u_in_lay (by decide)))
  have hly_15_16 := htw (u_lay RX13 TX13 16) (jWc_wsX130 _ (u_in_lay (by decide)))
  have hlk_112 := (htw (.fieldLink RX13 112 "ProofServerModel$Kernel" "facts" "I") (jWr_59 _ (List.mem_of_getElem? (i := 18) rfl)))
  have hlk_47 := (htw (.fieldLink RX13 47 "ProofServerModel$Kernel" "factName" "[I") (jWr_14 _ (List.mem_of_getElem? (i := 20) rfl)))
  have hrg_a1 := jb_rng a1
  refine lv_iconst (v := 0) hx hb dX13_factOf_0 (by decide) ?_
  refine lv_istore_n (lv' := [(2, .int 0), (0, .ref r0), (1, .int a1)]) hx hb dX13_factOf_1 rfl hl (by decide) rfl (fun ls hl => ?_)
  have L2 : ∀ (N : Nat) (v2_1 : Int32) (H_1 : Heap) (locs_1 : List Loc), jSt (dC, dI) B base G0 G0 EX13_factOfK s.heap 0 0 [(r0, 15, 15, .int pf)] [] [] H_1 locs_1 → (0 ≤ v2_1.toInt ∧ v2_1.toInt ≤ pf.toInt) → (pf.toInt - v2_1.toInt : Int) < N → ∀ ls : Array Slot, lv_has ls 3 [(0, .ref r0), (1, .int a1), (2, .int v2_1)] → W p l e R s m ([.ref r0, .int a1] : List Value).toArray below meth c H_1 locs_1 0 0 Q (F0 m 2 ls []) := by
    intro N
    induction N with
    | zero => intro v2_1 H_1 locs_1 hh_1  hi_1 hm; exact absurd hm (by omega)
    | succ N L2 =>
      intro v2_1 H_1 locs_1 hh_1  hi_1 hm_1 ls hl
      obtain ⟨hi_1_0, hi_1_1⟩ := hi_1
      refine lv_iload_n hx hb dX13_factOf_2 rfl (lv_at hl 2 rfl) ?_
      refine lv_aload_n hx hb dX13_factOf_3 rfl (lv_at hl 0 rfl) ?_
      refine j7_read hx hb hown hK (C := RX13) (T := TX13) (N := 50) rfl hly_15_15 hlk_112 (hh_1.at 0 rfl) dX13_factOf_4 ?_
      refine lv_icmp_ge (tgt := 28) hx hb dX13_factOf_7 (by decide) (fun c_2 => ?_) (fun c_2 => ?_)
      · skip
        have c_2' : v2_1.toInt ≥ pf.toInt := jb_ge (rfl) (rfl) c_2
        refine lv_iconst (v := (-1)) hx hb dX13_factOf_28 (by decide) ?_
        rw [hQ]
        exact W.iret (v := (-1)) hx hb hr (fun t ht hW => ⟨⟨(-1), (), rfl, by first | omega | (refine ⟨?_, ?_⟩ <;> (first | omega | rfl | assumption | decide | exact Or.inl rfl | exact Or.inr rfl | (simp only; omega))), hh_1.rt (M1 := []) [] rfl ht⟩, by rw [ht]; try exact hh_1.1.1, fun q h9 hq => by rw [ht]; try exact hh_1.1.2.1 q h9 hq⟩) hh_1.1.2.2 dX13_factOf_29
      · skip
        have c_2' : v2_1.toInt < pf.toInt := jb_ge_n (rfl) (rfl) c_2
        refine lv_aload_n hx hb dX13_factOf_10 rfl (lv_at hl 0 rfl) ?_
        obtain ⟨v_3, hv_3, hh_4⟩ := hh_1.pin (C := RX13) (T := TX13) (N := 50) hB15 rfl (by decide) hg_r0 (i := 16) (by decide) rfl
        clear hh_1
        obtain ⟨factName_5, rfl, hg_factName_5⟩ := hv_3
        refine j7_read hx hb hown hK (C := RX13) (T := TX13) (N := 50) rfl hly_15_16 hlk_47 (hh_4.at 0 rfl) dX13_factOf_11 ?_
        refine lv_iload_n hx hb dX13_factOf_14 rfl (lv_at hl 2 rfl) ?_
        refine j7_iald hx hb hK hh_4 hB163 1 rfl (by decide) hg_factName_5 (x := v2_1.toInt) (rfl) (by omega) dX13_factOf_15 (fun z_6 (hz_6 : 0 ≤ z_6.toInt ∧ z_6.toInt ≤ 1599) => ?_)
        refine lv_iload_n hx hb dX13_factOf_16 rfl (lv_at hl 1 rfl) ?_
        refine lv_icmp_ne (tgt := 22) hx hb dX13_factOf_17 (by decide) (fun c_7 => ?_) (fun c_7 => ?_)
        · skip
          have c_7' : z_6.toInt ≠ a1.toInt := jb_ne (rfl) (rfl) c_7
          obtain ⟨z_8, ez_8⟩ : ∃ y : Int32, y = v2_1 + 1 := ⟨_, rfl⟩
          refine lv_iinc (v := z_8) (lv' := [(2, .int z_8), (0, .ref r0), (1, .int a1)]) hx hb dX13_factOf_22 hl (k := 2) rfl (by rw [ez_8]; rfl) (by decide) rfl (fun ls hl => ?_)
          have hz_8 : z_8.toInt = v2_1.toInt + 1 := by rw [ez_8]; exact jb_iadd2 (rfl) (by decide) (by omega)
          refine lv_goto (tgt := 2) hx hb dX13_factOf_25 (by decide) ?_
          exact L2 z_8 _ _ (hh_4.sub (L1 := [(r0, 15, 15, .int pf)]) [1] rfl (M1 := []) [] rfl (I1 := []) [] rfl) (by first | omega | (refine ⟨?_, ?_⟩ <;> (first | omega | rfl | assumption | decide | exact Or.inl rfl | exact Or.inr rfl | (simp only; omega)))) (by omega) _ (lv_sub hl [1, 2, 0] rfl)
        · skip
          have c_7' : z_6.toInt = a1.toInt := jb_ne_n (rfl) (rfl) c_7
          refine lv_iload_n hx hb dX13_factOf_20 rfl (lv_at hl 2 rfl) ?_
          rw [hQ]
          exact W.iret (v := v2_1) hx hb hr (fun t ht hW => ⟨⟨v2_1, (), rfl, by first | omega | (refine ⟨?_, ?_⟩ <;> (first | omega | rfl | assumption | decide | exact Or.inl rfl | exact Or.inr rfl | (simp only; omega))), hh_4.rt (M1 := []) [] rfl ht⟩, by rw [ht]; try exact hh_4.1.1, fun q h9 hq => by rw [ht]; try exact hh_4.1.2.1 q h9 hq⟩) hh_4.1.2.2 dX13_factOf_21
  exact L2 (pf.toInt - (0 : Int32).toInt : Int).toNat.succ 0 _ _ hh (by first | omega | (refine ⟨?_, ?_⟩ <;> (first | omega | rfl | assumption | decide | exact Or.inl rfl | exact Or.inr rfl | (simp only; omega)))) (by omega) _ (lv_sub hl [1, 2, 0] rfl)
set_option maxHeartbeats 4000000 in
set_option maxRecDepth 20000 in
theorem uX13_hypOfK (l : Launch) (dC : Nat → ClassId) (dI : Nat → Nat → Nat) (ca : Nat → ClassId) (base : Nat) (B : jF) (hB : jBok B) (hAp : jAp (dC, dI)) (hB15 : ∀ n G a H, B 15 n G a H ↔ jOb (dC, dI) 15 50 (F15 n G) a H) (hB159 : ∀ n G a H, B 159 n G a H ↔ jAr (dC, dI) (ca 1) (fun j z => 0 ≤ z.toInt ∧ z.toInt ≤ 8) n a H) (hB163 : ∀ n G a H, B 163 n G a H ↔ jAr (dC, dI) (ca 1) (fun j z => 0 ≤ z.toInt ∧ z.toInt ≤ 1599) n a H) (G0 : jT) (H0 : Heap) (r0 : Nat) (a1 : Int32) (pg : Int32) (zh : Nat) (fh : Nat → Int32) : Met l yX13_hypOf (jw yX13_hypOf cX13_hypOf 3 (some .int)) ({ frames := 0, cells := 0, slots := 0, locals := 0 }) (va_Pc [.ref r0, .int a1] (fun U => U.heap = H0 ∧ jX B base G0 [] H0 ∧ jG dC dI ca base U ∧ G0 r0 = some (15, 0) ∧ G0 zh = some (159, 46) ∧ jP (dC, dI) G0 H0 [(r0, 15, 21, .int pg), (r0, 15, 25, .ref zh)] ∧ jMc (dC, dI) G0 H0 [(zh, 159, 46, ca 1, fh)] ∧ 0 ≤ pg.toInt ∧ pg.toInt ≤ 6)) (va_Qi (S := Unit) (fun r u => (-1 ≤ r.toInt ∧ (0 ≤ r.toInt → 1 ≤ pg.toInt ∧ r.toInt < jSo fh 0))) (fun u t => jRt (dC, dI) B base G0 EX13_hypOfK H0 [] t.heap) (jA base)) 0 0 (jA base) := by
  refine Met.ofW (cc := cX13_hypOf) (maxL := 3) (ret := (some .int)) (by decide) rfl ?_
  intro p e s m args below meth c s₁ Bd hml hv
  obtain ⟨rfl, hH0, hX, hG, hg_r0, hg_zh, hP0, hM0, hp0, hp1⟩ := hv
  have hK := hG.1
  have hx := Bd.exec
  have hb := Bd.bytes
  have hr := Bd.returns
  have hts := atoms_spec (ws := (jw yX13_hypOf cX13_hypOf 3 (some .int))) Bd.pre
  have htw : ∀ w ∈ jWl, w.before _ s = true := fun w h => hts w (List.mem_cons_of_mem _ h)
  have hown : s.vm.findClass RX13 = some m.cls := findClass_of_methodNamed Bd.named
  have hlocks := Bd.notSynchronized
  obtain ⟨Q, hQ⟩ : ∃ Q, Q = MQ below (va_Qi (S := Unit) (fun r u => (-1 ≤ r.toInt ∧ (0 ≤ r.toInt → 1 ≤ pg.toInt ∧ r.toInt < jSo fh 0))) (fun u t => jRt (dC, dI) B base G0 EX13_hypOfK H0 [] t.heap) (jA base)) ([.ref r0, .int a1] : List Value).toArray s 0 0 (jA base) := ⟨_, rfl⟩
  rw [← hQ]
  have hl := lv_entry ([.ref r0, .int a1]) (n := 3) (Nat.le_of_ble_eq_true rfl)
  rw [lg_entry_eq]
  generalize (lg_sl ([.ref r0, .int a1]) ++ List.replicate (3 - (lg_sl ([.ref r0, .int a1])).length) Slot.unset).toArray = ls at hl ⊢
  have hl : lv_has ls 3 [(0, .ref r0), (1, .int a1)] := hl
  generalize hR : (headSpec (jw yX13_hypOf cX13_hypOf 3 (some .int)) ({ frames := 0, cells := 0, slots := 0, locals := 0 })).room = R
  subst hH0
  have hh : jSt (dC, dI) B base G0 G0 EX13_hypOfK s.heap 0 0 [(r0, 15, 21, .int pg), (r0, 15, 25, .ref zh)] [(zh, 159, 46, ca 1, fh)] [] s.heap [] := jSt.start hX hP0 hM0 jIs.nil
  clear hX hP0
  have hkm1 : ((-1) : Int32).toInt = (-1) := by decide
  have hk0 : (0 : Int32).toInt = 0 := by decide
  have hk1 : (1 : Int32).toInt = 1 := by decide
  have hly_15_21 := htw (u_lay RX13 TX13 21) (jWc_wsX130 _ (u_in_lay (by decide)))
  have hly_15_25 := htw (u_lay RX13 TX13 25) (jWc_wsX130 _ (u_in_lay (by decide)))
  have hly_15_26 := htw (u_lay RX13 TX13 26) (jWc_wsX130 _ (u_in_lay (by decide)))
  have hlk_119 := (htw (.fieldLink RX13 119 "ProofServerModel$Kernel" "goals" "I") (jWr_59 _ (List.mem_of_getElem? (i := 20) rfl)))
  have hlk_62 := (htw (.fieldLink RX13 62 "ProofServerModel$Kernel" "hyps" "[I") (jWr_15 _ (List.mem_of_getElem? (i := 1) rfl)))
  have hlk_65 := (htw (.fieldLink RX13 65 "ProofServerModel$Kernel" "hypName" "[I") (jWr_15 _ (List.mem_of_getElem? (i := 2) rfl)))
  have hrg_a1 := jb_rng a1
  refine lv_iconst (v := 0) hx hb dX13_hypOf_0 (by decide) ?_
  refine lv_istore_n (lv' := [(2, .int 0), (0, .ref r0), (1, .int a1)]) hx hb dX13_hypOf_1 rfl hl (by decide) rfl (fun ls hl => ?_)
  have L2 : ∀ (N : Nat) (v2_1 : Int32) (H_1 : Heap) (locs_1 : List Loc), jSt (dC, dI) B base G0 G0 EX13_hypOfK s.heap 0 0 [(r0, 15, 21, .int pg), (r0, 15, 25, .ref zh)] [(zh, 159, 46, ca 1, fh)] [] H_1 locs_1 → (0 ≤ v2_1.toInt ∧ v2_1.toInt ≤ 8) → (8 - v2_1.toInt : Int) < N → ∀ ls : Array Slot, lv_has ls 3 [(0, .ref r0), (1, .int a1), (2, .int v2_1)] → W p l e R s m ([.ref r0, .int a1] : List Value).toArray below meth c H_1 locs_1 0 0 Q (F0 m 2 ls []) := by
    intro N
    induction N with
    | zero => intro v2_1 H_1 locs_1 hh_1  hi_1 hm; exact absurd hm (by omega)
    | succ N L2 =>
      intro v2_1 H_1 locs_1 hh_1  hi_1 hm_1 ls hl
      obtain ⟨hi_1_0, hi_1_1⟩ := hi_1
      refine lv_aload_n hx hb dX13_hypOf_2 rfl (lv_at hl 0 rfl) ?_
      refine j7_read hx hb hown hK (C := RX13) (T := TX13) (N := 50) rfl hly_15_21 hlk_119 (hh_1.at 0 rfl) dX13_hypOf_3 ?_
      refine lv_if_le (tgt := 37) hx hb dX13_hypOf_6 (by decide) (fun c_2 => ?_) (fun c_2 => ?_)
      · skip
        have c_2' : pg.toInt ≤ 0 := jb_le (rfl) ((by decide)) c_2
        refine lv_iconst (v := (-1)) hx hb dX13_hypOf_37 (by decide) ?_
        rw [hQ]
        exact W.iret (v := (-1)) hx hb hr (fun t ht hW => ⟨⟨(-1), (), rfl, by refine ⟨by omega, fun h9 => ?_⟩; first | exact absurd h9 (by omega) | exact ⟨by omega, by omega⟩, hh_1.rt (M1 := []) [] rfl ht⟩, by rw [ht]; try exact hh_1.1.1, fun q h9 hq => by rw [ht]; try exact hh_1.1.2.1 q h9 hq⟩) hh_1.1.2.2 dX13_hypOf_38
      · skip
        have c_2' : pg.toInt > 0 := jb_le_n (rfl) ((by decide)) c_2
        refine lv_iload_n hx hb dX13_hypOf_9 rfl (lv_at hl 2 rfl) ?_
        refine lv_aload_n hx hb dX13_hypOf_10 rfl (lv_at hl 0 rfl) ?_
        refine j7_read hx hb hown hK (C := RX13) (T := TX13) (N := 50) rfl hly_15_25 hlk_62 (hh_1.at 1 rfl) dX13_hypOf_11 ?_
        refine lv_iconst (v := 0) hx hb dX13_hypOf_14 (by decide) ?_
        refine j7_ialdM hx hb hK hh_1 hB159 1 rfl (by decide) hg_zh (x := 0) ((by decide)) (by omega) (j := 0) rfl dX13_hypOf_15 (fun z_3 ez_3 (hz_3 : 0 ≤ z_3.toInt ∧ z_3.toInt ≤ 8) => ?_)
        have hqz_3 : z_3.toInt = jSo fh (0) := by unfold jSo; rw [ez_3]
        refine lv_icmp_ge (tgt := 37) hx hb dX13_hypOf_16 (by decide) (fun c_4 => ?_) (fun c_4 => ?_)
        · skip
          have c_4' : v2_1.toInt ≥ z_3.toInt := jb_ge (rfl) (rfl) c_4
          refine lv_iconst (v := (-1)) hx hb dX13_hypOf_37 (by decide) ?_
          rw [hQ]
          exact W.iret (v := (-1)) hx hb hr (fun t ht hW => ⟨⟨(-1), (), rfl, by refine ⟨by omega, fun h9 => ?_⟩; first | exact absurd h9 (by omega) | exact ⟨by omega, by omega⟩, hh_1.rt (M1 := []) [] rfl ht⟩, by rw [ht]; try exact hh_1.1.1, fun q h9 hq => by rw [ht]; try exact hh_1.1.2.1 q h9 hq⟩) hh_1.1.2.2 dX13_hypOf_38
        · skip
          have c_4' : v2_1.toInt < z_3.toInt := jb_ge_n (rfl) (rfl) c_4
          refine lv_aload_n hx hb dX13_hypOf_19 rfl (lv_at hl 0 rfl) ?_
          obtain ⟨v_5, hv_5, hh_6⟩ := hh_1.pin (C := RX13) (T := TX13) (N := 50) hB15 rfl (by decide) hg_r0 (i := 26) (by decide) rfl
          clear hh_1
          obtain ⟨hypName_7, rfl, hg_hypName_7⟩ := hv_5
          refine j7_read hx hb hown hK (C := RX13) (T := TX13) (N := 50) rfl hly_15_26 hlk_65 (hh_6.at 0 rfl) dX13_hypOf_20 ?_
          refine lv_iload_n hx hb dX13_hypOf_23 rfl (lv_at hl 2 rfl) ?_
          refine j7_iald hx hb hK hh_6 hB163 1 rfl (by decide) hg_hypName_7 (x := v2_1.toInt) (rfl) (by omega) dX13_hypOf_24 (fun z_8 (hz_8 : 0 ≤ z_8.toInt ∧ z_8.toInt ≤ 1599) => ?_)
          refine lv_iload_n hx hb dX13_hypOf_25 rfl (lv_at hl 1 rfl) ?_
          refine lv_icmp_ne (tgt := 31) hx hb dX13_hypOf_26 (by decide) (fun c_9 => ?_) (fun c_9 => ?_)
          · skip
            have c_9' : z_8.toInt ≠ a1.toInt := jb_ne (rfl) (rfl) c_9
            obtain ⟨z_10, ez_10⟩ : ∃ y : Int32, y = v2_1 + 1 := ⟨_, rfl⟩
            refine lv_iinc (v := z_10) (lv' := [(2, .int z_10), (0, .ref r0), (1, .int a1)]) hx hb dX13_hypOf_31 hl (k := 2) rfl (by rw [ez_10]; rfl) (by decide) rfl (fun ls hl => ?_)
            have hz_10 : z_10.toInt = v2_1.toInt + 1 := by rw [ez_10]; exact jb_iadd2 (rfl) (by decide) (by omega)
            refine lv_goto (tgt := 2) hx hb dX13_hypOf_34 (by decide) ?_
            exact L2 z_10 _ _ (hh_6.sub (L1 := [(r0, 15, 21, .int pg), (r0, 15, 25, .ref zh)]) [1, 2] rfl (M1 := [(zh, 159, 46, ca 1, fh)]) [0] rfl (I1 := []) [] rfl) (by first | omega | (refine ⟨?_, ?_⟩ <;> (first | omega | rfl | assumption | decide | exact Or.inl rfl | exact Or.inr rfl | (simp only; omega)))) (by omega) _ (lv_sub hl [1, 2, 0] rfl)
          · skip
            have c_9' : z_8.toInt = a1.toInt := jb_ne_n (rfl) (rfl) c_9
            refine lv_iload_n hx hb dX13_hypOf_29 rfl (lv_at hl 2 rfl) ?_
            rw [hQ]
            exact W.iret (v := v2_1) hx hb hr (fun t ht hW => ⟨⟨v2_1, (), rfl, by refine ⟨by omega, fun h9 => ?_⟩; first | exact absurd h9 (by omega) | exact ⟨by omega, by omega⟩, hh_6.rt (M1 := []) [] rfl ht⟩, by rw [ht]; try exact hh_6.1.1, fun q h9 hq => by rw [ht]; try exact hh_6.1.2.1 q h9 hq⟩) hh_6.1.2.2 dX13_hypOf_30
  exact L2 (8 - (0 : Int32).toInt : Int).toNat.succ 0 _ _ hh (by first | omega | (refine ⟨?_, ?_⟩ <;> (first | omega | rfl | assumption | decide | exact Or.inl rfl | exact Or.inr rfl | (simp only; omega)))) (by omega) _ (lv_sub hl [1, 2, 0] rfl)
set_option maxHeartbeats 4000000 in
set_option maxRecDepth 20000 in
theorem uX13_checkNewK (l : Launch) (dC : Nat → ClassId) (dI : Nat → Nat → Nat) (ca : Nat → ClassId) (base : Nat) (B : jF) (hB : jBok B) (hAp : jAp (dC, dI)) (hB15 : ∀ n G a H, B 15 n G a H ↔ jOb (dC, dI) 15 50 (F15 n G) a H) (hB158 : ∀ n G a H, B 158 n G a H ↔ jAr (dC, dI) (ca 1) (fun j z => 0 ≤ z.toInt ∧ z.toInt ≤ 6) n a H) (hB159 : ∀ n G a H, B 159 n G a H ↔ jAr (dC, dI) (ca 1) (fun j z => 0 ≤ z.toInt ∧ z.toInt ≤ 8) n a H) (hB163 : ∀ n G a H, B 163 n G a H ↔ jAr (dC, dI) (ca 1) (fun j z => 0 ≤ z.toInt ∧ z.toInt ≤ 1599) n a H) (G0 : jT) (H0 : Heap) (r0 : Nat) (a1 : Int32) (pu : Int32) (py : Int32) (pf : Int32) (pg : Int32) (zh : Nat) (fh : Nat → Int32) : Met l yX13_checkNew (jw yX13_checkNew cX13_checkNew 2 none) ({ frames := 1, cells := 0, slots := 0, locals := 22 }) (va_Pc [.ref r0, .int a1] (fun U => U.heap = H0 ∧ jX B base G0 [] H0 ∧ jG dC dI ca base U ∧ G0 r0 = some (15, 0) ∧ G0 zh = some (159, 46) ∧ jP (dC, dI) G0 H0 [(r0, 15, 34, .int pu), (r0, 15, 11, .int py), (r0, 15, 15, .int pf), (r0, 15, 21, .int pg), (r0, 15, 25, .ref zh)] ∧ jMc (dC, dI) G0 H0 [(zh, 159, 46, ca 1, fh)] ∧ 0 ≤ pu.toInt ∧ pu.toInt ≤ 9 ∧ 0 ≤ py.toInt ∧ py.toInt ≤ 16 ∧ 0 ≤ pf.toInt ∧ pf.toInt ≤ 16 ∧ 0 ≤ pg.toInt ∧ pg.toInt ≤ 6)) (va_Qv (S := Int32) (fun u => pu.toInt ≤ u.toInt ∧ u.toInt ≤ 9) (fun u t => jRt (dC, dI) B base G0 EX13_checkNewK H0 [(r0, 15, 34, .int u)] t.heap) (jA base)) 0 0 (jA base) := by
  refine Met.ofW (cc := cX13_checkNew) (maxL := 2) (ret := none) (by decide) rfl ?_
  intro p e s m args below meth c s₁ Bd hml hv
  obtain ⟨rfl, hH0, hX, hG, hg_r0, hg_zh, hP0, hM0, hp0, hp1, hp2, hp3, hp4, hp5, hp6, hp7⟩ := hv
  have hK := hG.1
  have hx := Bd.exec
  have hb := Bd.bytes
  have hr := Bd.returns
  have hts := atoms_spec (ws := (jw yX13_checkNew cX13_checkNew 2 none)) Bd.pre
  have htw : ∀ w ∈ jWl, w.before _ s = true := fun w h => hts w (List.mem_cons_of_mem _ h)
  have hown : s.vm.findClass RX13 = some m.cls := findClass_of_methodNamed Bd.named
  have hlocks := Bd.notSynchronized
  obtain ⟨Q, hQ⟩ : ∃ Q, Q = MQ below (va_Qv (S := Int32) (fun u => pu.toInt ≤ u.toInt ∧ u.toInt ≤ 9) (fun u t => jRt (dC, dI) B base G0 EX13_checkNewK H0 [(r0, 15, 34, .int u)] t.heap) (jA base)) ([.ref r0, .int a1] : List Value).toArray s 0 0 (jA base) := ⟨_, rfl⟩
  rw [← hQ]
  have hl := lv_entry ([.ref r0, .int a1]) (n := 2) (Nat.le_of_ble_eq_true rfl)
  rw [lg_entry_eq]
  generalize (lg_sl ([.ref r0, .int a1]) ++ List.replicate (2 - (lg_sl ([.ref r0, .int a1])).length) Slot.unset).toArray = ls at hl ⊢
  have hl : lv_has ls 2 [(0, .ref r0), (1, .int a1)] := hl
  generalize hR : (headSpec (jw yX13_checkNew cX13_checkNew 2 none) ({ frames := 1, cells := 0, slots := 0, locals := 22 })).room = R
  subst hH0
  have hh : jSt (dC, dI) B base G0 G0 EX13_checkNewK s.heap 0 0 [(r0, 15, 34, .int pu), (r0, 15, 11, .int py), (r0, 15, 15, .int pf), (r0, 15, 21, .int pg), (r0, 15, 25, .ref zh)] [(zh, 159, 46, ca 1, fh)] [] s.heap [] := jSt.start hX hP0 hM0 jIs.nil
  clear hX hP0
  have hk0 : (0 : Int32).toInt = 0 := by decide
  have hk1 : (1 : Int32).toInt = 1 := by decide
  have hk6 : (6 : Int32).toInt = 6 := by decide
  have hrg_a1 := jb_rng a1
  refine lv_aload_n hx hb dX13_checkNew_0 rfl (lv_at hl 0 rfl) ?_
  refine lv_iload_n hx hb dX13_checkNew_1 rfl (lv_at hl 1 rfl) ?_
  refine va_calli (A0 := jA base) (H0 := s.heap) (va_runV (As := [.int a1]) (rest := []) ⟨hx, hb, hml, hown, hts⟩ (uX13_symbolOfK l dC dI ca base B hB hAp hB15 hB163 G0 s.heap r0 a1 py) (cwV 1 hts (jgV (jWr_64 _ (List.mem_of_getElem? (i := 3) rfl)) (jWr_64 _ (List.mem_of_getElem? (i := 4) rfl)) (jWr_64 _ (List.mem_of_getElem? (i := 5) rfl)) (jWr_12 _ (List.mem_of_getElem? (i := 12) rfl)) (jWr_64 _ (List.mem_of_getElem? (i := 6) rfl))) rfl rfl rfl (by decide +kernel) ⟨by rw [← hR]; exact Nat.le_of_ble_eq_true rfl, by rw [← hR]; exact Nat.le_of_ble_eq_true rfl⟩) ⟨fun a U g mk q => by obtain ⟨q0, q1, q2, qK, q10, q11, q12⟩ := q; exact ⟨q0, q1, q2, jG.calling g mk a qK, q10, q11, q12⟩, hh.recv (C := RX13) (T := TX13) (N := 50) hB15 rfl (by decide) hg_r0 hK, fun U hU hW => ⟨rfl, hU, hh.2.1, hG.step hW hU hh.1, hg_r0, (hh.2.2.1.sub (L1 := [(r0, 15, 11, .int py)]) [1] rfl), by first | omega | (refine ⟨?_, ?_⟩ <;> (first | omega | rfl | assumption | decide | exact Or.inl rfl | exact Or.inr rfl | (simp only; omega)))⟩⟩ rfl rfl hl.1 rfl (lv_room (Nat.le_of_ble_eq_true rfl)) dX13_checkNew_2 ⟨Nat.zero_le _, Nat.zero_le _⟩) hh.1 (fun q _ h => h) (fun q h => h) (fun r_2 u_1 t_1 H_1 locs_1 ht_1 hvm_1 hr_2 hb_1 hz_1 hk_1 hS_1 => ?_)
  rw [ht_1] at hb_1
  obtain ⟨hb_11, hb_12, hb_13, hb_14, hb_15⟩ := hb_1
  have hh_1 : jSt (dC, dI) B base G0 G0 EX13_checkNewK s.heap 0 0 [(r0, 15, 34, .int pu), (r0, 15, 11, .int py), (r0, 15, 15, .int pf), (r0, 15, 21, .int pg), (r0, 15, 25, .ref zh)] [(zh, 159, 46, ca 1, fh)] [] H_1 locs_1 := ((hh.call hb_11 hb_12 hb_13 hb_14 hS_1 rfl (L1 := [(r0, 15, 34, .int pu), (r0, 15, 11, .int py), (r0, 15, 15, .int pf), (r0, 15, 21, .int pg), (r0, 15, 25, .ref zh)]) [0, 1, 2, 3, 4] rfl rfl (M1 := [(zh, 159, 46, ca 1, fh)]) [0] rfl rfl (I1 := []) [] rfl rfl).more hb_15)
  clear hh ht_1 hvm_1 hz_1 hk_1 hS_1 hb_11 hb_12 hb_13 hb_14 hb_15
  obtain ⟨hr_2_0, hr_2_1⟩ := hr_2
  refine lv_if_ge (tgt := 32) hx hb dX13_checkNew_5 (by decide) (fun c_3 => ?_) (fun c_3 => ?_)
  · skip
    have c_3' : r_2.toInt ≥ 0 := jb_ge (rfl) ((by decide)) c_3
    refine lv_aload_n hx hb dX13_checkNew_32 rfl (lv_at hl 0 rfl) ?_
    refine lv_bipush (v := 6) hx hb dX13_checkNew_33 (by decide) ?_
    refine va_callv (A0 := jA base) (H0 := s.heap) (va_runV (As := [.int 6]) (rest := []) ⟨hx, hb, hml, hown, hts⟩ (uX13_failsK l dC dI ca base B hB hAp hB15 G0 H_1 r0 6 pu) (cwV 1 hts (jgV (jWr_64 _ (List.mem_of_getElem? (i := 19) rfl)) (jWr_64 _ (List.mem_of_getElem? (i := 20) rfl)) (jWr_64 _ (List.mem_of_getElem? (i := 21) rfl)) (jWr_12 _ (List.mem_of_getElem? (i := 12) rfl)) (jWr_64 _ (List.mem_of_getElem? (i := 22) rfl))) rfl rfl rfl (by decide +kernel) ⟨by rw [← hR]; exact Nat.le_of_ble_eq_true rfl, by rw [← hR]; exact Nat.le_of_ble_eq_true rfl⟩) ⟨fun a U g mk q => by obtain ⟨q0, q1, q2, qK, q10, q11, q12⟩ := q; exact ⟨q0, q1, q2, jG.calling g mk a qK, q10, q11, q12⟩, hh_1.recv (C := RX13) (T := TX13) (N := 50) hB15 rfl (by decide) hg_r0 hK, fun U hU hW => ⟨rfl, hU, hh_1.2.1, hG.step hW hU hh_1.1, hg_r0, (hh_1.2.2.1.sub (L1 := [(r0, 15, 34, .int pu)]) [0] rfl), by first | omega | (refine ⟨?_, ?_, ?_, ?_⟩ <;> (first | omega | rfl | assumption | decide | exact Or.inl rfl | exact Or.inr rfl | (simp only; omega)))⟩⟩ rfl rfl hl.1 rfl (lv_room (Nat.le_of_ble_eq_true rfl)) dX13_checkNew_35 ⟨Nat.zero_le _, Nat.zero_le _⟩) hh_1.1 (fun q _ h => h) (fun q h => h) (fun u_4 t_4 H_4 locs_4 ht_4 hvm_4 hr_5 hb_4 hz_4 hk_4 hS_4 => ?_)
    obtain ⟨qu_4, rfl⟩ : ∃ z, z = u_4 := ⟨_, rfl⟩
    rw [ht_4] at hb_4
    obtain ⟨hb_41, hb_42, hb_43, hb_44, hb_45⟩ := hb_4
    have hh_4 : jSt (dC, dI) B base G0 G0 EX13_checkNewK s.heap 0 0 [(r0, 15, 34, .int qu_4), (r0, 15, 11, .int py), (r0, 15, 15, .int pf), (r0, 15, 21, .int pg), (r0, 15, 25, .ref zh)] [(zh, 159, 46, ca 1, fh)] [] H_4 locs_4 := ((hh_1.call hb_41 hb_42 hb_43 hb_44 hS_4 rfl (L1 := [(r0, 15, 11, .int py), (r0, 15, 15, .int pf), (r0, 15, 21, .int pg), (r0, 15, 25, .ref zh)]) [1, 2, 3, 4] rfl rfl (M1 := [(zh, 159, 46, ca 1, fh)]) [0] rfl rfl (I1 := []) [] rfl rfl).more hb_45)
    clear hh_1 ht_4 hvm_4 hz_4 hk_4 hS_4 hb_41 hb_42 hb_43 hb_44 hb_45
    obtain ⟨hr_5_0, hr_5_1, hr_5_2, hr_5_3⟩ := hr_5
    rw [hQ]
    exact W.vret hx hb hr (fun t ht hW => ⟨⟨qu_4, rfl, by (try dsimp only); first | omega | (refine ⟨?_, ?_⟩ <;> (first | omega | rfl | assumption | decide | exact Or.inl rfl | exact Or.inr rfl | (simp only; omega))), hh_4.rt (M1 := [(r0, 15, 34, .int qu_4)]) [0] rfl ht⟩, by rw [ht]; try exact hh_4.1.1, fun q h9 hq => by rw [ht]; try exact hh_4.1.2.1 q h9 hq⟩) hh_4.1.2.2 dX13_checkNew_38
  · skip
    have c_3' : r_2.toInt < 0 := jb_ge_n (rfl) ((by decide)) c_3
    refine lv_aload_n hx hb dX13_checkNew_8 rfl (lv_at hl 0 rfl) ?_
    refine lv_iload_n hx hb dX13_checkNew_9 rfl (lv_at hl 1 rfl) ?_
    refine va_calli (A0 := jA base) (H0 := s.heap) (va_runV (As := [.int a1]) (rest := []) ⟨hx, hb, hml, hown, hts⟩ (uX13_factOfK l dC dI ca base B hB hAp hB15 hB163 G0 H_1 r0 a1 pf) (cwV 1 hts (jgV (jWr_64 _ (List.mem_of_getElem? (i := 7) rfl)) (jWr_64 _ (List.mem_of_getElem? (i := 8) rfl)) (jWr_64 _ (List.mem_of_getElem? (i := 9) rfl)) (jWr_12 _ (List.mem_of_getElem? (i := 12) rfl)) (jWr_64 _ (List.mem_of_getElem? (i := 10) rfl))) rfl rfl rfl (by decide +kernel) ⟨by rw [← hR]; exact Nat.le_of_ble_eq_true rfl, by rw [← hR]; exact Nat.le_of_ble_eq_true rfl⟩) ⟨fun a U g mk q => by obtain ⟨q0, q1, q2, qK, q10, q11, q12⟩ := q; exact ⟨q0, q1, q2, jG.calling g mk a qK, q10, q11, q12⟩, hh_1.recv (C := RX13) (T := TX13) (N := 50) hB15 rfl (by decide) hg_r0 hK, fun U hU hW => ⟨rfl, hU, hh_1.2.1, hG.step hW hU hh_1.1, hg_r0, (hh_1.2.2.1.sub (L1 := [(r0, 15, 15, .int pf)]) [2] rfl), by first | omega | (refine ⟨?_, ?_⟩ <;> (first | omega | rfl | assumption | decide | exact Or.inl rfl | exact Or.inr rfl | (simp only; omega)))⟩⟩ rfl rfl hl.1 rfl (lv_room (Nat.le_of_ble_eq_true rfl)) dX13_checkNew_10 ⟨Nat.zero_le _, Nat.zero_le _⟩) hh_1.1 (fun q _ h => h) (fun q h => h) (fun r_7 u_6 t_6 H_6 locs_6 ht_6 hvm_6 hr_7 hb_6 hz_6 hk_6 hS_6 => ?_)
    rw [ht_6] at hb_6
    obtain ⟨hb_61, hb_62, hb_63, hb_64, hb_65⟩ := hb_6
    have hh_6 : jSt (dC, dI) B base G0 G0 EX13_checkNewK s.heap 0 0 [(r0, 15, 34, .int pu), (r0, 15, 11, .int py), (r0, 15, 15, .int pf), (r0, 15, 21, .int pg), (r0, 15, 25, .ref zh)] [(zh, 159, 46, ca 1, fh)] [] H_6 locs_6 := ((hh_1.call hb_61 hb_62 hb_63 hb_64 hS_6 rfl (L1 := [(r0, 15, 34, .int pu), (r0, 15, 11, .int py), (r0, 15, 15, .int pf), (r0, 15, 21, .int pg), (r0, 15, 25, .ref zh)]) [0, 1, 2, 3, 4] rfl rfl (M1 := [(zh, 159, 46, ca 1, fh)]) [0] rfl rfl (I1 := []) [] rfl rfl).more hb_65)
    clear hh_1 ht_6 hvm_6 hz_6 hk_6 hS_6 hb_61 hb_62 hb_63 hb_64 hb_65
    obtain ⟨hr_7_0, hr_7_1⟩ := hr_7
    refine lv_if_ge (tgt := 32) hx hb dX13_checkNew_13 (by decide) (fun c_8 => ?_) (fun c_8 => ?_)
    · skip
      have c_8' : r_7.toInt ≥ 0 := jb_ge (rfl) ((by decide)) c_8
      refine lv_aload_n hx hb dX13_checkNew_32 rfl (lv_at hl 0 rfl) ?_
      refine lv_bipush (v := 6) hx hb dX13_checkNew_33 (by decide) ?_
      refine va_callv (A0 := jA base) (H0 := s.heap) (va_runV (As := [.int 6]) (rest := []) ⟨hx, hb, hml, hown, hts⟩ (uX13_failsK l dC dI ca base B hB hAp hB15 G0 H_6 r0 6 pu) (cwV 1 hts (jgV (jWr_64 _ (List.mem_of_getElem? (i := 19) rfl)) (jWr_64 _ (List.mem_of_getElem? (i := 20) rfl)) (jWr_64 _ (List.mem_of_getElem? (i := 21) rfl)) (jWr_12 _ (List.mem_of_getElem? (i := 12) rfl)) (jWr_64 _ (List.mem_of_getElem? (i := 22) rfl))) rfl rfl rfl (by decide +kernel) ⟨by rw [← hR]; exact Nat.le_of_ble_eq_true rfl, by rw [← hR]; exact Nat.le_of_ble_eq_true rfl⟩) ⟨fun a U g mk q => by obtain ⟨q0, q1, q2, qK, q10, q11, q12⟩ := q; exact ⟨q0, q1, q2, jG.calling g mk a qK, q10, q11, q12⟩, hh_6.recv (C := RX13) (T := TX13) (N := 50) hB15 rfl (by decide) hg_r0 hK, fun U hU hW => ⟨rfl, hU, hh_6.2.1, hG.step hW hU hh_6.1, hg_r0, (hh_6.2.2.1.sub (L1 := [(r0, 15, 34, .int pu)]) [0] rfl), by first | omega | (refine ⟨?_, ?_, ?_, ?_⟩ <;> (first | omega | rfl | assumption | decide | exact Or.inl rfl | exact Or.inr rfl | (simp only; omega)))⟩⟩ rfl rfl hl.1 rfl (lv_room (Nat.le_of_ble_eq_true rfl)) dX13_checkNew_35 ⟨Nat.zero_le _, Nat.zero_le _⟩) hh_6.1 (fun q _ h => h) (fun q h => h) (fun u_9 t_9 H_9 locs_9 ht_9 hvm_9 hr_10 hb_9 hz_9 hk_9 hS_9 => ?_)
      obtain ⟨qu_9, rfl⟩ : ∃ z, z = u_9 := ⟨_, rfl⟩
      rw [ht_9] at hb_9
      obtain ⟨hb_91, hb_92, hb_93, hb_94, hb_95⟩ := hb_9
      have hh_9 : jSt (dC, dI) B base G0 G0 EX13_checkNewK s.heap 0 0 [(r0, 15, 34, .int qu_9), (r0, 15, 11, .int py), (r0, 15, 15, .int pf), (r0, 15, 21, .int pg), (r0, 15, 25, .ref zh)] [(zh, 159, 46, ca 1, fh)] [] H_9 locs_9 := ((hh_6.call hb_91 hb_92 hb_93 hb_94 hS_9 rfl (L1 := [(r0, 15, 11, .int py), (r0, 15, 15, .int pf), (r0, 15, 21, .int pg), (r0, 15, 25, .ref zh)]) [1, 2, 3, 4] rfl rfl (M1 := [(zh, 159, 46, ca 1, fh)]) [0] rfl rfl (I1 := []) [] rfl rfl).more hb_95)
      clear hh_6 ht_9 hvm_9 hz_9 hk_9 hS_9 hb_91 hb_92 hb_93 hb_94 hb_95
      obtain ⟨hr_10_0, hr_10_1, hr_10_2, hr_10_3⟩ := hr_10
      rw [hQ]
      exact W.vret hx hb hr (fun t ht hW => ⟨⟨qu_9, rfl, by (try dsimp only); first | omega | (refine ⟨?_, ?_⟩ <;> (first | omega | rfl | assumption | decide | exact Or.inl rfl | exact Or.inr rfl | (simp only; omega))), hh_9.rt (M1 := [(r0, 15, 34, .int qu_9)]) [0] rfl ht⟩, by rw [ht]; try exact hh_9.1.1, fun q h9 hq => by rw [ht]; try exact hh_9.1.2.1 q h9 hq⟩) hh_9.1.2.2 dX13_checkNew_38
    · skip
      have c_8' : r_7.toInt < 0 := jb_ge_n (rfl) ((by decide)) c_8
      refine lv_aload_n hx hb dX13_checkNew_16 rfl (lv_at hl 0 rfl) ?_
      refine lv_iload_n hx hb dX13_checkNew_17 rfl (lv_at hl 1 rfl) ?_
      refine va_calli (A0 := jA base) (H0 := s.heap) (va_runV (As := [.int a1]) (rest := []) ⟨hx, hb, hml, hown, hts⟩ (uX13_isVariable l dC dI ca base B hB hAp hB15 hB158 hB163 G0 H_6 r0 a1) (cwV 1 hts (jgV (jWr_64 _ (List.mem_of_getElem? (i := 11) rfl)) (jWr_64 _ (List.mem_of_getElem? (i := 12) rfl)) (jWr_64 _ (List.mem_of_getElem? (i := 13) rfl)) (jWr_12 _ (List.mem_of_getElem? (i := 12) rfl)) (jWr_64 _ (List.mem_of_getElem? (i := 14) rfl))) rfl rfl rfl (by decide +kernel) ⟨by rw [← hR]; exact Nat.le_of_ble_eq_true rfl, by rw [← hR]; exact Nat.le_of_ble_eq_true rfl⟩) ⟨fun a U g mk q => by obtain ⟨q0, q1, q2, qK, q10, q11, q12⟩ := q; exact ⟨q0, q1, q2, jG.calling g mk a qK, q10, q11, q12⟩, hh_6.recv (C := RX13) (T := TX13) (N := 50) hB15 rfl (by decide) hg_r0 hK, fun U hU hW => ⟨rfl, hU, hh_6.2.1, hG.step hW hU hh_6.1, hg_r0, jP.nil, trivial⟩⟩ rfl rfl hl.1 rfl (lv_room (Nat.le_of_ble_eq_true rfl)) dX13_checkNew_18 ⟨Nat.zero_le _, Nat.zero_le _⟩) hh_6.1 (fun q _ h => h) (fun q h => h) (fun r_12 u_11 t_11 H_11 locs_11 ht_11 hvm_11 hr_12 hb_11 hz_11 hk_11 hS_11 => ?_)
      rw [ht_11] at hb_11
      obtain ⟨hb_111, hb_112, hb_113, hb_114, hb_115⟩ := hb_11
      have hh_11 : jSt (dC, dI) B base G0 G0 EX13_checkNewK s.heap 0 0 [(r0, 15, 34, .int pu), (r0, 15, 11, .int py), (r0, 15, 15, .int pf), (r0, 15, 21, .int pg), (r0, 15, 25, .ref zh)] [(zh, 159, 46, ca 1, fh)] [] H_11 locs_11 := ((hh_6.call hb_111 hb_112 hb_113 hb_114 hS_11 rfl (L1 := [(r0, 15, 34, .int pu), (r0, 15, 11, .int py), (r0, 15, 15, .int pf), (r0, 15, 21, .int pg), (r0, 15, 25, .ref zh)]) [0, 1, 2, 3, 4] rfl rfl (M1 := [(zh, 159, 46, ca 1, fh)]) [0] rfl rfl (I1 := []) [] rfl rfl).more hb_115)
      clear hh_6 ht_11 hvm_11 hz_11 hk_11 hS_11 hb_111 hb_112 hb_113 hb_114 hb_115
      obtain ⟨hr_12b, hr_12p⟩ := hr_12
      have hr_12' := jb_01 hr_12b
      refine lv_if_ne (tgt := 32) hx hb dX13_checkNew_21 (by decide) (fun c_13 => ?_) (fun c_13 => ?_)
      · skip
        have c_13' : r_12.toInt ≠ 0 := jb_ne (rfl) ((by decide)) c_13
        refine lv_aload_n hx hb dX13_checkNew_32 rfl (lv_at hl 0 rfl) ?_
        refine lv_bipush (v := 6) hx hb dX13_checkNew_33 (by decide) ?_
        refine va_callv (A0 := jA base) (H0 := s.heap) (va_runV (As := [.int 6]) (rest := []) ⟨hx, hb, hml, hown, hts⟩ (uX13_failsK l dC dI ca base B hB hAp hB15 G0 H_11 r0 6 pu) (cwV 1 hts (jgV (jWr_64 _ (List.mem_of_getElem? (i := 19) rfl)) (jWr_64 _ (List.mem_of_getElem? (i := 20) rfl)) (jWr_64 _ (List.mem_of_getElem? (i := 21) rfl)) (jWr_12 _ (List.mem_of_getElem? (i := 12) rfl)) (jWr_64 _ (List.mem_of_getElem? (i := 22) rfl))) rfl rfl rfl (by decide +kernel) ⟨by rw [← hR]; exact Nat.le_of_ble_eq_true rfl, by rw [← hR]; exact Nat.le_of_ble_eq_true rfl⟩) ⟨fun a U g mk q => by obtain ⟨q0, q1, q2, qK, q10, q11, q12⟩ := q; exact ⟨q0, q1, q2, jG.calling g mk a qK, q10, q11, q12⟩, hh_11.recv (C := RX13) (T := TX13) (N := 50) hB15 rfl (by decide) hg_r0 hK, fun U hU hW => ⟨rfl, hU, hh_11.2.1, hG.step hW hU hh_11.1, hg_r0, (hh_11.2.2.1.sub (L1 := [(r0, 15, 34, .int pu)]) [0] rfl), by first | omega | (refine ⟨?_, ?_, ?_, ?_⟩ <;> (first | omega | rfl | assumption | decide | exact Or.inl rfl | exact Or.inr rfl | (simp only; omega)))⟩⟩ rfl rfl hl.1 rfl (lv_room (Nat.le_of_ble_eq_true rfl)) dX13_checkNew_35 ⟨Nat.zero_le _, Nat.zero_le _⟩) hh_11.1 (fun q _ h => h) (fun q h => h) (fun u_14 t_14 H_14 locs_14 ht_14 hvm_14 hr_15 hb_14 hz_14 hk_14 hS_14 => ?_)
        obtain ⟨qu_14, rfl⟩ : ∃ z, z = u_14 := ⟨_, rfl⟩
        rw [ht_14] at hb_14
        obtain ⟨hb_141, hb_142, hb_143, hb_144, hb_145⟩ := hb_14
        have hh_14 : jSt (dC, dI) B base G0 G0 EX13_checkNewK s.heap 0 0 [(r0, 15, 34, .int qu_14), (r0, 15, 11, .int py), (r0, 15, 15, .int pf), (r0, 15, 21, .int pg), (r0, 15, 25, .ref zh)] [(zh, 159, 46, ca 1, fh)] [] H_14 locs_14 := ((hh_11.call hb_141 hb_142 hb_143 hb_144 hS_14 rfl (L1 := [(r0, 15, 11, .int py), (r0, 15, 15, .int pf), (r0, 15, 21, .int pg), (r0, 15, 25, .ref zh)]) [1, 2, 3, 4] rfl rfl (M1 := [(zh, 159, 46, ca 1, fh)]) [0] rfl rfl (I1 := []) [] rfl rfl).more hb_145)
        clear hh_11 ht_14 hvm_14 hz_14 hk_14 hS_14 hb_141 hb_142 hb_143 hb_144 hb_145
        obtain ⟨hr_15_0, hr_15_1, hr_15_2, hr_15_3⟩ := hr_15
        rw [hQ]
        exact W.vret hx hb hr (fun t ht hW => ⟨⟨qu_14, rfl, by (try dsimp only); first | omega | (refine ⟨?_, ?_⟩ <;> (first | omega | rfl | assumption | decide | exact Or.inl rfl | exact Or.inr rfl | (simp only; omega))), hh_14.rt (M1 := [(r0, 15, 34, .int qu_14)]) [0] rfl ht⟩, by rw [ht]; try exact hh_14.1.1, fun q h9 hq => by rw [ht]; try exact hh_14.1.2.1 q h9 hq⟩) hh_14.1.2.2 dX13_checkNew_38
      · skip
        have c_13' : r_12.toInt = 0 := jb_ne_n (rfl) ((by decide)) c_13
        refine lv_aload_n hx hb dX13_checkNew_24 rfl (lv_at hl 0 rfl) ?_
        refine lv_iload_n hx hb dX13_checkNew_25 rfl (lv_at hl 1 rfl) ?_
        refine va_calli (A0 := jA base) (H0 := s.heap) (va_runV (As := [.int a1]) (rest := []) ⟨hx, hb, hml, hown, hts⟩ (uX13_hypOfK l dC dI ca base B hB hAp hB15 hB159 hB163 G0 H_11 r0 a1 pg zh fh) (cwV 1 hts (jgV (jWr_64 _ (List.mem_of_getElem? (i := 15) rfl)) (jWr_64 _ (List.mem_of_getElem? (i := 16) rfl)) (jWr_64 _ (List.mem_of_getElem? (i := 17) rfl)) (jWr_12 _ (List.mem_of_getElem? (i := 12) rfl)) (jWr_64 _ (List.mem_of_getElem? (i := 18) rfl))) rfl rfl rfl (by decide +kernel) ⟨by rw [← hR]; exact Nat.le_of_ble_eq_true rfl, by rw [← hR]; exact Nat.le_of_ble_eq_true rfl⟩) ⟨fun a U g mk q => by obtain ⟨q0, q1, q2, qK, q10, q11, q12, q13, q14⟩ := q; exact ⟨q0, q1, q2, jG.calling g mk a qK, q10, q11, q12, q13, q14⟩, hh_11.recv (C := RX13) (T := TX13) (N := 50) hB15 rfl (by decide) hg_r0 hK, fun U hU hW => ⟨rfl, hU, hh_11.2.1, hG.step hW hU hh_11.1, hg_r0, hg_zh, (hh_11.2.2.1.sub (L1 := [(r0, 15, 21, .int pg), (r0, 15, 25, .ref zh)]) [3, 4] rfl), (hh_11.2.2.2.2.2.2.2.1.sub (L1 := [(zh, 159, 46, ca 1, fh)]) [0] rfl), by first | omega | (refine ⟨?_, ?_⟩ <;> (first | omega | rfl | assumption | decide | exact Or.inl rfl | exact Or.inr rfl | (simp only; omega)))⟩⟩ rfl rfl hl.1 rfl (lv_room (Nat.le_of_ble_eq_true rfl)) dX13_checkNew_26 ⟨Nat.zero_le _, Nat.zero_le _⟩) hh_11.1 (fun q _ h => h) (fun q h => h) (fun r_17 u_16 t_16 H_16 locs_16 ht_16 hvm_16 hr_17 hb_16 hz_16 hk_16 hS_16 => ?_)
        rw [ht_16] at hb_16
        obtain ⟨hb_161, hb_162, hb_163, hb_164, hb_165⟩ := hb_16
        have hh_16 : jSt (dC, dI) B base G0 G0 EX13_checkNewK s.heap 0 0 [(r0, 15, 34, .int pu), (r0, 15, 11, .int py), (r0, 15, 15, .int pf), (r0, 15, 21, .int pg), (r0, 15, 25, .ref zh)] [(zh, 159, 46, ca 1, fh)] [] H_16 locs_16 := ((hh_11.call hb_161 hb_162 hb_163 hb_164 hS_16 rfl (L1 := [(r0, 15, 34, .int pu), (r0, 15, 11, .int py), (r0, 15, 15, .int pf), (r0, 15, 21, .int pg), (r0, 15, 25, .ref zh)]) [0, 1, 2, 3, 4] rfl rfl (M1 := [(zh, 159, 46, ca 1, fh)]) [0] rfl rfl (I1 := []) [] rfl rfl).more hb_165)
        clear hh_11 ht_16 hvm_16 hz_16 hk_16 hS_16 hb_161 hb_162 hb_163 hb_164 hb_165
        obtain ⟨hr_17_0, hr_17_1⟩ := hr_17
        refine lv_if_lt (tgt := 38) hx hb dX13_checkNew_29 (by decide) (fun c_18 => ?_) (fun c_18 => ?_)
        · skip
          have c_18' : r_17.toInt < 0 := jb_lt (rfl) ((by decide)) c_18
          rw [hQ]
          exact W.vret hx hb hr (fun t ht hW => ⟨⟨pu, rfl, by (try dsimp only); first | omega | (refine ⟨?_, ?_⟩ <;> (first | omega | rfl | assumption | decide | exact Or.inl rfl | exact Or.inr rfl | (simp only; omega))), hh_16.rt (M1 := [(r0, 15, 34, .int pu)]) [0] rfl ht⟩, by rw [ht]; try exact hh_16.1.1, fun q h9 hq => by rw [ht]; try exact hh_16.1.2.1 q h9 hq⟩) hh_16.1.2.2 dX13_checkNew_38
        · skip
          have c_18' : r_17.toInt ≥ 0 := jb_lt_n (rfl) ((by decide)) c_18
          refine lv_aload_n hx hb dX13_checkNew_32 rfl (lv_at hl 0 rfl) ?_
          refine lv_bipush (v := 6) hx hb dX13_checkNew_33 (by decide) ?_
          refine va_callv (A0 := jA base) (H0 := s.heap) (va_runV (As := [.int 6]) (rest := []) ⟨hx, hb, hml, hown, hts⟩ (uX13_failsK l dC dI ca base B hB hAp hB15 G0 H_16 r0 6 pu) (cwV 1 hts (jgV (jWr_64 _ (List.mem_of_getElem? (i := 19) rfl)) (jWr_64 _ (List.mem_of_getElem? (i := 20) rfl)) (jWr_64 _ (List.mem_of_getElem? (i := 21) rfl)) (jWr_12 _ (List.mem_of_getElem? (i := 12) rfl)) (jWr_64 _ (List.mem_of_getElem? (i := 22) rfl))) rfl rfl rfl (by decide +kernel) ⟨by rw [← hR]; exact Nat.le_of_ble_eq_true rfl, by rw [← hR]; exact Nat.le_of_ble_eq_true rfl⟩) ⟨fun a U g mk q => by obtain ⟨q0, q1, q2, qK, q10, q11, q12⟩ := q; exact ⟨q0, q1, q2, jG.calling g mk a qK, q10, q11, q12⟩, hh_16.recv (C := RX13) (T := TX13) (N := 50) hB15 rfl (by decide) hg_r0 hK, fun U hU hW => ⟨rfl, hU, hh_16.2.1, hG.step hW hU hh_16.1, hg_r0, (hh_16.2.2.1.sub (L1 := [(r0, 15, 34, .int pu)]) [0] rfl), by first | omega | (refine ⟨?_, ?_, ?_, ?_⟩ <;> (first | omega | rfl | assumption | decide | exact Or.inl rfl | exact Or.inr rfl | (simp only; omega)))⟩⟩ rfl rfl hl.1 rfl (lv_room (Nat.le_of_ble_eq_true rfl)) dX13_checkNew_35 ⟨Nat.zero_le _, Nat.zero_le _⟩) hh_16.1 (fun q _ h => h) (fun q h => h) (fun u_19 t_19 H_19 locs_19 ht_19 hvm_19 hr_20 hb_19 hz_19 hk_19 hS_19 => ?_)
          obtain ⟨qu_19, rfl⟩ : ∃ z, z = u_19 := ⟨_, rfl⟩
          rw [ht_19] at hb_19
          obtain ⟨hb_191, hb_192, hb_193, hb_194, hb_195⟩ := hb_19
          have hh_19 : jSt (dC, dI) B base G0 G0 EX13_checkNewK s.heap 0 0 [(r0, 15, 34, .int qu_19), (r0, 15, 11, .int py), (r0, 15, 15, .int pf), (r0, 15, 21, .int pg), (r0, 15, 25, .ref zh)] [(zh, 159, 46, ca 1, fh)] [] H_19 locs_19 := ((hh_16.call hb_191 hb_192 hb_193 hb_194 hS_19 rfl (L1 := [(r0, 15, 11, .int py), (r0, 15, 15, .int pf), (r0, 15, 21, .int pg), (r0, 15, 25, .ref zh)]) [1, 2, 3, 4] rfl rfl (M1 := [(zh, 159, 46, ca 1, fh)]) [0] rfl rfl (I1 := []) [] rfl rfl).more hb_195)
          clear hh_16 ht_19 hvm_19 hz_19 hk_19 hS_19 hb_191 hb_192 hb_193 hb_194 hb_195
          obtain ⟨hr_20_0, hr_20_1, hr_20_2, hr_20_3⟩ := hr_20
          rw [hQ]
          exact W.vret hx hb hr (fun t ht hW => ⟨⟨qu_19, rfl, by (try dsimp only); first | omega | (refine ⟨?_, ?_⟩ <;> (first | omega | rfl | assumption | decide | exact Or.inl rfl | exact Or.inr rfl | (simp only; omega))), hh_19.rt (M1 := [(r0, 15, 34, .int qu_19)]) [0] rfl ht⟩, by rw [ht]; try exact hh_19.1.1, fun q h9 hq => by rw [ht]; try exact hh_19.1.2.1 q h9 hq⟩) hh_19.1.2.2 dX13_checkNew_38
end
