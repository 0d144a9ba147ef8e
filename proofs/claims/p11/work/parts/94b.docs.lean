theorem dX14_messageOf_0 : decode cX14_messageOf 0 = .ok (.iload_n 0, 1) := by decide +kernel
theorem dX14_messageOf_1 : decode cX14_messageOf 1 = .ok (.iconst 1, 1) := by decide +kernel
theorem dX14_messageOf_2 : decode cX14_messageOf 2 = .ok (.if_icmp .ne 9, 3) := by decide +kernel
theorem dX14_messageOf_5 : decode cX14_messageOf 5 = .ok (.ldc_w 734, 3) := by decide +kernel
theorem dX14_messageOf_8 : decode cX14_messageOf 8 = .ok (.goto 86, 3) := by decide +kernel
theorem dX14_messageOf_11 : decode cX14_messageOf 11 = .ok (.iload_n 0, 1) := by decide +kernel
theorem dX14_messageOf_12 : decode cX14_messageOf 12 = .ok (.iconst 2, 1) := by decide +kernel
theorem dX14_messageOf_13 : decode cX14_messageOf 13 = .ok (.if_icmp .ne 9, 3) := by decide +kernel
theorem dX14_messageOf_16 : decode cX14_messageOf 16 = .ok (.ldc_w 736, 3) := by decide +kernel
theorem dX14_messageOf_19 : decode cX14_messageOf 19 = .ok (.goto 75, 3) := by decide +kernel
theorem dX14_messageOf_22 : decode cX14_messageOf 22 = .ok (.iload_n 0, 1) := by decide +kernel
theorem dX14_messageOf_23 : decode cX14_messageOf 23 = .ok (.iconst 3, 1) := by decide +kernel
theorem dX14_messageOf_24 : decode cX14_messageOf 24 = .ok (.if_icmp .ne 9, 3) := by decide +kernel
theorem dX14_messageOf_27 : decode cX14_messageOf 27 = .ok (.ldc_w 738, 3) := by decide +kernel
theorem dX14_messageOf_30 : decode cX14_messageOf 30 = .ok (.goto 64, 3) := by decide +kernel
theorem dX14_messageOf_33 : decode cX14_messageOf 33 = .ok (.iload_n 0, 1) := by decide +kernel
theorem dX14_messageOf_34 : decode cX14_messageOf 34 = .ok (.iconst 4, 1) := by decide +kernel
theorem dX14_messageOf_35 : decode cX14_messageOf 35 = .ok (.if_icmp .ne 9, 3) := by decide +kernel
theorem dX14_messageOf_38 : decode cX14_messageOf 38 = .ok (.ldc_w 740, 3) := by decide +kernel
theorem dX14_messageOf_41 : decode cX14_messageOf 41 = .ok (.goto 53, 3) := by decide +kernel
theorem dX14_messageOf_44 : decode cX14_messageOf 44 = .ok (.iload_n 0, 1) := by decide +kernel
theorem dX14_messageOf_45 : decode cX14_messageOf 45 = .ok (.iconst 5, 1) := by decide +kernel
theorem dX14_messageOf_46 : decode cX14_messageOf 46 = .ok (.if_icmp .ne 9, 3) := by decide +kernel
theorem dX14_messageOf_49 : decode cX14_messageOf 49 = .ok (.ldc_w 742, 3) := by decide +kernel
theorem dX14_messageOf_52 : decode cX14_messageOf 52 = .ok (.goto 42, 3) := by decide +kernel
theorem dX14_messageOf_55 : decode cX14_messageOf 55 = .ok (.iload_n 0, 1) := by decide +kernel
theorem dX14_messageOf_56 : decode cX14_messageOf 56 = .ok (.bipush 6, 2) := by decide +kernel
theorem dX14_messageOf_58 : decode cX14_messageOf 58 = .ok (.if_icmp .ne 9, 3) := by decide +kernel
theorem dX14_messageOf_61 : decode cX14_messageOf 61 = .ok (.ldc_w 744, 3) := by decide +kernel
theorem dX14_messageOf_64 : decode cX14_messageOf 64 = .ok (.goto 30, 3) := by decide +kernel
theorem dX14_messageOf_67 : decode cX14_messageOf 67 = .ok (.iload_n 0, 1) := by decide +kernel
theorem dX14_messageOf_68 : decode cX14_messageOf 68 = .ok (.bipush 7, 2) := by decide +kernel
theorem dX14_messageOf_70 : decode cX14_messageOf 70 = .ok (.if_icmp .ne 9, 3) := by decide +kernel
theorem dX14_messageOf_73 : decode cX14_messageOf 73 = .ok (.ldc_w 745, 3) := by decide +kernel
theorem dX14_messageOf_76 : decode cX14_messageOf 76 = .ok (.goto 18, 3) := by decide +kernel
theorem dX14_messageOf_79 : decode cX14_messageOf 79 = .ok (.iload_n 0, 1) := by decide +kernel
theorem dX14_messageOf_80 : decode cX14_messageOf 80 = .ok (.bipush 8, 2) := by decide +kernel
theorem dX14_messageOf_82 : decode cX14_messageOf 82 = .ok (.if_icmp .ne 9, 3) := by decide +kernel
theorem dX14_messageOf_85 : decode cX14_messageOf 85 = .ok (.ldc_w 747, 3) := by decide +kernel
theorem dX14_messageOf_88 : decode cX14_messageOf 88 = .ok (.goto 6, 3) := by decide +kernel
theorem dX14_messageOf_91 : decode cX14_messageOf 91 = .ok (.ldc_w 749, 3) := by decide +kernel
theorem dX14_messageOf_94 : decode cX14_messageOf 94 = .ok (.areturn, 1) := by decide +kernel
theorem dX14_takeCheck_0 : decode cX14_takeCheck 0 = .ok (.aload_n 0, 1) := by decide +kernel
theorem dX14_takeCheck_1 : decode cX14_takeCheck 1 = .ok (.invokevirtual 782, 3) := by decide +kernel
theorem dX14_takeCheck_4 : decode cX14_takeCheck 4 = .ok (.astore_n 2, 1) := by decide +kernel
theorem dX14_takeCheck_5 : decode cX14_takeCheck 5 = .ok (.aload_n 2, 1) := by decide +kernel
theorem dX14_takeCheck_6 : decode cX14_takeCheck 6 = .ok (.ifnonnull 4, 3) := by decide +kernel
theorem dX14_takeCheck_9 : decode cX14_takeCheck 9 = .ok (.return_, 1) := by decide +kernel
theorem dX14_takeCheck_10 : decode cX14_takeCheck 10 = .ok (.aload_n 2, 1) := by decide +kernel
theorem dX14_takeCheck_11 : decode cX14_takeCheck 11 = .ok (.getfield 531, 3) := by decide +kernel
theorem dX14_takeCheck_14 : decode cX14_takeCheck 14 = .ok (.istore_n 3, 1) := by decide +kernel
theorem dX14_takeCheck_15 : decode cX14_takeCheck 15 = .ok (.aload_n 0, 1) := by decide +kernel
theorem dX14_takeCheck_16 : decode cX14_takeCheck 16 = .ok (.getfield 129, 3) := by decide +kernel
theorem dX14_takeCheck_19 : decode cX14_takeCheck 19 = .ok (.iload_n 1, 1) := by decide +kernel
theorem dX14_takeCheck_20 : decode cX14_takeCheck 20 = .ok (.aload_n 2, 1) := by decide +kernel
theorem dX14_takeCheck_21 : decode cX14_takeCheck 21 = .ok (.aastore, 1) := by decide +kernel
theorem dX14_takeCheck_22 : decode cX14_takeCheck 22 = .ok (.aload_n 0, 1) := by decide +kernel
theorem dX14_takeCheck_23 : decode cX14_takeCheck 23 = .ok (.getfield 132, 3) := by decide +kernel
theorem dX14_takeCheck_26 : decode cX14_takeCheck 26 = .ok (.iload_n 1, 1) := by decide +kernel
theorem dX14_takeCheck_27 : decode cX14_takeCheck 27 = .ok (.iload_n 3, 1) := by decide +kernel
theorem dX14_takeCheck_28 : decode cX14_takeCheck 28 = .ok (.iastore, 1) := by decide +kernel
theorem dX14_takeCheck_29 : decode cX14_takeCheck 29 = .ok (.aload_n 0, 1) := by decide +kernel
theorem dX14_takeCheck_30 : decode cX14_takeCheck 30 = .ok (.aload_n 2, 1) := by decide +kernel
theorem dX14_takeCheck_31 : decode cX14_takeCheck 31 = .ok (.iload_n 3, 1) := by decide +kernel
theorem dX14_takeCheck_32 : decode cX14_takeCheck 32 = .ok (.invokevirtual 786, 3) := by decide +kernel
theorem dX14_takeCheck_35 : decode cX14_takeCheck 35 = .ok (.aload_n 0, 1) := by decide +kernel
theorem dX14_takeCheck_36 : decode cX14_takeCheck 36 = .ok (.getfield 138, 3) := by decide +kernel
theorem dX14_takeCheck_39 : decode cX14_takeCheck 39 = .ok (.iload_n 1, 1) := by decide +kernel
theorem dX14_takeCheck_40 : decode cX14_takeCheck 40 = .ok (.aload_n 0, 1) := by decide +kernel
theorem dX14_takeCheck_41 : decode cX14_takeCheck 41 = .ok (.invokevirtual 772, 3) := by decide +kernel
theorem dX14_takeCheck_44 : decode cX14_takeCheck 44 = .ok (.ifCond .lt 7, 3) := by decide +kernel
theorem dX14_takeCheck_47 : decode cX14_takeCheck 47 = .ok (.iconst 1, 1) := by decide +kernel
theorem dX14_takeCheck_48 : decode cX14_takeCheck 48 = .ok (.goto 4, 3) := by decide +kernel
theorem dX14_takeCheck_51 : decode cX14_takeCheck 51 = .ok (.iconst 0, 1) := by decide +kernel
theorem dX14_takeCheck_52 : decode cX14_takeCheck 52 = .ok (.bastore, 1) := by decide +kernel
theorem dX14_takeCheck_53 : decode cX14_takeCheck 53 = .ok (.aload_n 0, 1) := by decide +kernel
theorem dX14_takeCheck_54 : decode cX14_takeCheck 54 = .ok (.getfield 135, 3) := by decide +kernel
theorem dX14_takeCheck_57 : decode cX14_takeCheck 57 = .ok (.iload_n 1, 1) := by decide +kernel
theorem dX14_takeCheck_58 : decode cX14_takeCheck 58 = .ok (.aload_n 0, 1) := by decide +kernel
theorem dX14_takeCheck_59 : decode cX14_takeCheck 59 = .ok (.getfield 138, 3) := by decide +kernel
theorem dX14_takeCheck_62 : decode cX14_takeCheck 62 = .ok (.iload_n 1, 1) := by decide +kernel
theorem dX14_takeCheck_63 : decode cX14_takeCheck 63 = .ok (.baload, 1) := by decide +kernel
theorem dX14_takeCheck_64 : decode cX14_takeCheck 64 = .ok (.ifCond .eq 7, 3) := by decide +kernel
theorem dX14_takeCheck_67 : decode cX14_takeCheck 67 = .ok (.iconst 1, 1) := by decide +kernel
theorem dX14_takeCheck_68 : decode cX14_takeCheck 68 = .ok (.goto 9, 3) := by decide +kernel
theorem dX14_takeCheck_71 : decode cX14_takeCheck 71 = .ok (.aload_n 0, 1) := by decide +kernel
theorem dX14_takeCheck_72 : decode cX14_takeCheck 72 = .ok (.aload_n 2, 1) := by decide +kernel
theorem dX14_takeCheck_73 : decode cX14_takeCheck 73 = .ok (.iload_n 3, 1) := by decide +kernel
theorem dX14_takeCheck_74 : decode cX14_takeCheck 74 = .ok (.invokevirtual 789, 3) := by decide +kernel
theorem dX14_takeCheck_77 : decode cX14_takeCheck 77 = .ok (.iastore, 1) := by decide +kernel
theorem dX14_takeCheck_78 : decode cX14_takeCheck 78 = .ok (.return_, 1) := by decide +kernel
def EX14_takeCheck : List (Nat × Nat) := [(15, 5), (15, 7), (15, 10), (15, 11), (15, 15), (15, 18), (15, 21), (15, 30), (15, 31), (16, 70), (101, 0), (103, 0), (155, 0), (156, 0), (157, 0), (166, 0), (167, 0), (207, 0), (208, 0)]
def EX14_messageOf : List (Nat × Nat) := []
def qtx2547 : String := match tables_1[2547]? with | some (Jvm.Cond.stringRef _ _ t) => t | _ => ""
def qtx2543 : String := match tables_1[2543]? with | some (Jvm.Cond.stringRef _ _ t) => t | _ => ""
set_option maxHeartbeats 4000000 in
set_option maxRecDepth 20000 in
theorem uX14_takeCheck (l : Launch) (dC : Nat → ClassId) (dI : Nat → Nat → Nat) (ca : Nat → ClassId) (base : Nat) (B : jF) (hB : jBok B) (hAp : jAp (dC, dI)) (hB14 : ∀ n G a H, B 14 n G a H ↔ jOb (dC, dI) 14 11 (F14 n G) a H) (hB15 : ∀ n G a H, B 15 n G a H ↔ jOb (dC, dI) 15 50 (F15 n G) a H) (hB16 : ∀ n G a H, B 16 n G a H ↔ jOb (dC, dI) 16 74 (F16 n G) a H) (hB101 : ∀ n G a H, B 101 n G a H ↔ jAr (dC, dI) (ca 1) (fun j z => True) n a H) (hB103 : ∀ n G a H, B 103 n G a H ↔ jAr (dC, dI) (ca 3) (fun j z => (z = 0 ∨ z = 1)) n a H) (hB155 : ∀ n G a H, B 155 n G a H ↔ jAr (dC, dI) (ca 1) (fun j z => 0 ≤ z.toInt ∧ z.toInt ≤ 11990) n a H) (hB156 : ∀ n G a H, B 156 n G a H ↔ jAr (dC, dI) (ca 1) (fun j z => 0 ≤ z.toInt ∧ z.toInt ≤ 10) n a H) (hB157 : ∀ n G a H, B 157 n G a H ↔ jAr (dC, dI) (ca 1) (fun j z => 0 ≤ z.toInt ∧ z.toInt ≤ 1599) n a H) (hB166 : ∀ n G a H, B 166 n G a H ↔ jAr (dC, dI) (ca 1) (fun j z => True) n a H) (hB167 : ∀ n G a H, B 167 n G a H ↔ jAr (dC, dI) (ca 1) (fun j z => True) n a H) (hB190 : ∀ n G a H, B 190 n G a H ↔ jAr (dC, dI) (ca 1) (fun j z => 0 ≤ z.toInt ∧ z.toInt ≤ 1500) n a H) (hB191 : ∀ n G a H, B 191 n G a H ↔ jAr (dC, dI) (ca 1) (fun j z => 0 ≤ z.toInt ∧ z.toInt ≤ 1500) n a H) (hB192 : ∀ n G a H, B 192 n G a H ↔ jAr (dC, dI) (ca 1) (fun j z => 0 ≤ z.toInt ∧ z.toInt ≤ 2) n a H) (hB201 : ∀ n G a H, B 201 n G a H ↔ jAq (dC, dI) (ca 4) (jQs 14 0) n G a H) (hB202 : ∀ n G a H, B 202 n G a H ↔ jAq (dC, dI) (ca 4) (jQn 14 0) n G a H) (hB205 : ∀ n G a H, B 205 n G a H ↔ jAr (dC, dI) (ca 1) (fun j z => 0 ≤ z.toInt ∧ z.toInt ≤ 1600) n a H) (hB207 : ∀ n G a H, B 207 n G a H ↔ jAr (dC, dI) (ca 1) (fun j z => 0 ≤ z.toInt ∧ z.toInt ≤ 39) n a H) (hB208 : ∀ n G a H, B 208 n G a H ↔ jAq (dC, dI) (ca 4) (jQn 14 0) n G a H) (G0 : jT) (H0 : Heap) (r0 : Nat) (a1 : Int32) (dd : Nat) (dc : Int32) (co : Nat) (cs : Nat) (ol : Nat) (nw : Nat) (td : Nat) (sn ck : Nat → Int32) (fd fo : Nat → Option Nat) (fs : Nat → Int32) : Met l yX14_takeCheck (jw yX14_takeCheck cX14_takeCheck 4 none) ({ frames := 6, cells := 0, slots := 0, locals := 136 }) (va_Pc [.ref r0, .int a1] (fun U => U.heap = H0 ∧ jX B base G0 [] H0 ∧ jG dC dI ca base U ∧ jK2 dC dI ca U ∧ G0 r0 = some (16, 0) ∧ G0 dd = some (201, 3) ∧ G0 co = some (208, 2) ∧ G0 cs = some (207, 2) ∧ G0 ol = some (14, 0) ∧ G0 nw = some (14, 0) ∧ G0 td = some (14, 0) ∧ jP (dC, dI) G0 H0 [(r0, 16, 41, .ref dd), (r0, 16, 42, .int dc), (r0, 16, 60, .ref co), (r0, 16, 61, .ref cs), (r0, 16, 46, .ref ol), (r0, 16, 47, .ref nw), (r0, 16, 71, .ref td)] ∧ jMc (dC, dI) G0 H0 [(cs, 207, 2, ca 1, fs)] ∧ jIs (dC, dI) G0 H0 [(jFs, jDY dC dI ca G0 none sn), (jF9, jVl dC dI G0 9 ck), ([(201, 0)], jQc dC dI (ca 4) dd 3 fd), ([(208, 0)], jQc dC dI (ca 4) co 2 fo)] ∧ jPu sn ck fd fo fs dc.toInt ol nw td ∧ 0 ≤ a1.toInt ∧ a1.toInt ≤ 1)) (va_Qv (S := Unit) (fun u => True) (fun u t => (jRt (dC, dI) B base G0 EX14_takeCheck H0 [] t.heap) ∧ jDV dC dI ca G0 r0 dd co cs ol nw td t.heap) (jA base)) 0 0 (jA base) := by
  refine Met.ofW (cc := cX14_takeCheck) (maxL := 4) (ret := none) (by decide) rfl ?_
  intro p e s m args below meth c s₁ Bd hml hv
  obtain ⟨rfl, hH0, hX, hG, hK2, hg_r0, hg_dd, hg_co, hg_cs, hg_ol, hg_nw, hg_td, hP0, hM0, hI0, hp0, hp1, hp2⟩ := hv
  have hK := hG.1
  have hx := Bd.exec
  have hb := Bd.bytes
  have hr := Bd.returns
  have hts := atoms_spec (ws := (jw yX14_takeCheck cX14_takeCheck 4 none)) Bd.pre
  have htw : ∀ w ∈ jWl, w.before _ s = true := fun w h => hts w (List.mem_cons_of_mem _ h)
  have hown : s.vm.findClass RX14 = some m.cls := findClass_of_methodNamed Bd.named
  have hlocks := Bd.notSynchronized
  obtain ⟨Q, hQ⟩ : ∃ Q, Q = MQ below (va_Qv (S := Unit) (fun u => True) (fun u t => (jRt (dC, dI) B base G0 EX14_takeCheck H0 [] t.heap) ∧ jDV dC dI ca G0 r0 dd co cs ol nw td t.heap) (jA base)) ([.ref r0, .int a1] : List Value).toArray s 0 0 (jA base) := ⟨_, rfl⟩
  rw [← hQ]
  have hl := lv_entry ([.ref r0, .int a1]) (n := 4) (Nat.le_of_ble_eq_true rfl)
  rw [lg_entry_eq]
  generalize (lg_sl ([.ref r0, .int a1]) ++ List.replicate (4 - (lg_sl ([.ref r0, .int a1])).length) Slot.unset).toArray = ls at hl ⊢
  have hl : lv_has ls 4 [(0, .ref r0), (1, .int a1)] := hl
  generalize hR : (headSpec (jw yX14_takeCheck cX14_takeCheck 4 none) ({ frames := 6, cells := 0, slots := 0, locals := 136 })).room = R
  subst hH0
  have hh : jSt (dC, dI) B base G0 G0 EX14_takeCheck s.heap 0 0 [(r0, 16, 41, .ref dd), (r0, 16, 42, .int dc), (r0, 16, 60, .ref co), (r0, 16, 61, .ref cs), (r0, 16, 46, .ref ol), (r0, 16, 47, .ref nw), (r0, 16, 71, .ref td)] [(cs, 207, 2, ca 1, fs)] [(jFs, jDY dC dI ca G0 none sn), (jF9, jVl dC dI G0 9 ck), ([(201, 0)], jQc dC dI (ca 4) dd 3 fd), ([(208, 0)], jQc dC dI (ca 4) co 2 fo)] s.heap [] := jSt.start hX hP0 hM0 hI0
  clear hX hP0
  have hk0 : (0 : Int32).toInt = 0 := by decide
  have hk1 : (1 : Int32).toInt = 1 := by decide
  have hly_14_9 := htw (u_lay RX12 TX12 9) (jWc_wsX120 _ (u_in_lay (by decide)))
  have hly_16_60 := htw (u_lay RX14 TX14 60) (jWc_wsX140 _ (u_in_lay (by decide)))
  have hly_16_61 := htw (u_lay RX14 TX14 61) (jWc_wsX140 _ (u_in_lay (by decide)))
  have hly_16_62 := htw (u_lay RX14 TX14 62) (jWc_wsX140 _ (u_in_lay (by decide)))
  have hly_16_63 := htw (u_lay RX14 TX14 63) (jWc_wsX140 _ (u_in_lay (by decide)))
  have hlk_531 := (va_Nw.use (A := ([.ref r0, .int a1] : List Value).toArray) rfl (hG.2.1 RX14 531 "ProofServerModel$Document" "checked" "I" "ProofServerModel" (List.mem_of_getElem? (i := 1744) (by decide +kernel))))
  have hlk_129 := (htw (.fieldLink RX14 129 "ProofServerModel" "checkOf" "[LProofServerModel$Document;") (jWr_12 _ (List.mem_of_getElem? (i := 15) rfl)))
  have hlk_132 := (htw (.fieldLink RX14 132 "ProofServerModel" "checkSentence" "[I") (jWr_12 _ (List.mem_of_getElem? (i := 16) rfl)))
  have hlk_138 := (htw (.fieldLink RX14 138 "ProofServerModel" "checkCached" "[Z") (jWr_12 _ (List.mem_of_getElem? (i := 18) rfl)))
  have hlk_135 := (htw (.fieldLink RX14 135 "ProofServerModel" "checkLeft" "[I") (jWr_12 _ (List.mem_of_getElem? (i := 17) rfl)))
  have hrg_a1 := jb_rng a1
  refine lv_aload_n hx hb dX14_takeCheck_0 rfl (lv_at hl 0 rfl) ?_
  refine j_callx (A0 := jA base) (H0 := s.heap) (va_runV (As := []) (rest := []) ⟨hx, hb, hml, hown, hts⟩ (uX14_nextDocumentK l dC dI ca base B hB hAp hB14 hB16 hB201 hB202 hB208 G0 s.heap r0 dd dc co cs ol nw td sn ck fd fo fs) (cwV 0 hts (jgV (jWr_89 _ (List.mem_of_getElem? (i := 20) rfl)) (jWr_89 _ (List.mem_of_getElem? (i := 21) rfl)) (jWr_89 _ (List.mem_of_getElem? (i := 22) rfl)) (jWr_1 _ (List.mem_of_getElem? (i := 5) rfl)) (jWr_89 _ (List.mem_of_getElem? (i := 23) rfl))) rfl rfl rfl (by decide +kernel) ⟨by rw [← hR]; exact Nat.le_of_ble_eq_true rfl, by rw [← hR]; exact Nat.le_of_ble_eq_true rfl⟩) ⟨fun a U g mk q => by obtain ⟨q0, q1, q2, qK, q10, q11, q12, q13, q14, q15, q16, q17, q18, q19, q20, q21⟩ := q; exact ⟨q0, q1, q2, jG.calling g mk a qK, (va_K.moved (Vm.Alike.refl U.vm) q10), q11, q12, q13, q14, q15, q16, q17, q18, q19, q20, q21⟩, hh.recv (C := RX14) (T := TX14) (N := 74) hB16 rfl (by decide) hg_r0 hK, fun U hU hW => ⟨rfl, hU, hh.2.1, hG.step hW hU hh.1, va_K.moved hW.alike hK2, hg_r0, hg_dd, hg_co, hg_cs, hg_ol, hg_nw, hg_td, (hh.2.2.1.sub (L1 := [(r0, 16, 41, .ref dd), (r0, 16, 42, .int dc), (r0, 16, 60, .ref co), (r0, 16, 61, .ref cs), (r0, 16, 46, .ref ol), (r0, 16, 47, .ref nw), (r0, 16, 71, .ref td)]) [0, 1, 2, 3, 4, 5, 6] rfl), (hh.2.2.2.2.2.2.2.1.sub (L1 := [(cs, 207, 2, ca 1, fs)]) [0] rfl), (hh.2.2.2.2.2.2.2.2.sub (L1 := [(jFs, jDY dC dI ca G0 none sn), (jF9, jVl dC dI G0 9 ck), ([(201, 0)], jQc dC dI (ca 4) dd 3 fd), ([(208, 0)], jQc dC dI (ca 4) co 2 fo)]) [0, 1, 2, 3] rfl), by first | omega | rfl | assumption | decide | exact Or.inl rfl | exact Or.inr rfl | (simp only; omega)⟩⟩ rfl rfl hl.1 rfl (lv_room (Nat.le_of_ble_eq_true rfl)) dX14_takeCheck_1 ⟨Nat.zero_le _, Nat.zero_le _⟩) hh.1 (fun q _ h => h) (fun q h => h) (fun r_2 u_1 t_1 H_1 locs_1 ht_1 hvm_1 hr_2 hb_1 hz_1 hk_1 hS_1 => ?_)
  rw [ht_1] at hb_1
  obtain ⟨hb_11, hb_12, hb_13, hb_14, hb_15⟩ := hb_1
  have hh_1 : jSt (dC, dI) B base G0 G0 EX14_takeCheck s.heap 0 0 [(r0, 16, 41, .ref dd), (r0, 16, 42, .int dc), (r0, 16, 60, .ref co), (r0, 16, 61, .ref cs), (r0, 16, 46, .ref ol), (r0, 16, 47, .ref nw), (r0, 16, 71, .ref td)] [(cs, 207, 2, ca 1, fs)] [(jFs, jDY dC dI ca G0 none sn), (jF9, jVl dC dI G0 9 ck), ([(201, 0)], jQc dC dI (ca 4) dd 3 fd), ([(208, 0)], jQc dC dI (ca 4) co 2 fo)] H_1 locs_1 := ((hh.call hb_11 hb_12 hb_13 hb_14 hS_1 rfl (L1 := [(r0, 16, 41, .ref dd), (r0, 16, 42, .int dc), (r0, 16, 60, .ref co), (r0, 16, 61, .ref cs), (r0, 16, 46, .ref ol), (r0, 16, 47, .ref nw), (r0, 16, 71, .ref td)]) [0, 1, 2, 3, 4, 5, 6] rfl rfl (M1 := [(cs, 207, 2, ca 1, fs)]) [0] rfl rfl (I1 := [(jFs, jDY dC dI ca G0 none sn), (jF9, jVl dC dI G0 9 ck), ([(201, 0)], jQc dC dI (ca 4) dd 3 fd), ([(208, 0)], jQc dC dI (ca 4) co 2 fo)]) [0, 1, 2, 3] rfl rfl).more hb_15)
  clear hh ht_1 hvm_1 hz_1 hk_1 hS_1 hb_11 hb_12 hb_13 hb_14 hb_15
  rcases hr_2 with rfl | ⟨ret_3, rfl, hg_ret_3, hp_ret_3⟩
  · skip
    refine j7_nst_n (lv' := [(2, .null), (0, .ref r0), (1, .int a1)]) hx hb dX14_takeCheck_4 rfl hl (by decide) rfl (fun ls hl => ?_)
    refine j7_nld_n hx hb dX14_takeCheck_5 rfl (lv_at hl 0 rfl) ?_
    refine lv_ifnonnullN hx hb dX14_takeCheck_6 ?_
    rw [hQ]
    exact W.vret hx hb hr (fun t ht hW => ⟨⟨(), rfl, trivial, ⟨hh_1.rt (M1 := []) [] rfl ht, by rw [ht]; exact ⟨sn, ck, fs, fd, fo, dc, hh_1.2.2.1.sub (L1 := [(r0, 16, 41, .ref dd), (r0, 16, 42, .int dc), (r0, 16, 60, .ref co), (r0, 16, 61, .ref cs), (r0, 16, 46, .ref ol), (r0, 16, 47, .ref nw), (r0, 16, 71, .ref td)]) [0, 1, 2, 3, 4, 5, 6] rfl, hh_1.2.2.2.2.2.2.2.1.sub (L1 := [(cs, 207, 2, ca 1, fs)]) [0] rfl, hh_1.2.2.2.2.2.2.2.2.sub (L1 := [(jFs, jDY dC dI ca G0 none sn), (jF9, jVl dC dI G0 9 ck), ([(201, 0)], jQc dC dI (ca 4) dd 3 fd), ([(208, 0)], jQc dC dI (ca 4) co 2 fo)]) [0, 1, 2, 3] rfl, hp0⟩⟩⟩, by rw [ht]; try exact hh_1.1.1, fun q h9 hq => by rw [ht]; try exact hh_1.1.2.1 q h9 hq⟩) hh_1.1.2.2 dX14_takeCheck_9
  · skip
    refine lv_astore_n (lv' := [(2, .ref ret_3), (0, .ref r0), (1, .int a1)]) hx hb dX14_takeCheck_4 rfl hl (by decide) rfl (fun ls hl => ?_)
    refine lv_aload_n hx hb dX14_takeCheck_5 rfl (lv_at hl 0 rfl) ?_
    refine lv_ifnonnull (tgt := 10) hx hb dX14_takeCheck_6 (by decide) ?_
    obtain ⟨yb_4, ye_4, fb_4, fe_4, hg_yb_4, hg_ye_4, hP_4, hM_4, hs_4, h0_4, h4_4⟩ := jDY.at (hh_1.iv 0 rfl) hg_ret_3 (fun q => by cases q)
    have hh_5 := (hh_1.more hP_4).moreM hM_4
    clear hh_1 hP_4 hM_4
    have hh_6 := hh_5.more (jVl.at (hh_5.iv 1 rfl) hg_ret_3)
    clear hh_5
    obtain ⟨sx_7, esx_7, hsx_7⟩ := hh_6.sat (C := RX12) (T := TX12) (N := 11) hB14 rfl (by decide) hg_ret_3 (i := 9) (by decide) rfl 0 rfl
    cases esx_7
    refine lv_aload_n hx hb dX14_takeCheck_10 rfl (lv_at hl 0 rfl) ?_
    obtain ⟨d0, hd0, hd1, hd2, hd3⟩ := hp_ret_3
    have hck := hp0.2.2.1 d0 _ hd0 hd2
    refine j7_readN hx hb hown hK (C := RX12) (T := TX12) (N := 11) rfl hly_14_9 hlk_531 (hh_6.at 0 rfl) dX14_takeCheck_11 ?_
    refine lv_istore_n (lv' := [(3, .int (ck ret_3)), (2, .ref ret_3), (0, .ref r0), (1, .int a1)]) hx hb dX14_takeCheck_14 rfl hl (by decide) rfl (fun ls hl => ?_)
    refine lv_aload_n hx hb dX14_takeCheck_15 rfl (lv_at hl 2 rfl) ?_
    refine j7_read hx hb hown hK (C := RX14) (T := TX14) (N := 74) rfl hly_16_60 hlk_129 (hh_6.at 6 rfl) dX14_takeCheck_16 ?_
    refine lv_iload_n hx hb dX14_takeCheck_19 rfl (lv_at hl 3 rfl) ?_
    refine lv_aload_n hx hb dX14_takeCheck_20 rfl (lv_at hl 1 rfl) ?_
    have hd_9 := hh_6.iv 3 rfl
    have hh_11 := hh_6.sub (L1 := [(ret_3, 14, 9, .int (ck ret_3)), (ret_3, 14, 6, .ref yb_4), (ret_3, 14, 7, .ref ye_4), (ret_3, 14, 5, .int (sn ret_3)), (r0, 16, 41, .ref dd), (r0, 16, 42, .int dc), (r0, 16, 60, .ref co), (r0, 16, 61, .ref cs), (r0, 16, 46, .ref ol), (r0, 16, 47, .ref nw), (r0, 16, 71, .ref td)]) [0, 1, 2, 3, 4, 5, 6, 7, 8, 9, 10] rfl (M1 := [(yb_4, 190, 40, ca 1, fb_4), (ye_4, 191, 40, ca 1, fe_4), (cs, 207, 2, ca 1, fs)]) [0, 1, 2] rfl (I1 := [(jFs, jDY dC dI ca G0 none sn), (jF9, jVl dC dI G0 9 ck), ([(201, 0)], jQc dC dI (ca 4) dd 3 fd)]) [0, 1, 2] rfl
    clear hh_6
    refine j7_qastI hx hb hK2 hh_11 hB hB208 0 rfl (by decide) (by decide) rfl rfl rfl hg_co (x := a1.toInt) (rfl) (by omega) hB14 (T := TX12) (N := 11) rfl (by decide) hg_ret_3 (Or.inr ⟨_, rfl, hg_ret_3⟩) hd_9 dX14_takeCheck_21 (fun H_8 locs_8 fq_10 hv_8 ho_8 hq_8 hh_8 => ?_)
    clear hh_11
    have hh_12 := hh_8.addI (hq_8.ie hg_co (by decide) (by decide))
    clear hh_8
    clear hd_9
    refine lv_aload_n hx hb dX14_takeCheck_22 rfl (lv_at hl 2 rfl) ?_
    refine j7_read hx hb hown hK (C := RX14) (T := TX14) (N := 74) rfl hly_16_61 hlk_132 (hh_12.at 7 rfl) dX14_takeCheck_23 ?_
    refine lv_iload_n hx hb dX14_takeCheck_26 rfl (lv_at hl 3 rfl) ?_
    refine lv_iload_n hx hb dX14_takeCheck_27 rfl (lv_at hl 0 rfl) ?_
    refine j7_iastU hx hb hK hh_12 hB hB207 1 rfl (by decide) (by decide) rfl 2 rfl (M1 := [(yb_4, 190, 40, ca 1, fb_4), (ye_4, 191, 40, ca 1, fe_4)]) [0, 1] rfl rfl rfl hg_cs (x := a1.toInt) (rfl) (by omega) (by first | omega | (refine ⟨?_, ?_⟩ <;> (first | omega | rfl | assumption | decide | exact Or.inl rfl | exact Or.inr rfl | (simp only; omega)))) dX14_takeCheck_28 (fun H_13 locs_13 fs_14 hv_13 ho_13 hh_13 => ?_)
    have hv_13 : jSo fs_14 (a1.toInt) = (ck ret_3).toInt := by unfold jSo; rw [hv_13]; try exact rfl
    clear hh_12
    refine lv_aload_n hx hb dX14_takeCheck_29 rfl (lv_at hl 2 rfl) ?_
    refine lv_aload_n hx hb dX14_takeCheck_30 rfl (lv_at hl 1 rfl) ?_
    refine lv_iload_n hx hb dX14_takeCheck_31 rfl (lv_at hl 0 rfl) ?_
    refine va_callv (A0 := jA base) (H0 := s.heap) (va_runV (As := [.ref ret_3, .int (ck ret_3)]) (rest := []) ⟨hx, hb, hml, hown, hts⟩ (uX14_takeRow l dC dI ca base B hB hAp hB14 hB16 hB101 hB190 hB191 G0 H_13 r0 ret_3 (ck ret_3) yb_4 ye_4 (sn ret_3).toInt fb_4 fe_4) (cwV 2 hts (jgV (jWr_90 _ (List.mem_of_getElem? (i := 13) rfl)) (jWr_90 _ (List.mem_of_getElem? (i := 14) rfl)) (jWr_90 _ (List.mem_of_getElem? (i := 15) rfl)) (jWr_1 _ (List.mem_of_getElem? (i := 5) rfl)) (jWr_90 _ (List.mem_of_getElem? (i := 16) rfl))) rfl rfl rfl (by decide +kernel) ⟨by rw [← hR]; exact Nat.le_of_ble_eq_true rfl, by rw [← hR]; exact Nat.le_of_ble_eq_true rfl⟩) ⟨fun a U g mk q => by obtain ⟨q0, q1, q2, qK, q10, q11, q12, q13, q14, q15, q16⟩ := q; exact ⟨q0, q1, q2, jG.calling g mk a qK, q10, q11, q12, q13, q14, q15, q16⟩, hh_13.recv (C := RX14) (T := TX14) (N := 74) hB16 rfl (by decide) hg_r0 hK, fun U hU hW => ⟨rfl, hU, hh_13.2.1, hG.step hW hU hh_13.1, hg_ret_3, hg_r0, hg_yb_4, hg_ye_4, (hh_13.2.2.1.sub (L1 := [(ret_3, 14, 6, .ref yb_4), (ret_3, 14, 7, .ref ye_4)]) [1, 2] rfl), (hh_13.2.2.2.2.2.2.2.1.sub (L1 := [(yb_4, 190, 40, ca 1, fb_4), (ye_4, 191, 40, ca 1, fe_4)]) [1, 2] rfl), by first | omega | (refine ⟨?_, ?_, ?_, ?_⟩ <;> (first | omega | rfl | assumption | decide | exact Or.inl rfl | exact Or.inr rfl | (simp only; omega)))⟩⟩ rfl rfl hl.1 rfl (lv_room (Nat.le_of_ble_eq_true rfl)) dX14_takeCheck_32 ⟨Nat.zero_le _, Nat.zero_le _⟩) hh_13.1 (fun q _ h => h) (fun q h => h) (fun u_15 t_15 H_15 locs_15 ht_15 hvm_15 hr_16 hb_15 hz_15 hk_15 hS_15 => ?_)
    rw [ht_15] at hb_15
    obtain ⟨hb_151, hb_152, hb_153, hb_154, hb_155⟩ := hb_15
    have hh_15 : jSt (dC, dI) B base G0 G0 EX14_takeCheck s.heap 0 0 [(ret_3, 14, 9, .int (ck ret_3)), (ret_3, 14, 6, .ref yb_4), (ret_3, 14, 7, .ref ye_4), (ret_3, 14, 5, .int (sn ret_3)), (r0, 16, 41, .ref dd), (r0, 16, 42, .int dc), (r0, 16, 60, .ref co), (r0, 16, 61, .ref cs), (r0, 16, 46, .ref ol), (r0, 16, 47, .ref nw), (r0, 16, 71, .ref td)] [(cs, 207, 2, ca 1, fs_14), (yb_4, 190, 40, ca 1, fb_4), (ye_4, 191, 40, ca 1, fe_4)] [([(208, 0)], jQc dC dI (ca 4) co 2 fq_10), (jFs, jDY dC dI ca G0 none sn), (jF9, jVl dC dI G0 9 ck), ([(201, 0)], jQc dC dI (ca 4) dd 3 fd)] H_15 locs_15 := ((hh_13.call hb_151 hb_152 hb_153 hb_154 hS_15 rfl (L1 := [(ret_3, 14, 9, .int (ck ret_3)), (ret_3, 14, 6, .ref yb_4), (ret_3, 14, 7, .ref ye_4), (ret_3, 14, 5, .int (sn ret_3)), (r0, 16, 41, .ref dd), (r0, 16, 42, .int dc), (r0, 16, 60, .ref co), (r0, 16, 61, .ref cs), (r0, 16, 46, .ref ol), (r0, 16, 47, .ref nw), (r0, 16, 71, .ref td)]) [0, 1, 2, 3, 4, 5, 6, 7, 8, 9, 10] rfl rfl (M1 := [(cs, 207, 2, ca 1, fs_14), (yb_4, 190, 40, ca 1, fb_4), (ye_4, 191, 40, ca 1, fe_4)]) [0, 1, 2] rfl rfl (I1 := [([(208, 0)], jQc dC dI (ca 4) co 2 fq_10), (jFs, jDY dC dI ca G0 none sn), (jF9, jVl dC dI G0 9 ck), ([(201, 0)], jQc dC dI (ca 4) dd 3 fd)]) [0, 1, 2, 3] rfl rfl).more hb_155)
    clear hh_13 ht_15 hvm_15 hz_15 hk_15 hS_15 hb_151 hb_152 hb_153 hb_154 hb_155
    refine lv_aload_n hx hb dX14_takeCheck_35 rfl (lv_at hl 2 rfl) ?_
    obtain ⟨v_17, hv_17, hh_18⟩ := hh_15.pin (C := RX14) (T := TX14) (N := 74) hB16 rfl (by decide) hg_r0 (i := 63) (by decide) rfl
    clear hh_15
    obtain ⟨checkCached_19, rfl, hg_checkCached_19⟩ := hv_17
    refine j7_read hx hb hown hK (C := RX14) (T := TX14) (N := 74) rfl hly_16_63 hlk_138 (hh_18.at 0 rfl) dX14_takeCheck_36 ?_
    refine lv_iload_n hx hb dX14_takeCheck_39 rfl (lv_at hl 3 rfl) ?_
    refine lv_aload_n hx hb dX14_takeCheck_40 rfl (lv_at hl 2 rfl) ?_
    obtain ⟨v_22, hv_22, hh_23⟩ := hh_18.pin (C := RX14) (T := TX14) (N := 74) hB16 rfl (by decide) hg_r0 (i := 66) (by decide) rfl
    obtain ⟨cached_24, rfl, hlocached_24, hhicached_24⟩ := hv_22
    refine va_calli (A0 := jA base) (H0 := s.heap) (va_runV (As := []) (rest := [.int a1, .ref checkCached_19]) ⟨hx, hb, hml, hown, hts⟩ (uX14_inCache l dC dI ca base B hB hAp hB16 hB101 hB205 G0 H_15 r0 cached_24) (cwV 0 hts (jgV (jWr_90 _ (List.mem_of_getElem? (i := 18) rfl)) (jWr_90 _ (List.mem_of_getElem? (i := 19) rfl)) (jWr_90 _ (List.mem_of_getElem? (i := 20) rfl)) (jWr_1 _ (List.mem_of_getElem? (i := 5) rfl)) (jWr_90 _ (List.mem_of_getElem? (i := 21) rfl))) rfl rfl rfl (by decide +kernel) ⟨by rw [← hR]; exact Nat.le_of_ble_eq_true rfl, by rw [← hR]; exact Nat.le_of_ble_eq_true rfl⟩) ⟨fun a U g mk q => by obtain ⟨q0, q1, q2, qK, q10, q11, q12⟩ := q; exact ⟨q0, q1, q2, jG.calling g mk a qK, q10, q11, q12⟩, hh_23.recv (C := RX14) (T := TX14) (N := 74) hB16 rfl (by decide) hg_r0 hK, fun U hU hW => ⟨rfl, hU, hh_23.2.1, hG.step hW hU hh_23.1, hg_r0, (hh_23.2.2.1.sub (L1 := [(r0, 16, 66, .int cached_24)]) [0] rfl), by first | omega | (refine ⟨?_, ?_⟩ <;> (first | omega | rfl | assumption | decide | exact Or.inl rfl | exact Or.inr rfl | (simp only; omega)))⟩⟩ rfl rfl hl.1 rfl (lv_room (Nat.le_of_ble_eq_true rfl)) dX14_takeCheck_41 ⟨Nat.zero_le _, Nat.zero_le _⟩) hh_23.1 (fun q _ h => h) (fun q h => h) (fun r_21 u_20 t_20 H_20 locs_20 ht_20 hvm_20 hr_21 hb_20 hz_20 hk_20 hS_20 => ?_)
    rw [ht_20] at hb_20
    obtain ⟨hb_201, hb_202, hb_203, hb_204, hb_205⟩ := hb_20
    have hh_20 : jSt (dC, dI) B base G0 G0 EX14_takeCheck s.heap 0 0 [(r0, 16, 66, .int cached_24), (r0, 16, 63, .ref checkCached_19), (ret_3, 14, 9, .int (ck ret_3)), (ret_3, 14, 6, .ref yb_4), (ret_3, 14, 7, .ref ye_4), (ret_3, 14, 5, .int (sn ret_3)), (r0, 16, 41, .ref dd), (r0, 16, 42, .int dc), (r0, 16, 60, .ref co), (r0, 16, 61, .ref cs), (r0, 16, 46, .ref ol), (r0, 16, 47, .ref nw), (r0, 16, 71, .ref td)] [(cs, 207, 2, ca 1, fs_14), (yb_4, 190, 40, ca 1, fb_4), (ye_4, 191, 40, ca 1, fe_4)] [([(208, 0)], jQc dC dI (ca 4) co 2 fq_10), (jFs, jDY dC dI ca G0 none sn), (jF9, jVl dC dI G0 9 ck), ([(201, 0)], jQc dC dI (ca 4) dd 3 fd)] H_20 locs_20 := ((hh_23.call hb_201 hb_202 hb_203 hb_204 hS_20 rfl (L1 := [(r0, 16, 66, .int cached_24), (r0, 16, 63, .ref checkCached_19), (ret_3, 14, 9, .int (ck ret_3)), (ret_3, 14, 6, .ref yb_4), (ret_3, 14, 7, .ref ye_4), (ret_3, 14, 5, .int (sn ret_3)), (r0, 16, 41, .ref dd), (r0, 16, 42, .int dc), (r0, 16, 60, .ref co), (r0, 16, 61, .ref cs), (r0, 16, 46, .ref ol), (r0, 16, 47, .ref nw), (r0, 16, 71, .ref td)]) [0, 1, 2, 3, 4, 5, 6, 7, 8, 9, 10, 11, 12] rfl rfl (M1 := [(cs, 207, 2, ca 1, fs_14), (yb_4, 190, 40, ca 1, fb_4), (ye_4, 191, 40, ca 1, fe_4)]) [0, 1, 2] rfl rfl (I1 := [([(208, 0)], jQc dC dI (ca 4) co 2 fq_10), (jFs, jDY dC dI ca G0 none sn), (jF9, jVl dC dI G0 9 ck), ([(201, 0)], jQc dC dI (ca 4) dd 3 fd)]) [0, 1, 2, 3] rfl rfl).more hb_205)
    clear hh_23 ht_20 hvm_20 hz_20 hk_20 hS_20 hb_201 hb_202 hb_203 hb_204 hb_205
    obtain ⟨hr_21_0, hr_21_1, hr_21_2⟩ := hr_21
    refine lv_if_lt (tgt := 51) hx hb dX14_takeCheck_44 (by decide) (fun c_25 => ?_) (fun c_25 => ?_)
    · skip
      have c_25' : r_21.toInt < 0 := jb_lt (rfl) ((by decide)) c_25
      first | (have hr_21_2q := hr_21_2.resolve_left (by omega); clear hr_21_2) | (have hr_21_2q := hr_21_2.resolve_right (by omega); clear hr_21_2) | try clear hr_21_2
      refine lv_iconst (v := 0) hx hb dX14_takeCheck_51 (by decide) ?_
      refine j7_zast hx hb hK hh_20 hB hB103 3 rfl (by decide) (by decide) rfl rfl rfl hg_checkCached_19 (x := a1.toInt) (rfl) (by omega) (Or.inl rfl) (Or.inl rfl) dX14_takeCheck_52 (fun H_26 locs_26 hh_26 => ?_)
      clear hh_20
      refine lv_aload_n hx hb dX14_takeCheck_53 rfl (lv_at hl 2 rfl) ?_
      obtain ⟨v_27, hv_27, hh_28⟩ := hh_26.pin (C := RX14) (T := TX14) (N := 74) hB16 rfl (by decide) hg_r0 (i := 62) (by decide) rfl
      clear hh_26
      obtain ⟨checkLeft_29, rfl, hg_checkLeft_29⟩ := hv_27
      refine j7_read hx hb hown hK (C := RX14) (T := TX14) (N := 74) rfl hly_16_62 hlk_135 (hh_28.at 0 rfl) dX14_takeCheck_54 ?_
      refine lv_iload_n hx hb dX14_takeCheck_57 rfl (lv_at hl 3 rfl) ?_
      refine lv_aload_n hx hb dX14_takeCheck_58 rfl (lv_at hl 2 rfl) ?_
      refine j7_read hx hb hown hK (C := RX14) (T := TX14) (N := 74) rfl hly_16_63 hlk_138 (hh_28.at 2 rfl) dX14_takeCheck_59 ?_
      refine lv_iload_n hx hb dX14_takeCheck_62 rfl (lv_at hl 3 rfl) ?_
      refine j7_zald hx hb hK hh_28 hB103 3 rfl (by decide) hg_checkCached_19 (x := a1.toInt) (rfl) (by omega) dX14_takeCheck_63 (fun z_30 (hz_30 : (z_30 = 0 ∨ z_30 = 1)) => ?_)
      have hz_30' := jb_01 hz_30
      refine lv_if_eq (tgt := 71) hx hb dX14_takeCheck_64 (by decide) (fun c_31 => ?_) (fun c_31 => ?_)
      · skip
        have c_31' : z_30.toInt = 0 := jb_eq (rfl) ((by decide)) c_31
        refine lv_aload_n hx hb dX14_takeCheck_71 rfl (lv_at hl 2 rfl) ?_
        refine lv_aload_n hx hb dX14_takeCheck_72 rfl (lv_at hl 1 rfl) ?_
        refine lv_iload_n hx hb dX14_takeCheck_73 rfl (lv_at hl 0 rfl) ?_
        refine va_calli (A0 := jA base) (H0 := s.heap) (va_runV (As := [.ref ret_3, .int (ck ret_3)]) (rest := [.int a1, .ref checkLeft_29]) ⟨hx, hb, hml, hown, hts⟩ (uX14_costOf l dC dI ca base B hB hAp hB14 hB15 hB16 hB101 hB155 hB156 hB157 hB166 hB167 hB190 hB191 hB192 G0 H_26 r0 ret_3 (ck ret_3) yb_4 ye_4 (sn ret_3).toInt fb_4 fe_4) (cwV 2 hts (jgV (jWr_90 _ (List.mem_of_getElem? (i := 23) rfl)) (jWr_91 _ (List.mem_of_getElem? (i := 0) rfl)) (jWr_91 _ (List.mem_of_getElem? (i := 1) rfl)) (jWr_1 _ (List.mem_of_getElem? (i := 5) rfl)) (jWr_91 _ (List.mem_of_getElem? (i := 2) rfl))) rfl rfl rfl (by decide +kernel) ⟨by rw [← hR]; exact Nat.le_of_ble_eq_true rfl, by rw [← hR]; exact Nat.le_of_ble_eq_true rfl⟩) ⟨fun a U g mk q => by obtain ⟨q0, q1, q2, qK, q10, q11, q12, q13, q14, q15, q16⟩ := q; exact ⟨q0, q1, q2, jG.calling g mk a qK, q10, q11, q12, q13, q14, q15, q16⟩, hh_28.recv (C := RX14) (T := TX14) (N := 74) hB16 rfl (by decide) hg_r0 hK, fun U hU hW => ⟨rfl, hU, hh_28.2.1, hG.step hW hU hh_28.1, hg_ret_3, hg_r0, hg_yb_4, hg_ye_4, (hh_28.2.2.1.sub (L1 := [(ret_3, 14, 6, .ref yb_4), (ret_3, 14, 7, .ref ye_4)]) [4, 5] rfl), (hh_28.2.2.2.2.2.2.2.1.sub (L1 := [(yb_4, 190, 40, ca 1, fb_4), (ye_4, 191, 40, ca 1, fe_4)]) [1, 2] rfl), by first | omega | (refine ⟨?_, ?_, ?_, ?_⟩ <;> (first | omega | rfl | assumption | decide | exact Or.inl rfl | exact Or.inr rfl | (simp only; omega)))⟩⟩ rfl rfl hl.1 rfl (lv_room (Nat.le_of_ble_eq_true rfl)) dX14_takeCheck_74 ⟨Nat.zero_le _, Nat.zero_le _⟩) hh_28.1 (fun q _ h => h) (fun q h => h) (fun r_33 u_32 t_32 H_32 locs_32 ht_32 hvm_32 hr_33 hb_32 hz_32 hk_32 hS_32 => ?_)
        rw [ht_32] at hb_32
        obtain ⟨hb_321, hb_322, hb_323, hb_324, hb_325⟩ := hb_32
        have hh_32 : jSt (dC, dI) B base G0 G0 EX14_takeCheck s.heap 0 0 [(r0, 16, 62, .ref checkLeft_29), (r0, 16, 66, .int cached_24), (r0, 16, 63, .ref checkCached_19), (ret_3, 14, 9, .int (ck ret_3)), (ret_3, 14, 6, .ref yb_4), (ret_3, 14, 7, .ref ye_4), (ret_3, 14, 5, .int (sn ret_3)), (r0, 16, 41, .ref dd), (r0, 16, 42, .int dc), (r0, 16, 60, .ref co), (r0, 16, 61, .ref cs), (r0, 16, 46, .ref ol), (r0, 16, 47, .ref nw), (r0, 16, 71, .ref td)] [(cs, 207, 2, ca 1, fs_14), (yb_4, 190, 40, ca 1, fb_4), (ye_4, 191, 40, ca 1, fe_4)] [([(208, 0)], jQc dC dI (ca 4) co 2 fq_10), (jFs, jDY dC dI ca G0 none sn), (jF9, jVl dC dI G0 9 ck), ([(201, 0)], jQc dC dI (ca 4) dd 3 fd)] H_32 locs_32 := ((hh_28.call hb_321 hb_322 hb_323 hb_324 hS_32 rfl (L1 := [(r0, 16, 62, .ref checkLeft_29), (r0, 16, 66, .int cached_24), (r0, 16, 63, .ref checkCached_19), (ret_3, 14, 9, .int (ck ret_3)), (ret_3, 14, 6, .ref yb_4), (ret_3, 14, 7, .ref ye_4), (ret_3, 14, 5, .int (sn ret_3)), (r0, 16, 41, .ref dd), (r0, 16, 42, .int dc), (r0, 16, 60, .ref co), (r0, 16, 61, .ref cs), (r0, 16, 46, .ref ol), (r0, 16, 47, .ref nw), (r0, 16, 71, .ref td)]) [0, 1, 2, 3, 4, 5, 6, 7, 8, 9, 10, 11, 12, 13] rfl rfl (M1 := [(cs, 207, 2, ca 1, fs_14), (yb_4, 190, 40, ca 1, fb_4), (ye_4, 191, 40, ca 1, fe_4)]) [0, 1, 2] rfl rfl (I1 := [([(208, 0)], jQc dC dI (ca 4) co 2 fq_10), (jFs, jDY dC dI ca G0 none sn), (jF9, jVl dC dI G0 9 ck), ([(201, 0)], jQc dC dI (ca 4) dd 3 fd)]) [0, 1, 2, 3] rfl rfl).more hb_325)
        clear hh_28 ht_32 hvm_32 hz_32 hk_32 hS_32 hb_321 hb_322 hb_323 hb_324 hb_325
        refine j7_iast hx hb hK hh_32 hB hB101 1 rfl (by decide) (by decide) rfl rfl rfl hg_checkLeft_29 (x := a1.toInt) (rfl) (by omega) (trivial) dX14_takeCheck_77 (fun H_34 locs_34 hh_34 => ?_)
        clear hh_32
        rw [hQ]
        exact W.vret hx hb hr (fun t ht hW => ⟨⟨(), rfl, trivial, ⟨hh_34.rt (M1 := []) [] rfl ht, by rw [ht]; exact ⟨sn, ck, fs_14, fd, fq_10, dc, hh_34.2.2.1.sub (L1 := [(r0, 16, 41, .ref dd), (r0, 16, 42, .int dc), (r0, 16, 60, .ref co), (r0, 16, 61, .ref cs), (r0, 16, 46, .ref ol), (r0, 16, 47, .ref nw), (r0, 16, 71, .ref td)]) [7, 8, 9, 10, 11, 12, 13] rfl, hh_34.2.2.2.2.2.2.2.1.sub (L1 := [(cs, 207, 2, ca 1, fs_14)]) [0] rfl, hh_34.2.2.2.2.2.2.2.2.sub (L1 := [(jFs, jDY dC dI ca G0 none sn), (jF9, jVl dC dI G0 9 ck), ([(201, 0)], jQc dC dI (ca 4) dd 3 fd), ([(208, 0)], jQc dC dI (ca 4) co 2 fq_10)]) [1, 2, 3, 0] rfl, hp0.take hd1 hd0 hd2 hv_8 ho_8 (by have h9 := hv_13; unfold jSo at h9; omega) ho_13⟩⟩⟩, by rw [ht]; try exact hh_34.1.1, fun q h9 hq => by rw [ht]; try exact hh_34.1.2.1 q h9 hq⟩) hh_34.1.2.2 dX14_takeCheck_78
      · skip
        have c_31' : z_30.toInt ≠ 0 := jb_eq_n (rfl) ((by decide)) c_31
        refine lv_iconst (v := 1) hx hb dX14_takeCheck_67 (by decide) ?_
        refine lv_goto (tgt := 77) hx hb dX14_takeCheck_68 (by decide) ?_
        refine j7_iast hx hb hK hh_28 hB hB101 1 rfl (by decide) (by decide) rfl rfl rfl hg_checkLeft_29 (x := a1.toInt) (rfl) (by omega) (trivial) dX14_takeCheck_77 (fun H_35 locs_35 hh_35 => ?_)
        clear hh_28
        rw [hQ]
        exact W.vret hx hb hr (fun t ht hW => ⟨⟨(), rfl, trivial, ⟨hh_35.rt (M1 := []) [] rfl ht, by rw [ht]; exact ⟨sn, ck, fs_14, fd, fq_10, dc, hh_35.2.2.1.sub (L1 := [(r0, 16, 41, .ref dd), (r0, 16, 42, .int dc), (r0, 16, 60, .ref co), (r0, 16, 61, .ref cs), (r0, 16, 46, .ref ol), (r0, 16, 47, .ref nw), (r0, 16, 71, .ref td)]) [7, 8, 9, 10, 11, 12, 13] rfl, hh_35.2.2.2.2.2.2.2.1.sub (L1 := [(cs, 207, 2, ca 1, fs_14)]) [0] rfl, hh_35.2.2.2.2.2.2.2.2.sub (L1 := [(jFs, jDY dC dI ca G0 none sn), (jF9, jVl dC dI G0 9 ck), ([(201, 0)], jQc dC dI (ca 4) dd 3 fd), ([(208, 0)], jQc dC dI (ca 4) co 2 fq_10)]) [1, 2, 3, 0] rfl, hp0.take hd1 hd0 hd2 hv_8 ho_8 (by have h9 := hv_13; unfold jSo at h9; omega) ho_13⟩⟩⟩, by rw [ht]; try exact hh_35.1.1, fun q h9 hq => by rw [ht]; try exact hh_35.1.2.1 q h9 hq⟩) hh_35.1.2.2 dX14_takeCheck_78
    · skip
      have c_25' : r_21.toInt ≥ 0 := jb_lt_n (rfl) ((by decide)) c_25
      first | (have hr_21_2q := hr_21_2.resolve_left (by omega); clear hr_21_2) | (have hr_21_2q := hr_21_2.resolve_right (by omega); clear hr_21_2) | try clear hr_21_2
      refine lv_iconst (v := 1) hx hb dX14_takeCheck_47 (by decide) ?_
      refine lv_goto (tgt := 52) hx hb dX14_takeCheck_48 (by decide) ?_
      refine j7_zast hx hb hK hh_20 hB hB103 3 rfl (by decide) (by decide) rfl rfl rfl hg_checkCached_19 (x := a1.toInt) (rfl) (by omega) (Or.inr rfl) (Or.inr rfl) dX14_takeCheck_52 (fun H_36 locs_36 hh_36 => ?_)
      clear hh_20
      refine lv_aload_n hx hb dX14_takeCheck_53 rfl (lv_at hl 2 rfl) ?_
      obtain ⟨v_37, hv_37, hh_38⟩ := hh_36.pin (C := RX14) (T := TX14) (N := 74) hB16 rfl (by decide) hg_r0 (i := 62) (by decide) rfl
      clear hh_36
      obtain ⟨checkLeft_39, rfl, hg_checkLeft_39⟩ := hv_37
      refine j7_read hx hb hown hK (C := RX14) (T := TX14) (N := 74) rfl hly_16_62 hlk_135 (hh_38.at 0 rfl) dX14_takeCheck_54 ?_
      refine lv_iload_n hx hb dX14_takeCheck_57 rfl (lv_at hl 3 rfl) ?_
      refine lv_aload_n hx hb dX14_takeCheck_58 rfl (lv_at hl 2 rfl) ?_
      refine j7_read hx hb hown hK (C := RX14) (T := TX14) (N := 74) rfl hly_16_63 hlk_138 (hh_38.at 2 rfl) dX14_takeCheck_59 ?_
      refine lv_iload_n hx hb dX14_takeCheck_62 rfl (lv_at hl 3 rfl) ?_
      refine j7_zald hx hb hK hh_38 hB103 3 rfl (by decide) hg_checkCached_19 (x := a1.toInt) (rfl) (by omega) dX14_takeCheck_63 (fun z_40 (hz_40 : (z_40 = 0 ∨ z_40 = 1)) => ?_)
      have hz_40' := jb_01 hz_40
      refine lv_if_eq (tgt := 71) hx hb dX14_takeCheck_64 (by decide) (fun c_41 => ?_) (fun c_41 => ?_)
      · skip
        have c_41' : z_40.toInt = 0 := jb_eq (rfl) ((by decide)) c_41
        refine lv_aload_n hx hb dX14_takeCheck_71 rfl (lv_at hl 2 rfl) ?_
        refine lv_aload_n hx hb dX14_takeCheck_72 rfl (lv_at hl 1 rfl) ?_
        refine lv_iload_n hx hb dX14_takeCheck_73 rfl (lv_at hl 0 rfl) ?_
        refine va_calli (A0 := jA base) (H0 := s.heap) (va_runV (As := [.ref ret_3, .int (ck ret_3)]) (rest := [.int a1, .ref checkLeft_39]) ⟨hx, hb, hml, hown, hts⟩ (uX14_costOf l dC dI ca base B hB hAp hB14 hB15 hB16 hB101 hB155 hB156 hB157 hB166 hB167 hB190 hB191 hB192 G0 H_36 r0 ret_3 (ck ret_3) yb_4 ye_4 (sn ret_3).toInt fb_4 fe_4) (cwV 2 hts (jgV (jWr_90 _ (List.mem_of_getElem? (i := 23) rfl)) (jWr_91 _ (List.mem_of_getElem? (i := 0) rfl)) (jWr_91 _ (List.mem_of_getElem? (i := 1) rfl)) (jWr_1 _ (List.mem_of_getElem? (i := 5) rfl)) (jWr_91 _ (List.mem_of_getElem? (i := 2) rfl))) rfl rfl rfl (by decide +kernel) ⟨by rw [← hR]; exact Nat.le_of_ble_eq_true rfl, by rw [← hR]; exact Nat.le_of_ble_eq_true rfl⟩) ⟨fun a U g mk q => by obtain ⟨q0, q1, q2, qK, q10, q11, q12, q13, q14, q15, q16⟩ := q; exact ⟨q0, q1, q2, jG.calling g mk a qK, q10, q11, q12, q13, q14, q15, q16⟩, hh_38.recv (C := RX14) (T := TX14) (N := 74) hB16 rfl (by decide) hg_r0 hK, fun U hU hW => ⟨rfl, hU, hh_38.2.1, hG.step hW hU hh_38.1, hg_ret_3, hg_r0, hg_yb_4, hg_ye_4, (hh_38.2.2.1.sub (L1 := [(ret_3, 14, 6, .ref yb_4), (ret_3, 14, 7, .ref ye_4)]) [4, 5] rfl), (hh_38.2.2.2.2.2.2.2.1.sub (L1 := [(yb_4, 190, 40, ca 1, fb_4), (ye_4, 191, 40, ca 1, fe_4)]) [1, 2] rfl), by first | omega | (refine ⟨?_, ?_, ?_, ?_⟩ <;> (first | omega | rfl | assumption | decide | exact Or.inl rfl | exact Or.inr rfl | (simp only; omega)))⟩⟩ rfl rfl hl.1 rfl (lv_room (Nat.le_of_ble_eq_true rfl)) dX14_takeCheck_74 ⟨Nat.zero_le _, Nat.zero_le _⟩) hh_38.1 (fun q _ h => h) (fun q h => h) (fun r_43 u_42 t_42 H_42 locs_42 ht_42 hvm_42 hr_43 hb_42 hz_42 hk_42 hS_42 => ?_)
        rw [ht_42] at hb_42
        obtain ⟨hb_421, hb_422, hb_423, hb_424, hb_425⟩ := hb_42
        have hh_42 : jSt (dC, dI) B base G0 G0 EX14_takeCheck s.heap 0 0 [(r0, 16, 62, .ref checkLeft_39), (r0, 16, 66, .int cached_24), (r0, 16, 63, .ref checkCached_19), (ret_3, 14, 9, .int (ck ret_3)), (ret_3, 14, 6, .ref yb_4), (ret_3, 14, 7, .ref ye_4), (ret_3, 14, 5, .int (sn ret_3)), (r0, 16, 41, .ref dd), (r0, 16, 42, .int dc), (r0, 16, 60, .ref co), (r0, 16, 61, .ref cs), (r0, 16, 46, .ref ol), (r0, 16, 47, .ref nw), (r0, 16, 71, .ref td)] [(cs, 207, 2, ca 1, fs_14), (yb_4, 190, 40, ca 1, fb_4), (ye_4, 191, 40, ca 1, fe_4)] [([(208, 0)], jQc dC dI (ca 4) co 2 fq_10), (jFs, jDY dC dI ca G0 none sn), (jF9, jVl dC dI G0 9 ck), ([(201, 0)], jQc dC dI (ca 4) dd 3 fd)] H_42 locs_42 := ((hh_38.call hb_421 hb_422 hb_423 hb_424 hS_42 rfl (L1 := [(r0, 16, 62, .ref checkLeft_39), (r0, 16, 66, .int cached_24), (r0, 16, 63, .ref checkCached_19), (ret_3, 14, 9, .int (ck ret_3)), (ret_3, 14, 6, .ref yb_4), (ret_3, 14, 7, .ref ye_4), (ret_3, 14, 5, .int (sn ret_3)), (r0, 16, 41, .ref dd), (r0, 16, 42, .int dc), (r0, 16, 60, .ref co), (r0, 16, 61, .ref cs), (r0, 16, 46, .ref ol), (r0, 16, 47, .ref nw), (r0, 16, 71, .ref td)]) [0, 1, 2, 3, 4, 5, 6, 7, 8, 9, 10, 11, 12, 13] rfl rfl (M1 := [(cs, 207, 2, ca 1, fs_14), (yb_4, 190, 40, ca 1, fb_4), (ye_4, 191, 40, ca 1, fe_4)]) [0, 1, 2] rfl rfl (I1 := [([(208, 0)], jQc dC dI (ca 4) co 2 fq_10), (jFs, jDY dC dI ca G0 none sn), (jF9, jVl dC dI G0 9 ck), ([(201, 0)], jQc dC dI (ca 4) dd 3 fd)]) [0, 1, 2, 3] rfl rfl).more hb_425)
        clear hh_38 ht_42 hvm_42 hz_42 hk_42 hS_42 hb_421 hb_422 hb_423 hb_424 hb_425
        refine j7_iast hx hb hK hh_42 hB hB101 1 rfl (by decide) (by decide) rfl rfl rfl hg_checkLeft_39 (x := a1.toInt) (rfl) (by omega) (trivial) dX14_takeCheck_77 (fun H_44 locs_44 hh_44 => ?_)
        clear hh_42
        rw [hQ]
        exact W.vret hx hb hr (fun t ht hW => ⟨⟨(), rfl, trivial, ⟨hh_44.rt (M1 := []) [] rfl ht, by rw [ht]; exact ⟨sn, ck, fs_14, fd, fq_10, dc, hh_44.2.2.1.sub (L1 := [(r0, 16, 41, .ref dd), (r0, 16, 42, .int dc), (r0, 16, 60, .ref co), (r0, 16, 61, .ref cs), (r0, 16, 46, .ref ol), (r0, 16, 47, .ref nw), (r0, 16, 71, .ref td)]) [7, 8, 9, 10, 11, 12, 13] rfl, hh_44.2.2.2.2.2.2.2.1.sub (L1 := [(cs, 207, 2, ca 1, fs_14)]) [0] rfl, hh_44.2.2.2.2.2.2.2.2.sub (L1 := [(jFs, jDY dC dI ca G0 none sn), (jF9, jVl dC dI G0 9 ck), ([(201, 0)], jQc dC dI (ca 4) dd 3 fd), ([(208, 0)], jQc dC dI (ca 4) co 2 fq_10)]) [1, 2, 3, 0] rfl, hp0.take hd1 hd0 hd2 hv_8 ho_8 (by have h9 := hv_13; unfold jSo at h9; omega) ho_13⟩⟩⟩, by rw [ht]; try exact hh_44.1.1, fun q h9 hq => by rw [ht]; try exact hh_44.1.2.1 q h9 hq⟩) hh_44.1.2.2 dX14_takeCheck_78
      · skip
        have c_41' : z_40.toInt ≠ 0 := jb_eq_n (rfl) ((by decide)) c_41
        refine lv_iconst (v := 1) hx hb dX14_takeCheck_67 (by decide) ?_
        refine lv_goto (tgt := 77) hx hb dX14_takeCheck_68 (by decide) ?_
        refine j7_iast hx hb hK hh_38 hB hB101 1 rfl (by decide) (by decide) rfl rfl rfl hg_checkLeft_39 (x := a1.toInt) (rfl) (by omega) (trivial) dX14_takeCheck_77 (fun H_45 locs_45 hh_45 => ?_)
        clear hh_38
        rw [hQ]
        exact W.vret hx hb hr (fun t ht hW => ⟨⟨(), rfl, trivial, ⟨hh_45.rt (M1 := []) [] rfl ht, by rw [ht]; exact ⟨sn, ck, fs_14, fd, fq_10, dc, hh_45.2.2.1.sub (L1 := [(r0, 16, 41, .ref dd), (r0, 16, 42, .int dc), (r0, 16, 60, .ref co), (r0, 16, 61, .ref cs), (r0, 16, 46, .ref ol), (r0, 16, 47, .ref nw), (r0, 16, 71, .ref td)]) [7, 8, 9, 10, 11, 12, 13] rfl, hh_45.2.2.2.2.2.2.2.1.sub (L1 := [(cs, 207, 2, ca 1, fs_14)]) [0] rfl, hh_45.2.2.2.2.2.2.2.2.sub (L1 := [(jFs, jDY dC dI ca G0 none sn), (jF9, jVl dC dI G0 9 ck), ([(201, 0)], jQc dC dI (ca 4) dd 3 fd), ([(208, 0)], jQc dC dI (ca 4) co 2 fq_10)]) [1, 2, 3, 0] rfl, hp0.take hd1 hd0 hd2 hv_8 ho_8 (by have h9 := hv_13; unfold jSo at h9; omega) ho_13⟩⟩⟩, by rw [ht]; try exact hh_45.1.1, fun q h9 hq => by rw [ht]; try exact hh_45.1.2.1 q h9 hq⟩) hh_45.1.2.2 dX14_takeCheck_78
set_option maxHeartbeats 4000000 in
set_option maxRecDepth 20000 in
theorem uX14_messageOf (l : Launch) (dC : Nat → ClassId) (dI : Nat → Nat → Nat) (ca : Nat → ClassId) (base : Nat) (B : jF) (hB : jBok B) (hAp : jAp (dC, dI)) (G0 : jT) (H0 : Heap) (a0 : Int32) : Met l yX14_messageOf (jw yX14_messageOf cX14_messageOf 1 (some (.object "java/lang/String"))) ({ frames := 0, cells := 0, slots := 0, locals := 0 }) (va_Pc [.int a0] (fun U => U.heap = H0 ∧ jX B base G0 [] H0 ∧ jG dC dI ca base U ∧ jP (dC, dI) G0 H0 [] ∧ True)) (jQx (S := Nat × Nat) (fun v u => v = .ref u.1 ∧ u.2 < 2147483648) (fun u t => jRt (dC, dI) B base G0 EX14_messageOf H0 [] t.heap ∧ jStr base u.1 u.2 t t.heap) (jA base)) 0 0 (jA base) := by
  refine Met.ofW (cc := cX14_messageOf) (maxL := 1) (ret := (some (.object "java/lang/String"))) (by decide) rfl ?_
  intro p e s m args below meth c s₁ Bd hml hv
  obtain ⟨rfl, hH0, hX, hG, hP0, hp0⟩ := hv
  have hK := hG.1
  have hx := Bd.exec
  have hb := Bd.bytes
  have hr := Bd.returns
  have hts := atoms_spec (ws := (jw yX14_messageOf cX14_messageOf 1 (some (.object "java/lang/String")))) Bd.pre
  have htw : ∀ w ∈ jWl, w.before _ s = true := fun w h => hts w (List.mem_cons_of_mem _ h)
  have hown : s.vm.findClass RX14 = some m.cls := findClass_of_methodNamed Bd.named
  have hlocks := Bd.notSynchronized
  obtain ⟨Q, hQ⟩ : ∃ Q, Q = MQ below (jQx (S := Nat × Nat) (fun v u => v = .ref u.1 ∧ u.2 < 2147483648) (fun u t => jRt (dC, dI) B base G0 EX14_messageOf H0 [] t.heap ∧ jStr base u.1 u.2 t t.heap) (jA base)) ([.int a0] : List Value).toArray s 0 0 (jA base) := ⟨_, rfl⟩
  rw [← hQ]
  have hl := lv_entry ([.int a0]) (n := 1) (Nat.le_of_ble_eq_true rfl)
  rw [lg_entry_eq]
  generalize (lg_sl ([.int a0]) ++ List.replicate (1 - (lg_sl ([.int a0])).length) Slot.unset).toArray = ls at hl ⊢
  have hl : lv_has ls 1 [(0, .int a0)] := hl
  generalize hR : (headSpec (jw yX14_messageOf cX14_messageOf 1 (some (.object "java/lang/String"))) ({ frames := 0, cells := 0, slots := 0, locals := 0 })).room = R
  subst hH0
  have hh : jSt (dC, dI) B base G0 G0 EX14_messageOf s.heap 0 0 [] [] [] s.heap [] := jSt.start hX hP0 jMc.nil jIs.nil
  clear hX hP0
  have hk0 : (0 : Int32).toInt = 0 := by decide
  have hk1 : (1 : Int32).toInt = 1 := by decide
  have hk2 : (2 : Int32).toInt = 2 := by decide
  have hk3 : (3 : Int32).toInt = 3 := by decide
  have hk4 : (4 : Int32).toInt = 4 := by decide
  have hk5 : (5 : Int32).toInt = 5 := by decide
  have hk6 : (6 : Int32).toInt = 6 := by decide
  have hk7 : (7 : Int32).toInt = 7 := by decide
  have hk8 : (8 : Int32).toInt = 8 := by decide
  obtain ⟨str734, rstr734, hstr7340⟩ := hG.str (o := RX14) (k := 734) (tx := "unfinished") (List.mem_of_getElem? (i := 2541) (by decide +kernel))
  have hstr734 : jStr base str734 10 s s.heap := hstr7340
  obtain ⟨str736, rstr736, hstr7360⟩ := hG.str (o := RX14) (k := 736) (tx := "too much") (List.mem_of_getElem? (i := 2542) (by decide +kernel))
  have hstr736 : jStr base str736 8 s s.heap := hstr7360
  obtain ⟨str738, rstr738, hstr7380⟩ := hG.str (o := RX14) (k := 738) (tx := qtx2543) (List.mem_of_getElem? (i := 2543) (by decide +kernel))
  have h9str738 : qtx2543.length = 6 := by decide +kernel
  have hstr738 : jStr base str738 6 s s.heap := by rw [h9str738] at hstr7380; exact hstr7380
  obtain ⟨str740, rstr740, hstr7400⟩ := hG.str (o := RX14) (k := 740) (tx := "not here") (List.mem_of_getElem? (i := 2544) (by decide +kernel))
  have hstr740 : jStr base str740 8 s s.heap := hstr7400
  obtain ⟨str742, rstr742, hstr7420⟩ := hG.str (o := RX14) (k := 742) (tx := "unknown") (List.mem_of_getElem? (i := 2545) (by decide +kernel))
  have hstr742 : jStr base str742 7 s s.heap := hstr7420
  obtain ⟨str744, rstr744, hstr7440⟩ := hG.str (o := RX14) (k := 744) (tx := "taken") (List.mem_of_getElem? (i := 2546) (by decide +kernel))
  have hstr744 : jStr base str744 5 s s.heap := hstr7440
  obtain ⟨str745, rstr745, hstr7450⟩ := hG.str (o := RX14) (k := 745) (tx := qtx2547) (List.mem_of_getElem? (i := 2547) (by decide +kernel))
  have h9str745 : qtx2547.length = 10 := by decide +kernel
  have hstr745 : jStr base str745 10 s s.heap := by rw [h9str745] at hstr7450; exact hstr7450
  obtain ⟨str747, rstr747, hstr7470⟩ := hG.str (o := RX14) (k := 747) (tx := "no match") (List.mem_of_getElem? (i := 2548) (by decide +kernel))
  have hstr747 : jStr base str747 8 s s.heap := hstr7470
  obtain ⟨str749, rstr749, hstr7490⟩ := hG.str (o := RX14) (k := 749) (tx := "too large") (List.mem_of_getElem? (i := 2549) (by decide +kernel))
  have hstr749 : jStr base str749 9 s s.heap := hstr7490
  have hrg_a0 := jb_rng a0
  refine lv_iload_n hx hb dX14_messageOf_0 rfl (lv_at hl 0 rfl) ?_
  refine lv_iconst (v := 1) hx hb dX14_messageOf_1 (by decide) ?_
  refine lv_icmp_ne (tgt := 11) hx hb dX14_messageOf_2 (by decide) (fun c_1 => ?_) (fun c_1 => ?_)
  · skip
    have c_1' : a0.toInt ≠ 1 := jb_ne (rfl) ((by decide)) c_1
    refine lv_iload_n hx hb dX14_messageOf_11 rfl (lv_at hl 0 rfl) ?_
    refine lv_iconst (v := 2) hx hb dX14_messageOf_12 (by decide) ?_
    refine lv_icmp_ne (tgt := 22) hx hb dX14_messageOf_13 (by decide) (fun c_2 => ?_) (fun c_2 => ?_)
    · skip
      have c_2' : a0.toInt ≠ 2 := jb_ne (rfl) ((by decide)) c_2
      refine lv_iload_n hx hb dX14_messageOf_22 rfl (lv_at hl 0 rfl) ?_
      refine lv_iconst (v := 3) hx hb dX14_messageOf_23 (by decide) ?_
      refine lv_icmp_ne (tgt := 33) hx hb dX14_messageOf_24 (by decide) (fun c_3 => ?_) (fun c_3 => ?_)
      · skip
        have c_3' : a0.toInt ≠ 3 := jb_ne (rfl) ((by decide)) c_3
        refine lv_iload_n hx hb dX14_messageOf_33 rfl (lv_at hl 0 rfl) ?_
        refine lv_iconst (v := 4) hx hb dX14_messageOf_34 (by decide) ?_
        refine lv_icmp_ne (tgt := 44) hx hb dX14_messageOf_35 (by decide) (fun c_4 => ?_) (fun c_4 => ?_)
        · skip
          have c_4' : a0.toInt ≠ 4 := jb_ne (rfl) ((by decide)) c_4
          refine lv_iload_n hx hb dX14_messageOf_44 rfl (lv_at hl 0 rfl) ?_
          refine lv_iconst (v := 5) hx hb dX14_messageOf_45 (by decide) ?_
          refine lv_icmp_ne (tgt := 55) hx hb dX14_messageOf_46 (by decide) (fun c_5 => ?_) (fun c_5 => ?_)
          · skip
            have c_5' : a0.toInt ≠ 5 := jb_ne (rfl) ((by decide)) c_5
            refine lv_iload_n hx hb dX14_messageOf_55 rfl (lv_at hl 0 rfl) ?_
            refine lv_bipush (v := 6) hx hb dX14_messageOf_56 (by decide) ?_
            refine lv_icmp_ne (tgt := 67) hx hb dX14_messageOf_58 (by decide) (fun c_6 => ?_) (fun c_6 => ?_)
            · skip
              have c_6' : a0.toInt ≠ 6 := jb_ne (rfl) ((by decide)) c_6
              refine lv_iload_n hx hb dX14_messageOf_67 rfl (lv_at hl 0 rfl) ?_
              refine lv_bipush (v := 7) hx hb dX14_messageOf_68 (by decide) ?_
              refine lv_icmp_ne (tgt := 79) hx hb dX14_messageOf_70 (by decide) (fun c_7 => ?_) (fun c_7 => ?_)
              · skip
                have c_7' : a0.toInt ≠ 7 := jb_ne (rfl) ((by decide)) c_7
                refine lv_iload_n hx hb dX14_messageOf_79 rfl (lv_at hl 0 rfl) ?_
                refine lv_bipush (v := 8) hx hb dX14_messageOf_80 (by decide) ?_
                refine lv_icmp_ne (tgt := 91) hx hb dX14_messageOf_82 (by decide) (fun c_8 => ?_) (fun c_8 => ?_)
                · skip
                  have c_8' : a0.toInt ≠ 8 := jb_ne (rfl) ((by decide)) c_8
                  refine j_ldcSw hx hb hown rstr749 dX14_messageOf_91 ?_
                  rw [hQ]
                  exact W.aret (v := .ref str749) hx hb hr (Or.inl ⟨_, rfl⟩) (Or.inr ⟨_, rfl⟩) (fun t ht hW => ⟨⟨.ref str749, (str749, 9), rfl, ⟨rfl, by show (9 : Nat) < 2147483648; omega⟩, ⟨hh.rt (M1 := []) [] rfl ht, by rw [ht]; exact (hstr749.moved hW.alike).kept hh.1.2.1⟩⟩, by rw [ht]; try exact hh.1.1, fun q h9 hq => by rw [ht]; try exact hh.1.2.1 q h9 hq⟩) hh.1.2.2 dX14_messageOf_94
                · skip
                  have c_8' : a0.toInt = 8 := jb_ne_n (rfl) ((by decide)) c_8
                  refine j_ldcSw hx hb hown rstr747 dX14_messageOf_85 ?_
                  refine lv_goto (tgt := 94) hx hb dX14_messageOf_88 (by decide) ?_
                  rw [hQ]
                  exact W.aret (v := .ref str747) hx hb hr (Or.inl ⟨_, rfl⟩) (Or.inr ⟨_, rfl⟩) (fun t ht hW => ⟨⟨.ref str747, (str747, 8), rfl, ⟨rfl, by show (8 : Nat) < 2147483648; omega⟩, ⟨hh.rt (M1 := []) [] rfl ht, by rw [ht]; exact (hstr747.moved hW.alike).kept hh.1.2.1⟩⟩, by rw [ht]; try exact hh.1.1, fun q h9 hq => by rw [ht]; try exact hh.1.2.1 q h9 hq⟩) hh.1.2.2 dX14_messageOf_94
              · skip
                have c_7' : a0.toInt = 7 := jb_ne_n (rfl) ((by decide)) c_7
                refine j_ldcSw hx hb hown rstr745 dX14_messageOf_73 ?_
                refine lv_goto (tgt := 94) hx hb dX14_messageOf_76 (by decide) ?_
                rw [hQ]
                exact W.aret (v := .ref str745) hx hb hr (Or.inl ⟨_, rfl⟩) (Or.inr ⟨_, rfl⟩) (fun t ht hW => ⟨⟨.ref str745, (str745, 10), rfl, ⟨rfl, by show (10 : Nat) < 2147483648; omega⟩, ⟨hh.rt (M1 := []) [] rfl ht, by rw [ht]; exact (hstr745.moved hW.alike).kept hh.1.2.1⟩⟩, by rw [ht]; try exact hh.1.1, fun q h9 hq => by rw [ht]; try exact hh.1.2.1 q h9 hq⟩) hh.1.2.2 dX14_messageOf_94
            · skip
              have c_6' : a0.toInt = 6 := jb_ne_n (rfl) ((by decide)) c_6
              refine j_ldcSw hx hb hown rstr744 dX14_messageOf_61 ?_
              refine lv_goto (tgt := 94) hx hb dX14_messageOf_64 (by decide) ?_
              rw [hQ]
              exact W.aret (v := .ref str744) hx hb hr (Or.inl ⟨_, rfl⟩) (Or.inr ⟨_, rfl⟩) (fun t ht hW => ⟨⟨.ref str744, (str744, 5), rfl, ⟨rfl, by show (5 : Nat) < 2147483648; omega⟩, ⟨hh.rt (M1 := []) [] rfl ht, by rw [ht]; exact (hstr744.moved hW.alike).kept hh.1.2.1⟩⟩, by rw [ht]; try exact hh.1.1, fun q h9 hq => by rw [ht]; try exact hh.1.2.1 q h9 hq⟩) hh.1.2.2 dX14_messageOf_94
          · skip
            have c_5' : a0.toInt = 5 := jb_ne_n (rfl) ((by decide)) c_5
            refine j_ldcSw hx hb hown rstr742 dX14_messageOf_49 ?_
            refine lv_goto (tgt := 94) hx hb dX14_messageOf_52 (by decide) ?_
            rw [hQ]
            exact W.aret (v := .ref str742) hx hb hr (Or.inl ⟨_, rfl⟩) (Or.inr ⟨_, rfl⟩) (fun t ht hW => ⟨⟨.ref str742, (str742, 7), rfl, ⟨rfl, by show (7 : Nat) < 2147483648; omega⟩, ⟨hh.rt (M1 := []) [] rfl ht, by rw [ht]; exact (hstr742.moved hW.alike).kept hh.1.2.1⟩⟩, by rw [ht]; try exact hh.1.1, fun q h9 hq => by rw [ht]; try exact hh.1.2.1 q h9 hq⟩) hh.1.2.2 dX14_messageOf_94
        · skip
          have c_4' : a0.toInt = 4 := jb_ne_n (rfl) ((by decide)) c_4
          refine j_ldcSw hx hb hown rstr740 dX14_messageOf_38 ?_
          refine lv_goto (tgt := 94) hx hb dX14_messageOf_41 (by decide) ?_
          rw [hQ]
          exact W.aret (v := .ref str740) hx hb hr (Or.inl ⟨_, rfl⟩) (Or.inr ⟨_, rfl⟩) (fun t ht hW => ⟨⟨.ref str740, (str740, 8), rfl, ⟨rfl, by show (8 : Nat) < 2147483648; omega⟩, ⟨hh.rt (M1 := []) [] rfl ht, by rw [ht]; exact (hstr740.moved hW.alike).kept hh.1.2.1⟩⟩, by rw [ht]; try exact hh.1.1, fun q h9 hq => by rw [ht]; try exact hh.1.2.1 q h9 hq⟩) hh.1.2.2 dX14_messageOf_94
      · skip
        have c_3' : a0.toInt = 3 := jb_ne_n (rfl) ((by decide)) c_3
        refine j_ldcSw hx hb hown rstr738 dX14_messageOf_27 ?_
        refine lv_goto (tgt := 94) hx hb dX14_messageOf_30 (by decide) ?_
        rw [hQ]
        exact W.aret (v := .ref str738) hx hb hr (Or.inl ⟨_, rfl⟩) (Or.inr ⟨_, rfl⟩) (fun t ht hW => ⟨⟨.ref str738, (str738, 6), rfl, ⟨rfl, by show (6 : Nat) < 2147483648; omega⟩, ⟨hh.rt (M1 := []) [] rfl ht, by rw [ht]; exact (hstr738.moved hW.alike).kept hh.1.2.1⟩⟩, by rw [ht]; try exact hh.1.1, fun q h9 hq => by rw [ht]; try exact hh.1.2.1 q h9 hq⟩) hh.1.2.2 dX14_messageOf_94
    · skip
      have c_2' : a0.toInt = 2 := jb_ne_n (rfl) ((by decide)) c_2
      refine j_ldcSw hx hb hown rstr736 dX14_messageOf_16 ?_
      refine lv_goto (tgt := 94) hx hb dX14_messageOf_19 (by decide) ?_
      rw [hQ]
      exact W.aret (v := .ref str736) hx hb hr (Or.inl ⟨_, rfl⟩) (Or.inr ⟨_, rfl⟩) (fun t ht hW => ⟨⟨.ref str736, (str736, 8), rfl, ⟨rfl, by show (8 : Nat) < 2147483648; omega⟩, ⟨hh.rt (M1 := []) [] rfl ht, by rw [ht]; exact (hstr736.moved hW.alike).kept hh.1.2.1⟩⟩, by rw [ht]; try exact hh.1.1, fun q h9 hq => by rw [ht]; try exact hh.1.2.1 q h9 hq⟩) hh.1.2.2 dX14_messageOf_94
  · skip
    have c_1' : a0.toInt = 1 := jb_ne_n (rfl) ((by decide)) c_1
    refine j_ldcSw hx hb hown rstr734 dX14_messageOf_5 ?_
    refine lv_goto (tgt := 94) hx hb dX14_messageOf_8 (by decide) ?_
    rw [hQ]
    exact W.aret (v := .ref str734) hx hb hr (Or.inl ⟨_, rfl⟩) (Or.inr ⟨_, rfl⟩) (fun t ht hW => ⟨⟨.ref str734, (str734, 10), rfl, ⟨rfl, by show (10 : Nat) < 2147483648; omega⟩, ⟨hh.rt (M1 := []) [] rfl ht, by rw [ht]; exact (hstr734.moved hW.alike).kept hh.1.2.1⟩⟩, by rw [ht]; try exact hh.1.1, fun q h9 hq => by rw [ht]; try exact hh.1.2.1 q h9 hq⟩) hh.1.2.2 dX14_messageOf_94
