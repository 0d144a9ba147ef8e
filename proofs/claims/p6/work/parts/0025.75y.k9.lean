section
def EX13_scanv9 : List (Nat × Nat) := [(15, 7), (15, 10), (15, 30), (15, 31), (155, 0), (156, 0), (157, 0), (166, 0), (167, 0)]
set_option maxHeartbeats 4000000 in
set_option maxRecDepth 20000 in
theorem uX13_scanv9 (l : Launch) (dC : Nat → ClassId) (dI : Nat → Nat → Nat) (ca : Nat → ClassId) (base : Nat) (B : jF) (hB : jBok B) (hAp : jAp (dC, dI)) (hB15 : ∀ n G a H, B 15 n G a H ↔ jOb (dC, dI) 15 50 (F15 n G) a H) (hB101 : ∀ n G a H, B 101 n G a H ↔ jAr (dC, dI) (ca 1) (fun j z => True) n a H) (hB155 : ∀ n G a H, B 155 n G a H ↔ jAr (dC, dI) (ca 1) (fun j z => 0 ≤ z.toInt ∧ z.toInt ≤ 11990) n a H) (hB156 : ∀ n G a H, B 156 n G a H ↔ jAr (dC, dI) (ca 1) (fun j z => 0 ≤ z.toInt ∧ z.toInt ≤ 10) n a H) (hB157 : ∀ n G a H, B 157 n G a H ↔ jAr (dC, dI) (ca 1) (fun j z => 0 ≤ z.toInt ∧ z.toInt ≤ 1599) n a H) (hB166 : ∀ n G a H, B 166 n G a H ↔ jAr (dC, dI) (ca 1) (fun j z => True) n a H) (hB167 : ∀ n G a H, B 167 n G a H ↔ jAr (dC, dI) (ca 1) (fun j z => True) n a H) (hB194 : ∀ n G a H, B 194 n G a H ↔ jAr (dC, dI) (ca 1) (fun j z => True) n a H) (G0 : jT) (H0 : Heap) (r0 : Nat) (r1 : Nat) (a2 : Int32) (a3 : Int32) (n1 : Nat) (pc : Int32) (ps : Int32) (f1 : Nat → Int32) : Met l yX13_scan (jw yX13_scan cX13_scan 7 none) ({ frames := 3, cells := 0, slots := 0, locals := 62 }) (va_Pc [.ref r0, .ref r1, .int a2, .int a3] (fun U => U.heap = H0 ∧ jX B base G0 [] H0 ∧ jG dC dI ca base U ∧ G0 r1 = some (194, n1) ∧ G0 r0 = some (15, 0) ∧ jP (dC, dI) G0 H0 [(r0, 15, 10, .int pc), (r0, 15, 7, .int ps)] ∧ jMc (dC, dI) G0 H0 [(r1, 194, n1, ca 1, f1)] ∧ 0 ≤ a2.toInt ∧ a2.toInt ≤ a3.toInt ∧ a3.toInt ≤ n1 ∧ n1 ≤ 1500 ∧ 0 ≤ pc.toInt ∧ pc.toInt + (a3.toInt - a2.toInt) ≤ 1599 ∧ 0 ≤ ps.toInt ∧ ps.toInt + (a3.toInt - a2.toInt) ≤ 11990)) (va_Qv (S := Int32 × Int32 × Int32) (fun u => 0 ≤ u.1.toInt ∧ u.1.toInt ≤ a3.toInt - a2.toInt ∧ pc.toInt ≤ u.2.1.toInt ∧ u.2.1.toInt ≤ pc.toInt + (a3.toInt - a2.toInt) ∧ ps.toInt ≤ u.2.2.toInt ∧ u.2.2.toInt ≤ ps.toInt + (a3.toInt - a2.toInt)) (fun u t => jRt (dC, dI) B base G0 EX13_scanv9 H0 [(r0, 15, 30, .int u.1), (r0, 15, 10, .int u.2.1), (r0, 15, 7, .int u.2.2)] t.heap) (jA base)) 0 0 (jA base) := by
  refine Met.ofW (cc := cX13_scan) (maxL := 7) (ret := none) (by decide) rfl ?_
  intro p e s m args below meth c s₁ Bd hml hv
  obtain ⟨rfl, hH0, hX, hG, hg_r1, hg_r0, hP0, hM0, hp0, hp1, hp2, hp3, hp4, hp5, hp6, hp7⟩ := hv
  have hK := hG.1
  have hx := Bd.exec
  have hb := Bd.bytes
  have hr := Bd.returns
  have hts := atoms_spec (ws := (jw yX13_scan cX13_scan 7 none)) Bd.pre
  have htw : ∀ w ∈ jWl, w.before _ s = true := fun w h => hts w (List.mem_cons_of_mem _ h)
  have hown : s.vm.findClass RX13 = some m.cls := findClass_of_methodNamed Bd.named
  have hlocks := Bd.notSynchronized
  obtain ⟨Q, hQ⟩ : ∃ Q, Q = MQ below (va_Qv (S := Int32 × Int32 × Int32) (fun u => 0 ≤ u.1.toInt ∧ u.1.toInt ≤ a3.toInt - a2.toInt ∧ pc.toInt ≤ u.2.1.toInt ∧ u.2.1.toInt ≤ pc.toInt + (a3.toInt - a2.toInt) ∧ ps.toInt ≤ u.2.2.toInt ∧ u.2.2.toInt ≤ ps.toInt + (a3.toInt - a2.toInt)) (fun u t => jRt (dC, dI) B base G0 EX13_scanv9 H0 [(r0, 15, 30, .int u.1), (r0, 15, 10, .int u.2.1), (r0, 15, 7, .int u.2.2)] t.heap) (jA base)) ([.ref r0, .ref r1, .int a2, .int a3] : List Value).toArray s 0 0 (jA base) := ⟨_, rfl⟩
  rw [← hQ]
  have hl := lv_entry ([.ref r0, .ref r1, .int a2, .int a3]) (n := 7) (Nat.le_of_ble_eq_true rfl)
  rw [lg_entry_eq]
  generalize (lg_sl ([.ref r0, .ref r1, .int a2, .int a3]) ++ List.replicate (7 - (lg_sl ([.ref r0, .ref r1, .int a2, .int a3])).length) Slot.unset).toArray = ls at hl ⊢
  have hl : lv_has ls 7 [(0, .ref r0), (1, .ref r1), (2, .int a2), (3, .int a3)] := hl
  generalize hR : (headSpec (jw yX13_scan cX13_scan 7 none) ({ frames := 3, cells := 0, slots := 0, locals := 62 })).room = R
  subst hH0
  have hh : jSt (dC, dI) B base G0 G0 EX13_scanv9 s.heap 0 0 [(r0, 15, 10, .int pc), (r0, 15, 7, .int ps)] [(r1, 194, n1, ca 1, f1)] [] s.heap [] := jSt.start hX hP0 hM0 jIs.nil
  clear hX hP0
  have hk0 : (0 : Int32).toInt = 0 := by decide
  have hk1 : (1 : Int32).toInt = 1 := by decide
  have hk2 : (2 : Int32).toInt = 2 := by decide
  have hk3 : (3 : Int32).toInt = 3 := by decide
  have hk10 : (10 : Int32).toInt = 10 := by decide
  have hk40 : (40 : Int32).toInt = 40 := by decide
  have hk41 : (41 : Int32).toInt = 41 := by decide
  have hk42 : (42 : Int32).toInt = 42 := by decide
  have hk43 : (43 : Int32).toInt = 43 := by decide
  have hk44 : (44 : Int32).toInt = 44 := by decide
  have hk45 : (45 : Int32).toInt = 45 := by decide
  have hk46 : (46 : Int32).toInt = 46 := by decide
  have hk48 : (48 : Int32).toInt = 48 := by decide
  have hk57 : (57 : Int32).toInt = 57 := by decide
  have hk58 : (58 : Int32).toInt = 58 := by decide
  have hk61 : (61 : Int32).toInt = 61 := by decide
  have hk62 : (62 : Int32).toInt = 62 := by decide
  have hk126 : (126 : Int32).toInt = 126 := by decide
  have hly_15_30 := htw (u_lay RX13 TX13 30) (jWc_wsX130 _ (u_in_lay (by decide)))
  have hly_15_31 := htw (u_lay RX13 TX13 31) (jWc_wsX130 _ (u_in_lay (by decide)))
  have hlk_140 := (htw (.fieldLink RX13 140 "ProofServerModel$Kernel" "tokens" "I") (jWr_60 _ (List.mem_of_getElem? (i := 9) rfl)))
  have hlk_143 := (htw (.fieldLink RX13 143 "ProofServerModel$Kernel" "loose" "I") (jWr_60 _ (List.mem_of_getElem? (i := 1) rfl)))
  have hrg_a2 := jb_rng a2
  have hrg_a3 := jb_rng a3
  refine lv_aload_n hx hb dX13_scan_0 rfl (lv_at hl 0 rfl) ?_
  refine lv_iconst (v := 0) hx hb dX13_scan_1 (by decide) ?_
  refine j7_put hx hb hown hK hh hB hAp hB15 (C := RX13) (T := TX13) (N := 50) rfl (by decide) hg_r0 (i := 30) (by decide) hly_15_30 rfl hlk_140 rfl (ty := .int) (v := .int 0) (by decide +kernel) rfl rfl (⟨_, rfl, by omega, by omega⟩) rfl (L1 := [(r0, 15, 10, .int pc), (r0, 15, 7, .int ps)]) [0, 1] rfl rfl rfl dX13_scan_2 (fun H_1 locs_1 hh_1 => ?_)
  clear hh
  refine lv_aload_n hx hb dX13_scan_5 rfl (lv_at hl 0 rfl) ?_
  refine lv_iconst (v := 0) hx hb dX13_scan_6 (by decide) ?_
  refine j7_put hx hb hown hK hh_1 hB hAp hB15 (C := RX13) (T := TX13) (N := 50) rfl (by decide) hg_r0 (i := 31) (by decide) hly_15_31 rfl hlk_143 rfl (ty := .int) (v := .int 0) (by decide +kernel) rfl rfl (⟨_, rfl⟩) rfl (L1 := [(r0, 15, 30, .int 0), (r0, 15, 10, .int pc), (r0, 15, 7, .int ps)]) [0, 1, 2] rfl rfl rfl dX13_scan_7 (fun H_2 locs_2 hh_2 => ?_)
  clear hh_1
  refine lv_iload_n hx hb dX13_scan_10 rfl (lv_at hl 2 rfl) ?_
  refine lv_istore (lv' := [(4, .int a2), (0, .ref r0), (1, .ref r1), (2, .int a2), (3, .int a3)]) hx hb dX13_scan_11 hl (by decide) rfl (fun ls hl => ?_)
  have L13 : ∀ (N : Nat) (v4_3 : Int32) (wk_3 : Int32) (wc_3 : Int32) (ws_3 : Int32) (H_3 : Heap) (locs_3 : List Loc), jSt (dC, dI) B base G0 G0 EX13_scanv9 s.heap 0 0 [(r0, 15, 30, .int wk_3), (r0, 15, 10, .int wc_3), (r0, 15, 7, .int ws_3)] [(r1, 194, n1, ca 1, f1)] [] H_3 locs_3 → (a2.toInt ≤ v4_3.toInt ∧ v4_3.toInt ≤ a3.toInt ∧ 0 ≤ wk_3.toInt ∧ wk_3.toInt ≤ v4_3.toInt - a2.toInt ∧ pc.toInt ≤ wc_3.toInt ∧ wc_3.toInt ≤ pc.toInt + (v4_3.toInt - a2.toInt) ∧ ps.toInt ≤ ws_3.toInt ∧ ws_3.toInt ≤ ps.toInt + (v4_3.toInt - a2.toInt)) → (a3.toInt - v4_3.toInt : Int) < N → ∀ ls : Array Slot, lv_has ls 7 [(0, .ref r0), (1, .ref r1), (2, .int a2), (3, .int a3), (4, .int v4_3)] → W p l e R s m ([.ref r0, .ref r1, .int a2, .int a3] : List Value).toArray below meth c H_3 locs_3 0 0 Q (F0 m 13 ls []) := by
    intro N
    induction N with
    | zero => intro v4_3 wk_3 wc_3 ws_3 H_3 locs_3 hh_3  hi_3 hm; exact absurd hm (by omega)
    | succ N L13 =>
      intro v4_3 wk_3 wc_3 ws_3 H_3 locs_3 hh_3  hi_3 hm_3 ls hl
      obtain ⟨hi_3_0, hi_3_1, hi_3_2, hi_3_3, hi_3_4, hi_3_5, hi_3_6, hi_3_7⟩ := hi_3
      refine lv_iload hx hb dX13_scan_13 (lv_at hl 4 rfl) ?_
      refine lv_iload_n hx hb dX13_scan_15 rfl (lv_at hl 3 rfl) ?_
      refine lv_icmp_ge (tgt := 328) hx hb dX13_scan_16 (by decide) (fun c_4 => ?_) (fun c_4 => ?_)
      · skip
        have c_4' : v4_3.toInt ≥ a3.toInt := jb_ge (rfl) (rfl) c_4
        rw [hQ]
        exact W.vret hx hb hr (fun t ht hW => ⟨⟨(wk_3, wc_3, ws_3), rfl, by first | omega | (refine ⟨?_, ?_, ?_, ?_, ?_, ?_⟩ <;> (first | omega | rfl | assumption | decide | exact Or.inl rfl | exact Or.inr rfl | (simp only; omega))), hh_3.rt (M1 := [(r0, 15, 30, .int wk_3), (r0, 15, 10, .int wc_3), (r0, 15, 7, .int ws_3)]) [0, 1, 2] rfl ht⟩, by rw [ht]; try exact hh_3.1.1, fun q h9 hq => by rw [ht]; try exact hh_3.1.2.1 q h9 hq⟩) hh_3.1.2.2 dX13_scan_328
      · skip
        have c_4' : v4_3.toInt < a3.toInt := jb_ge_n (rfl) (rfl) c_4
        refine lv_aload_n hx hb dX13_scan_19 rfl (lv_at hl 1 rfl) ?_
        refine lv_iload hx hb dX13_scan_20 (lv_at hl 4 rfl) ?_
        refine j7_ialdM hx hb hK hh_3 hB194 1 rfl (by decide) hg_r1 (x := v4_3.toInt) (rfl) (by omega) (j := 0) rfl dX13_scan_22 (fun z_5 ez_5 (hz_5 : True) => ?_)
        have hqz_5 : z_5.toInt = (f1 (v4_3.toInt).toNat).toInt := by rw [ez_5]
        have hjz_5 : jLt z_5.toInt = jLt (f1 (v4_3.toInt).toNat).toInt := by rw [hqz_5]
        refine lv_istore (lv' := [(5, .int z_5), (0, .ref r0), (1, .ref r1), (2, .int a2), (3, .int a3), (4, .int v4_3)]) hx hb dX13_scan_23 hl (by decide) rfl (fun ls hl => ?_)
        refine lv_iload hx hb dX13_scan_25 (lv_at hl 0 rfl) ?_
        refine vp_callSi (va_Run.run (va_runSN (As := [.int z_5]) (rest := []) ⟨hx, hb, hml, hown, hts⟩ (wX14_isBlank l dC dI ca base H_3 z_5) ⟨va_cnB 1 hts (jgW (jWr_57 _ (List.mem_of_getElem? (i := 18) rfl))) rfl rfl rfl (hG.2.2.1 RX13 146 yX14_isBlank "ProofServerModel" (List.mem_of_getElem? (i := 2571) (by decide +kernel))) (htw (.initialized RX14) (jWr_1 _ (List.mem_of_getElem? (i := 5) rfl))) (by decide +kernel) ⟨by rw [← hR]; exact Nat.le_of_ble_eq_true rfl, by rw [← hR]; exact Nat.le_of_ble_eq_true rfl⟩, htw (.static yX14_isBlank) (jWr_57 _ (List.mem_of_getElem? (i := 17) rfl)), trivial⟩ ⟨fun a U g mk q => by obtain ⟨q0, q1, qK, q9⟩ := q; exact ⟨q0, q1, jG.calling g mk a qK, q9⟩, fun U hU hW => ⟨rfl, hU, hG.step hW hU hh_3.1, by first | trivial | omega | (constructor <;> omega)⟩⟩ rfl rfl hl.1 rfl (lv_room (Nat.le_of_ble_eq_true rfl)) dX13_scan_27 ⟨Nat.zero_le _, Nat.zero_le _⟩)) (fun r_6 hr_6 => ?_)
        have hr_6' : r_6.toInt = 0 ∨ r_6.toInt = 1 := jb_01 hr_6
        refine lv_if_eq (tgt := 39) hx hb dX13_scan_30 (by decide) (fun c_7 => ?_) (fun c_7 => ?_)
        · skip
          have c_7' : r_6.toInt = 0 := jb_eq (rfl) ((by decide)) c_7
          refine lv_aload_n hx hb dX13_scan_39 rfl (lv_at hl 2 rfl) ?_
          refine lv_iload hx hb dX13_scan_40 (lv_at hl 5 rfl) ?_
          refine lv_iload_n hx hb dX13_scan_42 rfl (lv_at hl 4 rfl) ?_
          refine va_calli (A0 := jA base) (H0 := s.heap) (va_runSN (As := [.ref r1, .int v4_3, .int a3]) (rest := []) ⟨hx, hb, hml, hown, hts⟩ (uX14_opensv9 l dC dI ca base B hB hAp hB194 G0 H_3 r1 v4_3 a3 n1 f1) ⟨va_cnB 3 hts (jgW (jWr_57 _ (List.mem_of_getElem? (i := 21) rfl))) rfl rfl rfl (hG.2.2.1 RX13 149 yX14_opens "ProofServerModel" (List.mem_of_getElem? (i := 2572) (by decide +kernel))) (htw (.initialized RX14) (jWr_1 _ (List.mem_of_getElem? (i := 5) rfl))) (by decide +kernel) ⟨by rw [← hR]; exact Nat.le_of_ble_eq_true rfl, by rw [← hR]; exact Nat.le_of_ble_eq_true rfl⟩, htw (.static yX14_opens) (jWr_57 _ (List.mem_of_getElem? (i := 20) rfl)), trivial⟩ ⟨fun a U g mk q => by obtain ⟨q0, q1, q2, qK, q10, q11, q12, q13⟩ := q; exact ⟨q0, q1, q2, jG.calling g mk a qK, q10, q11, q12, q13⟩, fun U hU hW => ⟨rfl, hU, hh_3.2.1, hG.step hW hU hh_3.1, hg_r1, jP.nil, (hh_3.2.2.2.2.2.2.2.1.sub (L1 := [(r1, 194, n1, ca 1, f1)]) [0] rfl), by first | omega | (refine ⟨?_, ?_, ?_, ?_, ?_⟩ <;> (first | omega | rfl | assumption | decide | exact Or.inl rfl | exact Or.inr rfl | (simp only; omega)))⟩⟩ rfl rfl hl.1 rfl (lv_room (Nat.le_of_ble_eq_true rfl)) dX13_scan_43 ⟨Nat.zero_le _, Nat.zero_le _⟩) hh_3.1 (fun q _ h => h) (fun q h => h) (fun r_9 u_8 t_8 H_8 locs_8 ht_8 hvm_8 hr_9 hb_8 hz_8 hk_8 hS_8 => ?_)
          rw [ht_8] at hb_8
          obtain ⟨hb_81, hb_82, hb_83, hb_84, hb_85⟩ := hb_8
          have hh_8 : jSt (dC, dI) B base G0 G0 EX13_scanv9 s.heap 0 0 [(r0, 15, 30, .int wk_3), (r0, 15, 10, .int wc_3), (r0, 15, 7, .int ws_3)] [(r1, 194, n1, ca 1, f1)] [] H_8 locs_8 := ((hh_3.call hb_81 hb_82 hb_83 hb_84 hS_8 rfl (L1 := [(r0, 15, 30, .int wk_3), (r0, 15, 10, .int wc_3), (r0, 15, 7, .int ws_3)]) [0, 1, 2] rfl rfl (M1 := [(r1, 194, n1, ca 1, f1)]) [0] rfl rfl (I1 := []) [] rfl rfl).more hb_85)
          clear hh_3 ht_8 hvm_8 hz_8 hk_8 hS_8 hb_81 hb_82 hb_83 hb_84 hb_85
          obtain ⟨hr_9b, hr_9p⟩ := hr_9
          obtain ⟨hr_9p_0, hr_9p_1⟩ := hr_9p
          have hr_9' := jb_01 hr_9b
          refine lv_if_eq (tgt := 74) hx hb dX13_scan_46 (by decide) (fun c_10 => ?_) (fun c_10 => ?_)
          · skip
            have c_10' : r_9.toInt = 0 := jb_eq (rfl) ((by decide)) c_10
            refine lv_iload hx hb dX13_scan_74 (lv_at hl 0 rfl) ?_
            refine va_calli (A0 := jA base) (H0 := s.heap) (va_runS (As := [.int z_5]) (rest := []) ⟨hx, hb, hml, hown, hts⟩ (uX13_isLetter l dC dI ca base B hB hAp G0 H_8 z_5) (va_cwS 1 hts (jgS (jWr_60 _ (List.mem_of_getElem? (i := 10) rfl)) (jWr_60 _ (List.mem_of_getElem? (i := 11) rfl)) (jWr_12 _ (List.mem_of_getElem? (i := 12) rfl)) (jWr_60 _ (List.mem_of_getElem? (i := 12) rfl))) rfl rfl rfl (by decide +kernel) ⟨by rw [← hR]; exact Nat.le_of_ble_eq_true rfl, by rw [← hR]; exact Nat.le_of_ble_eq_true rfl⟩) ⟨fun a U g mk q => by obtain ⟨q0, q1, q2, qK, q10, q11⟩ := q; exact ⟨q0, q1, q2, jG.calling g mk a qK, q10, q11⟩, fun U hU hW => ⟨rfl, hU, hh_8.2.1, hG.step hW hU hh_8.1, jP.nil, trivial⟩⟩ rfl rfl hl.1 rfl (lv_room (Nat.le_of_ble_eq_true rfl)) dX13_scan_76 ⟨Nat.zero_le _, Nat.zero_le _⟩) hh_8.1 (fun q _ h => h) (fun q h => h) (fun r_12 u_11 t_11 H_11 locs_11 ht_11 hvm_11 hr_12 hb_11 hz_11 hk_11 hS_11 => ?_)
            rw [ht_11] at hb_11
            obtain ⟨hb_111, hb_112, hb_113, hb_114, hb_115⟩ := hb_11
            have hh_11 : jSt (dC, dI) B base G0 G0 EX13_scanv9 s.heap 0 0 [(r0, 15, 30, .int wk_3), (r0, 15, 10, .int wc_3), (r0, 15, 7, .int ws_3)] [(r1, 194, n1, ca 1, f1)] [] H_11 locs_11 := ((hh_8.call hb_111 hb_112 hb_113 hb_114 hS_11 rfl (L1 := [(r0, 15, 30, .int wk_3), (r0, 15, 10, .int wc_3), (r0, 15, 7, .int ws_3)]) [0, 1, 2] rfl rfl (M1 := [(r1, 194, n1, ca 1, f1)]) [0] rfl rfl (I1 := []) [] rfl rfl).more hb_115)
            clear hh_8 ht_11 hvm_11 hz_11 hk_11 hS_11 hb_111 hb_112 hb_113 hb_114 hb_115
            obtain ⟨hr_12b, hr_12p⟩ := hr_12
            have hr_12' := jb_01 hr_12b
            refine lv_if_eq (tgt := 152) hx hb dX13_scan_79 (by decide) (fun c_13 => ?_) (fun c_13 => ?_)
            · skip
              have c_13' : r_12.toInt = 0 := jb_eq (rfl) ((by decide)) c_13
              refine lv_iload hx hb dX13_scan_152 (lv_at hl 0 rfl) ?_
              refine lv_bipush (v := 48) hx hb dX13_scan_154 (by decide) ?_
              refine lv_bipush (v := 57) hx hb dX13_scan_156 (by decide) ?_
              refine va_calli (A0 := jA base) (H0 := s.heap) (va_runSN (As := [.int z_5, .int 48, .int 57]) (rest := []) ⟨hx, hb, hml, hown, hts⟩ (uX14_in l dC dI ca base B hB hAp G0 H_11 z_5 48 57) ⟨va_cnB 3 hts (jgW (jWr_48 _ (List.mem_of_getElem? (i := 12) rfl))) rfl rfl rfl (hG.2.2.1 RX13 132 yX14_in "ProofServerModel" (List.mem_of_getElem? (i := 2577) (by decide +kernel))) (htw (.initialized RX14) (jWr_1 _ (List.mem_of_getElem? (i := 5) rfl))) (by decide +kernel) ⟨by rw [← hR]; exact Nat.le_of_ble_eq_true rfl, by rw [← hR]; exact Nat.le_of_ble_eq_true rfl⟩, htw (.static yX14_in) (jWr_48 _ (List.mem_of_getElem? (i := 11) rfl)), trivial⟩ ⟨fun a U g mk q => by obtain ⟨q0, q1, q2, qK, q10, q11⟩ := q; exact ⟨q0, q1, q2, jG.calling g mk a qK, q10, q11⟩, fun U hU hW => ⟨rfl, hU, hh_11.2.1, hG.step hW hU hh_11.1, jP.nil, trivial⟩⟩ rfl rfl hl.1 rfl (lv_room (Nat.le_of_ble_eq_true rfl)) dX13_scan_158 ⟨Nat.zero_le _, Nat.zero_le _⟩) hh_11.1 (fun q _ h => h) (fun q h => h) (fun r_15 u_14 t_14 H_14 locs_14 ht_14 hvm_14 hr_15 hb_14 hz_14 hk_14 hS_14 => ?_)
              rw [ht_14] at hb_14
              obtain ⟨hb_141, hb_142, hb_143, hb_144, hb_145⟩ := hb_14
              have hh_14 : jSt (dC, dI) B base G0 G0 EX13_scanv9 s.heap 0 0 [(r0, 15, 30, .int wk_3), (r0, 15, 10, .int wc_3), (r0, 15, 7, .int ws_3)] [(r1, 194, n1, ca 1, f1)] [] H_14 locs_14 := ((hh_11.call hb_141 hb_142 hb_143 hb_144 hS_14 rfl (L1 := [(r0, 15, 30, .int wk_3), (r0, 15, 10, .int wc_3), (r0, 15, 7, .int ws_3)]) [0, 1, 2] rfl rfl (M1 := [(r1, 194, n1, ca 1, f1)]) [0] rfl rfl (I1 := []) [] rfl rfl).more hb_145)
              clear hh_11 ht_14 hvm_14 hz_14 hk_14 hS_14 hb_141 hb_142 hb_143 hb_144 hb_145
              obtain ⟨hr_15b, hr_15p⟩ := hr_15
              obtain ⟨hr_15p_0, hr_15p_1, hr_15p_2⟩ := hr_15p
              have hr_15' := jb_01 hr_15b
              refine lv_if_eq (tgt := 180) hx hb dX13_scan_161 (by decide) (fun c_16 => ?_) (fun c_16 => ?_)
              · skip
                have c_16' : r_15.toInt = 0 := jb_eq (rfl) ((by decide)) c_16
                refine lv_iload hx hb dX13_scan_180 (lv_at hl 0 rfl) ?_
                refine lv_bipush (v := 45) hx hb dX13_scan_182 (by decide) ?_
                have C219 : ∀ (H_17 : Heap) (locs_17 : List Loc), jSt (dC, dI) B base G0 G0 EX13_scanv9 s.heap 0 0 [(r0, 15, 30, .int wk_3), (r0, 15, 10, .int wc_3), (r0, 15, 7, .int ws_3)] [(r1, 194, n1, ca 1, f1)] [] H_17 locs_17 → (True) → ∀ ls : Array Slot, lv_has ls 7 [(0, .ref r0), (1, .ref r1), (2, .int a2), (3, .int a3), (4, .int v4_3), (5, .int z_5)] → W p l e R s m ([.ref r0, .ref r1, .int a2, .int a3] : List Value).toArray below meth c H_17 locs_17 0 0 Q (F0 m 219 ls []) := by
                  intro  H_17 locs_17 hh_17  hi_17 ls hl
                  refine lv_iload hx hb dX13_scan_219 (lv_at hl 5 rfl) ?_
                  refine lv_bipush (v := 42) hx hb dX13_scan_221 (by decide) ?_
                  have C295 : ∀ (w0_18 : Int32) (H_18 : Heap) (locs_18 : List Loc), jSt (dC, dI) B base G0 G0 EX13_scanv9 s.heap 0 0 [(r0, 15, 30, .int wk_3), (r0, 15, 10, .int wc_3), (r0, 15, 7, .int ws_3)] [(r1, 194, n1, ca 1, f1)] [] H_18 locs_18 → (w0_18 = 0 ∨ w0_18 = 1) → (w0_18.toInt = 0 ∨ (40 ≤ z_5.toInt ∧ z_5.toInt ≤ 126)) → ∀ ls : Array Slot, lv_has ls 7 [(0, .ref r0), (1, .ref r1), (2, .int a2), (3, .int a3), (4, .int v4_3), (5, .int z_5)] → W p l e R s m ([.ref r0, .ref r1, .int a2, .int a3] : List Value).toArray below meth c H_18 locs_18 0 0 Q (F0 m 295 ls [.int w0_18]) := by
                    intro w0_18 H_18 locs_18 hh_18 hb_w0_18 hi_18 ls hl
                    have hb_w0_18' := jb_01 hb_w0_18
                    refine lv_istore (lv' := [(6, .int w0_18), (0, .ref r0), (1, .ref r1), (2, .int a2), (3, .int a3), (4, .int v4_3), (5, .int z_5)]) hx hb dX13_scan_295 hl (by decide) rfl (fun ls hl => ?_)
                    refine lv_iload hx hb dX13_scan_297 (lv_at hl 0 rfl) ?_
                    refine lv_if_eq (tgt := 312) hx hb dX13_scan_299 (by decide) (fun c_19 => ?_) (fun c_19 => ?_)
                    · skip
                      have c_19' : w0_18.toInt = 0 := jb_eq (rfl) ((by decide)) c_19
                      refine lv_aload_n hx hb dX13_scan_312 rfl (lv_at hl 1 rfl) ?_
                      refine lv_dup hx hb dX13_scan_313 rfl ?_
                      obtain ⟨v_20, hv_20, hh_21⟩ := hh_18.pin (C := RX13) (T := TX13) (N := 50) hB15 rfl (by decide) hg_r0 (i := 31) (by decide) rfl
                      clear hh_18
                      obtain ⟨loose_22, rfl⟩ := hv_20
                      refine j7_read hx hb hown hK (C := RX13) (T := TX13) (N := 50) rfl hly_15_31 hlk_143 (hh_21.at 0 rfl) dX13_scan_314 ?_
                      refine lv_iconst (v := 1) hx hb dX13_scan_317 (by decide) ?_
                      refine lv_iadd hx hb dX13_scan_318 ?_
                      refine lv_topi (fun z_23 ez_23 => ?_)
                      refine j7_put hx hb hown hK hh_21 hB hAp hB15 (C := RX13) (T := TX13) (N := 50) rfl (by decide) hg_r0 (i := 31) (by decide) hly_15_31 rfl hlk_143 rfl (ty := .int) (v := .int z_23) (by decide +kernel) rfl rfl (⟨_, rfl⟩) rfl (L1 := [(r0, 15, 30, .int wk_3), (r0, 15, 10, .int wc_3), (r0, 15, 7, .int ws_3)]) [1, 2, 3] rfl rfl rfl dX13_scan_319 (fun H_24 locs_24 hh_24 => ?_)
                      clear hh_21
                      obtain ⟨z_25, ez_25⟩ : ∃ y : Int32, y = v4_3 + 1 := ⟨_, rfl⟩
                      refine lv_iinc (v := z_25) (lv' := [(4, .int z_25), (6, .int w0_18), (0, .ref r0), (1, .ref r1), (2, .int a2), (3, .int a3), (5, .int z_5)]) hx hb dX13_scan_322 hl (k := 5) rfl (by rw [ez_25]; rfl) (by decide) rfl (fun ls hl => ?_)
                      have hz_25 : z_25.toInt = v4_3.toInt + 1 := by rw [ez_25]; exact jb_iadd2 (rfl) (by decide) (by omega)
                      refine lv_goto (tgt := 13) hx hb dX13_scan_325 (by decide) ?_
                      exact L13 z_25 wk_3 wc_3 ws_3 _ _ (hh_24.sub (L1 := [(r0, 15, 30, .int wk_3), (r0, 15, 10, .int wc_3), (r0, 15, 7, .int ws_3)]) [1, 2, 3] rfl (M1 := [(r1, 194, n1, ca 1, f1)]) [0] rfl (I1 := []) [] rfl) (by first | omega | (refine ⟨?_, ?_, ?_, ?_, ?_, ?_, ?_, ?_⟩ <;> (first | omega | rfl | assumption | decide | exact Or.inl rfl | exact Or.inr rfl | (simp only; omega)))) (by omega) _ (lv_sub hl [2, 3, 4, 5, 0] rfl)
                    · skip
                      have c_19' : w0_18.toInt ≠ 0 := jb_eq_n (rfl) ((by decide)) c_19
                      refine lv_aload_n hx hb dX13_scan_302 rfl (lv_at hl 1 rfl) ?_
                      refine lv_iconst (v := 3) hx hb dX13_scan_303 (by decide) ?_
                      refine lv_iload hx hb dX13_scan_304 (lv_at hl 6 rfl) ?_
                      refine va_callv (A0 := jA base) (H0 := s.heap) (va_runV (As := [.int 3, .int z_5]) (rest := []) ⟨hx, hb, hml, hown, hts⟩ (uX13_token l dC dI ca base B hB hAp hB15 hB157 hB167 G0 H_18 r0 3 z_5 wk_3) (cwV 2 hts (jgV (jWr_60 _ (List.mem_of_getElem? (i := 20) rfl)) (jWr_60 _ (List.mem_of_getElem? (i := 21) rfl)) (jWr_60 _ (List.mem_of_getElem? (i := 22) rfl)) (jWr_12 _ (List.mem_of_getElem? (i := 12) rfl)) (jWr_60 _ (List.mem_of_getElem? (i := 23) rfl))) rfl rfl rfl (by decide +kernel) ⟨by rw [← hR]; exact Nat.le_of_ble_eq_true rfl, by rw [← hR]; exact Nat.le_of_ble_eq_true rfl⟩) ⟨fun a U g mk q => by obtain ⟨q0, q1, q2, qK, q10, q11, q12⟩ := q; exact ⟨q0, q1, q2, jG.calling g mk a qK, q10, q11, q12⟩, hh_18.recv (C := RX13) (T := TX13) (N := 50) hB15 rfl (by decide) hg_r0 hK, fun U hU hW => ⟨rfl, hU, hh_18.2.1, hG.step hW hU hh_18.1, hg_r0, (hh_18.2.2.1.sub (L1 := [(r0, 15, 30, .int wk_3)]) [0] rfl), by first | omega | (refine ⟨?_, ?_, ?_, ?_⟩ <;> (first | omega | rfl | assumption | decide | exact Or.inl rfl | exact Or.inr rfl | (simp only; omega)))⟩⟩ rfl rfl hl.1 rfl (lv_room (Nat.le_of_ble_eq_true rfl)) dX13_scan_306 ⟨Nat.zero_le _, Nat.zero_le _⟩) hh_18.1 (fun q _ h => h) (fun q h => h) (fun u_26 t_26 H_26 locs_26 ht_26 hvm_26 hr_27 hb_26 hz_26 hk_26 hS_26 => ?_)
                      obtain ⟨qk_26, rfl⟩ : ∃ z, z = u_26 := ⟨_, rfl⟩
                      rw [ht_26] at hb_26
                      obtain ⟨hb_261, hb_262, hb_263, hb_264, hb_265⟩ := hb_26
                      have hh_26 : jSt (dC, dI) B base G0 G0 EX13_scanv9 s.heap 0 0 [(r0, 15, 30, .int qk_26), (r0, 15, 10, .int wc_3), (r0, 15, 7, .int ws_3)] [(r1, 194, n1, ca 1, f1)] [] H_26 locs_26 := ((hh_18.call hb_261 hb_262 hb_263 hb_264 hS_26 rfl (L1 := [(r0, 15, 10, .int wc_3), (r0, 15, 7, .int ws_3)]) [1, 2] rfl rfl (M1 := [(r1, 194, n1, ca 1, f1)]) [0] rfl rfl (I1 := []) [] rfl rfl).more hb_265)
                      clear hh_18 ht_26 hvm_26 hz_26 hk_26 hS_26 hb_261 hb_262 hb_263 hb_264 hb_265
                      refine lv_goto (tgt := 322) hx hb dX13_scan_309 (by decide) ?_
                      obtain ⟨z_28, ez_28⟩ : ∃ y : Int32, y = v4_3 + 1 := ⟨_, rfl⟩
                      refine lv_iinc (v := z_28) (lv' := [(4, .int z_28), (6, .int w0_18), (0, .ref r0), (1, .ref r1), (2, .int a2), (3, .int a3), (5, .int z_5)]) hx hb dX13_scan_322 hl (k := 5) rfl (by rw [ez_28]; rfl) (by decide) rfl (fun ls hl => ?_)
                      have hz_28 : z_28.toInt = v4_3.toInt + 1 := by rw [ez_28]; exact jb_iadd2 (rfl) (by decide) (by omega)
                      refine lv_goto (tgt := 13) hx hb dX13_scan_325 (by decide) ?_
                      exact L13 z_28 qk_26 wc_3 ws_3 _ _ hh_26 (by first | omega | (refine ⟨?_, ?_, ?_, ?_, ?_, ?_, ?_, ?_⟩ <;> (first | omega | rfl | assumption | decide | exact Or.inl rfl | exact Or.inr rfl | (simp only; omega)))) (by omega) _ (lv_sub hl [2, 3, 4, 5, 0] rfl)
                  have C290 : ∀ (H_29 : Heap) (locs_29 : List Loc), jSt (dC, dI) B base G0 G0 EX13_scanv9 s.heap 0 0 [(r0, 15, 30, .int wk_3), (r0, 15, 10, .int wc_3), (r0, 15, 7, .int ws_3)] [(r1, 194, n1, ca 1, f1)] [] H_29 locs_29 → (40 ≤ z_5.toInt ∧ z_5.toInt ≤ 126) → ∀ ls : Array Slot, lv_has ls 7 [(0, .ref r0), (1, .ref r1), (2, .int a2), (3, .int a3), (4, .int v4_3), (5, .int z_5)] → W p l e R s m ([.ref r0, .ref r1, .int a2, .int a3] : List Value).toArray below meth c H_29 locs_29 0 0 Q (F0 m 290 ls []) := by
                    intro  H_29 locs_29 hh_29  hi_29 ls hl
                    obtain ⟨hi_29_0, hi_29_1⟩ := hi_29
                    refine lv_iconst (v := 1) hx hb dX13_scan_290 (by decide) ?_
                    refine lv_goto (tgt := 295) hx hb dX13_scan_291 (by decide) ?_
                    exact C295 1 _ _ hh_29 (Or.inr rfl) (by first | omega | rfl | assumption | decide | exact Or.inl rfl | exact Or.inr rfl | (simp only; omega)) _ (lv_sub hl [0, 1, 2, 3, 4, 5] rfl)
                  refine lv_icmp_eq (tgt := 290) hx hb dX13_scan_223 (by decide) (fun c_30 => ?_) (fun c_30 => ?_)
                  · skip
                    have c_30' : z_5.toInt = 42 := jb_eq (rfl) ((by decide)) c_30
                    exact C290  _ _ hh_17 (by first | omega | (refine ⟨?_, ?_⟩ <;> (first | omega | rfl | assumption | decide | exact Or.inl rfl | exact Or.inr rfl | (simp only; omega)))) _ (lv_sub hl [0, 1, 2, 3, 4, 5] rfl)
                  · skip
                    have c_30' : z_5.toInt ≠ 42 := jb_eq_n (rfl) ((by decide)) c_30
                    refine lv_iload hx hb dX13_scan_226 (lv_at hl 5 rfl) ?_
                    refine lv_bipush (v := 43) hx hb dX13_scan_228 (by decide) ?_
                    refine lv_icmp_eq (tgt := 290) hx hb dX13_scan_230 (by decide) (fun c_31 => ?_) (fun c_31 => ?_)
                    · skip
                      have c_31' : z_5.toInt = 43 := jb_eq (rfl) ((by decide)) c_31
                      exact C290  _ _ hh_17 (by first | omega | (refine ⟨?_, ?_⟩ <;> (first | omega | rfl | assumption | decide | exact Or.inl rfl | exact Or.inr rfl | (simp only; omega)))) _ (lv_sub hl [0, 1, 2, 3, 4, 5] rfl)
                    · skip
                      have c_31' : z_5.toInt ≠ 43 := jb_eq_n (rfl) ((by decide)) c_31
                      refine lv_iload hx hb dX13_scan_233 (lv_at hl 5 rfl) ?_
                      refine lv_bipush (v := 126) hx hb dX13_scan_235 (by decide) ?_
                      refine lv_icmp_eq (tgt := 290) hx hb dX13_scan_237 (by decide) (fun c_32 => ?_) (fun c_32 => ?_)
                      · skip
                        have c_32' : z_5.toInt = 126 := jb_eq (rfl) ((by decide)) c_32
                        exact C290  _ _ hh_17 (by first | omega | (refine ⟨?_, ?_⟩ <;> (first | omega | rfl | assumption | decide | exact Or.inl rfl | exact Or.inr rfl | (simp only; omega)))) _ (lv_sub hl [0, 1, 2, 3, 4, 5] rfl)
                      · skip
                        have c_32' : z_5.toInt ≠ 126 := jb_eq_n (rfl) ((by decide)) c_32
                        refine lv_iload hx hb dX13_scan_240 (lv_at hl 5 rfl) ?_
                        refine lv_bipush (v := 61) hx hb dX13_scan_242 (by decide) ?_
                        refine lv_icmp_eq (tgt := 290) hx hb dX13_scan_244 (by decide) (fun c_33 => ?_) (fun c_33 => ?_)
                        · skip
                          have c_33' : z_5.toInt = 61 := jb_eq (rfl) ((by decide)) c_33
                          exact C290  _ _ hh_17 (by first | omega | (refine ⟨?_, ?_⟩ <;> (first | omega | rfl | assumption | decide | exact Or.inl rfl | exact Or.inr rfl | (simp only; omega)))) _ (lv_sub hl [0, 1, 2, 3, 4, 5] rfl)
                        · skip
                          have c_33' : z_5.toInt ≠ 61 := jb_eq_n (rfl) ((by decide)) c_33
                          refine lv_iload hx hb dX13_scan_247 (lv_at hl 5 rfl) ?_
                          refine lv_bipush (v := 58) hx hb dX13_scan_249 (by decide) ?_
                          refine lv_icmp_eq (tgt := 290) hx hb dX13_scan_251 (by decide) (fun c_34 => ?_) (fun c_34 => ?_)
                          · skip
                            have c_34' : z_5.toInt = 58 := jb_eq (rfl) ((by decide)) c_34
                            exact C290  _ _ hh_17 (by first | omega | (refine ⟨?_, ?_⟩ <;> (first | omega | rfl | assumption | decide | exact Or.inl rfl | exact Or.inr rfl | (simp only; omega)))) _ (lv_sub hl [0, 1, 2, 3, 4, 5] rfl)
                          · skip
                            have c_34' : z_5.toInt ≠ 58 := jb_eq_n (rfl) ((by decide)) c_34
                            refine lv_iload hx hb dX13_scan_254 (lv_at hl 5 rfl) ?_
                            refine lv_bipush (v := 44) hx hb dX13_scan_256 (by decide) ?_
                            refine lv_icmp_eq (tgt := 290) hx hb dX13_scan_258 (by decide) (fun c_35 => ?_) (fun c_35 => ?_)
                            · skip
                              have c_35' : z_5.toInt = 44 := jb_eq (rfl) ((by decide)) c_35
                              exact C290  _ _ hh_17 (by first | omega | (refine ⟨?_, ?_⟩ <;> (first | omega | rfl | assumption | decide | exact Or.inl rfl | exact Or.inr rfl | (simp only; omega)))) _ (lv_sub hl [0, 1, 2, 3, 4, 5] rfl)
                            · skip
                              have c_35' : z_5.toInt ≠ 44 := jb_eq_n (rfl) ((by decide)) c_35
                              refine lv_iload hx hb dX13_scan_261 (lv_at hl 5 rfl) ?_
                              refine lv_bipush (v := 40) hx hb dX13_scan_263 (by decide) ?_
                              refine lv_icmp_eq (tgt := 290) hx hb dX13_scan_265 (by decide) (fun c_36 => ?_) (fun c_36 => ?_)
                              · skip
                                have c_36' : z_5.toInt = 40 := jb_eq (rfl) ((by decide)) c_36
                                exact C290  _ _ hh_17 (by first | omega | (refine ⟨?_, ?_⟩ <;> (first | omega | rfl | assumption | decide | exact Or.inl rfl | exact Or.inr rfl | (simp only; omega)))) _ (lv_sub hl [0, 1, 2, 3, 4, 5] rfl)
                              · skip
                                have c_36' : z_5.toInt ≠ 40 := jb_eq_n (rfl) ((by decide)) c_36
                                refine lv_iload hx hb dX13_scan_268 (lv_at hl 5 rfl) ?_
                                refine lv_bipush (v := 41) hx hb dX13_scan_270 (by decide) ?_
                                refine lv_icmp_eq (tgt := 290) hx hb dX13_scan_272 (by decide) (fun c_37 => ?_) (fun c_37 => ?_)
                                · skip
                                  have c_37' : z_5.toInt = 41 := jb_eq (rfl) ((by decide)) c_37
                                  exact C290  _ _ hh_17 (by first | omega | (refine ⟨?_, ?_⟩ <;> (first | omega | rfl | assumption | decide | exact Or.inl rfl | exact Or.inr rfl | (simp only; omega)))) _ (lv_sub hl [0, 1, 2, 3, 4, 5] rfl)
                                · skip
                                  have c_37' : z_5.toInt ≠ 41 := jb_eq_n (rfl) ((by decide)) c_37
                                  refine lv_iload hx hb dX13_scan_275 (lv_at hl 5 rfl) ?_
                                  refine lv_bipush (v := 46) hx hb dX13_scan_277 (by decide) ?_
                                  refine lv_icmp_ne (tgt := 294) hx hb dX13_scan_279 (by decide) (fun c_38 => ?_) (fun c_38 => ?_)
                                  · skip
                                    have c_38' : z_5.toInt ≠ 46 := jb_ne (rfl) ((by decide)) c_38
                                    refine lv_iconst (v := 0) hx hb dX13_scan_294 (by decide) ?_
                                    exact C295 0 _ _ hh_17 (Or.inl rfl) (by first | omega | rfl | assumption | decide | exact Or.inl rfl | exact Or.inr rfl | (simp only; omega)) _ (lv_sub hl [0, 1, 2, 3, 4, 5] rfl)
                                  · skip
                                    have c_38' : z_5.toInt = 46 := jb_ne_n (rfl) ((by decide)) c_38
                                    refine lv_iload hx hb dX13_scan_282 (lv_at hl 4 rfl) ?_
                                    refine lv_iconst (v := 1) hx hb dX13_scan_284 (by decide) ?_
                                    refine lv_iadd hx hb dX13_scan_285 ?_
                                    refine lv_topi (fun z_39 ez_39 => ?_)
                                    have hz_39 : z_39.toInt = v4_3.toInt + 1 := by rw [ez_39]; exact jb_iadd2 (rfl) ((by decide)) (by omega)
                                    refine lv_iload_n hx hb dX13_scan_286 rfl (lv_at hl 3 rfl) ?_
                                    refine lv_icmp_ne (tgt := 294) hx hb dX13_scan_287 (by decide) (fun c_40 => ?_) (fun c_40 => ?_)
                                    · skip
                                      have c_40' : z_39.toInt ≠ a3.toInt := jb_ne (rfl) (rfl) c_40
                                      refine lv_iconst (v := 0) hx hb dX13_scan_294 (by decide) ?_
                                      exact C295 0 _ _ hh_17 (Or.inl rfl) (by first | omega | rfl | assumption | decide | exact Or.inl rfl | exact Or.inr rfl | (simp only; omega)) _ (lv_sub hl [0, 1, 2, 3, 4, 5] rfl)
                                    · skip
                                      have c_40' : z_39.toInt = a3.toInt := jb_ne_n (rfl) (rfl) c_40
                                      exact C290  _ _ hh_17 (by first | omega | (refine ⟨?_, ?_⟩ <;> (first | omega | rfl | assumption | decide | exact Or.inl rfl | exact Or.inr rfl | (simp only; omega)))) _ (lv_sub hl [0, 1, 2, 3, 4, 5] rfl)
                refine lv_icmp_ne (tgt := 219) hx hb dX13_scan_184 (by decide) (fun c_41 => ?_) (fun c_41 => ?_)
                · skip
                  have c_41' : z_5.toInt ≠ 45 := jb_ne (rfl) ((by decide)) c_41
                  exact C219  _ _ hh_14 (trivial) _ (lv_sub hl [1, 2, 3, 4, 5, 0] rfl)
                · skip
                  have c_41' : z_5.toInt = 45 := jb_ne_n (rfl) ((by decide)) c_41
                  refine lv_iload hx hb dX13_scan_187 (lv_at hl 5 rfl) ?_
                  refine lv_iconst (v := 1) hx hb dX13_scan_189 (by decide) ?_
                  refine lv_iadd hx hb dX13_scan_190 ?_
                  refine lv_topi (fun z_42 ez_42 => ?_)
                  have hz_42 : z_42.toInt = v4_3.toInt + 1 := by rw [ez_42]; exact jb_iadd2 (rfl) ((by decide)) (by omega)
                  refine lv_iload_n hx hb dX13_scan_191 rfl (lv_at hl 4 rfl) ?_
                  refine lv_icmp_ge (tgt := 219) hx hb dX13_scan_192 (by decide) (fun c_43 => ?_) (fun c_43 => ?_)
                  · skip
                    have c_43' : z_42.toInt ≥ a3.toInt := jb_ge (rfl) (rfl) c_43
                    exact C219  _ _ hh_14 (trivial) _ (lv_sub hl [1, 2, 3, 4, 5, 0] rfl)
                  · skip
                    have c_43' : z_42.toInt < a3.toInt := jb_ge_n (rfl) (rfl) c_43
                    refine lv_aload_n hx hb dX13_scan_195 rfl (lv_at hl 2 rfl) ?_
                    refine lv_iload hx hb dX13_scan_196 (lv_at hl 5 rfl) ?_
                    refine lv_iconst (v := 1) hx hb dX13_scan_198 (by decide) ?_
                    refine lv_iadd hx hb dX13_scan_199 ?_
                    refine lv_topi (fun z_44 ez_44 => ?_)
                    have hz_44 : z_44.toInt = v4_3.toInt + 1 := by rw [ez_44]; exact jb_iadd2 (rfl) ((by decide)) (by omega)
                    refine j7_ialdM hx hb hK hh_14 hB194 1 rfl (by decide) hg_r1 (x := z_44.toInt) (rfl) (by omega) (j := 0) rfl dX13_scan_200 (fun z_45 ez_45 (hz_45 : True) => ?_)
                    have hqz_45 : z_45.toInt = (f1 ((v4_3.toInt + 1)).toNat).toInt := by rw [ez_45, show z_44.toInt = (v4_3.toInt + 1) by omega]
                    first | have hqz_45_46 : z_45.toInt = (f1 (v4_3.toInt).toNat).toInt := by rw [ez_45, show z_44.toInt = v4_3.toInt by omega] | skip
                    have hjz_45 : jLt z_45.toInt = jLt (f1 ((v4_3.toInt + 1)).toNat).toInt := by rw [hqz_45]
                    refine lv_bipush (v := 62) hx hb dX13_scan_201 (by decide) ?_
                    refine lv_icmp_ne (tgt := 219) hx hb dX13_scan_203 (by decide) (fun c_47 => ?_) (fun c_47 => ?_)
                    · skip
                      have c_47' : z_45.toInt ≠ 62 := jb_ne (rfl) ((by decide)) c_47
                      exact C219  _ _ hh_14 (trivial) _ (lv_sub hl [1, 2, 3, 4, 5, 0] rfl)
                    · skip
                      have c_47' : z_45.toInt = 62 := jb_ne_n (rfl) ((by decide)) c_47
                      refine lv_aload_n hx hb dX13_scan_206 rfl (lv_at hl 1 rfl) ?_
                      refine lv_iconst (v := 3) hx hb dX13_scan_207 (by decide) ?_
                      refine lv_bipush (v := 62) hx hb dX13_scan_208 (by decide) ?_
                      refine va_callv (A0 := jA base) (H0 := s.heap) (va_runV (As := [.int 3, .int 62]) (rest := []) ⟨hx, hb, hml, hown, hts⟩ (uX13_token l dC dI ca base B hB hAp hB15 hB157 hB167 G0 H_14 r0 3 62 wk_3) (cwV 2 hts (jgV (jWr_60 _ (List.mem_of_getElem? (i := 20) rfl)) (jWr_60 _ (List.mem_of_getElem? (i := 21) rfl)) (jWr_60 _ (List.mem_of_getElem? (i := 22) rfl)) (jWr_12 _ (List.mem_of_getElem? (i := 12) rfl)) (jWr_60 _ (List.mem_of_getElem? (i := 23) rfl))) rfl rfl rfl (by decide +kernel) ⟨by rw [← hR]; exact Nat.le_of_ble_eq_true rfl, by rw [← hR]; exact Nat.le_of_ble_eq_true rfl⟩) ⟨fun a U g mk q => by obtain ⟨q0, q1, q2, qK, q10, q11, q12⟩ := q; exact ⟨q0, q1, q2, jG.calling g mk a qK, q10, q11, q12⟩, hh_14.recv (C := RX13) (T := TX13) (N := 50) hB15 rfl (by decide) hg_r0 hK, fun U hU hW => ⟨rfl, hU, hh_14.2.1, hG.step hW hU hh_14.1, hg_r0, (hh_14.2.2.1.sub (L1 := [(r0, 15, 30, .int wk_3)]) [0] rfl), by first | omega | (refine ⟨?_, ?_, ?_, ?_⟩ <;> (first | omega | rfl | assumption | decide | exact Or.inl rfl | exact Or.inr rfl | (simp only; omega)))⟩⟩ rfl rfl hl.1 rfl (lv_room (Nat.le_of_ble_eq_true rfl)) dX13_scan_210 ⟨Nat.zero_le _, Nat.zero_le _⟩) hh_14.1 (fun q _ h => h) (fun q h => h) (fun u_48 t_48 H_48 locs_48 ht_48 hvm_48 hr_49 hb_48 hz_48 hk_48 hS_48 => ?_)
                      obtain ⟨qk_48, rfl⟩ : ∃ z, z = u_48 := ⟨_, rfl⟩
                      rw [ht_48] at hb_48
                      obtain ⟨hb_481, hb_482, hb_483, hb_484, hb_485⟩ := hb_48
                      have hh_48 : jSt (dC, dI) B base G0 G0 EX13_scanv9 s.heap 0 0 [(r0, 15, 30, .int qk_48), (r0, 15, 10, .int wc_3), (r0, 15, 7, .int ws_3)] [(r1, 194, n1, ca 1, f1)] [] H_48 locs_48 := ((hh_14.call hb_481 hb_482 hb_483 hb_484 hS_48 rfl (L1 := [(r0, 15, 10, .int wc_3), (r0, 15, 7, .int ws_3)]) [1, 2] rfl rfl (M1 := [(r1, 194, n1, ca 1, f1)]) [0] rfl rfl (I1 := []) [] rfl rfl).more hb_485)
                      clear hh_14 ht_48 hvm_48 hz_48 hk_48 hS_48 hb_481 hb_482 hb_483 hb_484 hb_485
                      obtain ⟨z_50, ez_50⟩ : ∃ y : Int32, y = v4_3 + 2 := ⟨_, rfl⟩
                      refine lv_iinc (v := z_50) (lv' := [(4, .int z_50), (5, .int z_5), (0, .ref r0), (1, .ref r1), (2, .int a2), (3, .int a3)]) hx hb dX13_scan_213 hl (k := 5) rfl (by rw [ez_50]; rfl) (by decide) rfl (fun ls hl => ?_)
                      have hz_50 : z_50.toInt = v4_3.toInt + 2 := by rw [ez_50]; exact jb_iadd2 (rfl) (by decide) (by omega)
                      refine lv_goto (tgt := 325) hx hb dX13_scan_216 (by decide) ?_
                      refine lv_goto (tgt := 13) hx hb dX13_scan_325 (by decide) ?_
                      exact L13 z_50 qk_48 wc_3 ws_3 _ _ hh_48 (by first | omega | (refine ⟨?_, ?_, ?_, ?_, ?_, ?_, ?_, ?_⟩ <;> (first | omega | rfl | assumption | decide | exact Or.inl rfl | exact Or.inr rfl | (simp only; omega)))) (by omega) _ (lv_sub hl [2, 3, 4, 5, 0] rfl)
              · skip
                have c_16' : r_15.toInt ≠ 0 := jb_eq_n (rfl) ((by decide)) c_16
                refine lv_aload_n hx hb dX13_scan_164 rfl (lv_at hl 1 rfl) ?_
                refine lv_iconst (v := 2) hx hb dX13_scan_165 (by decide) ?_
                refine lv_iload hx hb dX13_scan_166 (lv_at hl 0 rfl) ?_
                refine lv_bipush (v := 48) hx hb dX13_scan_168 (by decide) ?_
                refine lv_isub hx hb dX13_scan_170 ?_
                refine lv_topi (fun z_51 ez_51 => ?_)
                have hz_51 : z_51.toInt = z_5.toInt - 48 := by rw [ez_51]; exact jb_isub2 (rfl) ((by decide)) (by omega)
                refine va_callv (A0 := jA base) (H0 := s.heap) (va_runV (As := [.int 2, .int z_51]) (rest := []) ⟨hx, hb, hml, hown, hts⟩ (uX13_token l dC dI ca base B hB hAp hB15 hB157 hB167 G0 H_14 r0 2 z_51 wk_3) (cwV 2 hts (jgV (jWr_60 _ (List.mem_of_getElem? (i := 20) rfl)) (jWr_60 _ (List.mem_of_getElem? (i := 21) rfl)) (jWr_60 _ (List.mem_of_getElem? (i := 22) rfl)) (jWr_12 _ (List.mem_of_getElem? (i := 12) rfl)) (jWr_60 _ (List.mem_of_getElem? (i := 23) rfl))) rfl rfl rfl (by decide +kernel) ⟨by rw [← hR]; exact Nat.le_of_ble_eq_true rfl, by rw [← hR]; exact Nat.le_of_ble_eq_true rfl⟩) ⟨fun a U g mk q => by obtain ⟨q0, q1, q2, qK, q10, q11, q12⟩ := q; exact ⟨q0, q1, q2, jG.calling g mk a qK, q10, q11, q12⟩, hh_14.recv (C := RX13) (T := TX13) (N := 50) hB15 rfl (by decide) hg_r0 hK, fun U hU hW => ⟨rfl, hU, hh_14.2.1, hG.step hW hU hh_14.1, hg_r0, (hh_14.2.2.1.sub (L1 := [(r0, 15, 30, .int wk_3)]) [0] rfl), by first | omega | (refine ⟨?_, ?_, ?_, ?_⟩ <;> (first | omega | rfl | assumption | decide | exact Or.inl rfl | exact Or.inr rfl | (simp only; omega)))⟩⟩ rfl rfl hl.1 rfl (lv_room (Nat.le_of_ble_eq_true rfl)) dX13_scan_171 ⟨Nat.zero_le _, Nat.zero_le _⟩) hh_14.1 (fun q _ h => h) (fun q h => h) (fun u_52 t_52 H_52 locs_52 ht_52 hvm_52 hr_53 hb_52 hz_52 hk_52 hS_52 => ?_)
                obtain ⟨qk_52, rfl⟩ : ∃ z, z = u_52 := ⟨_, rfl⟩
                rw [ht_52] at hb_52
                obtain ⟨hb_521, hb_522, hb_523, hb_524, hb_525⟩ := hb_52
                have hh_52 : jSt (dC, dI) B base G0 G0 EX13_scanv9 s.heap 0 0 [(r0, 15, 30, .int qk_52), (r0, 15, 10, .int wc_3), (r0, 15, 7, .int ws_3)] [(r1, 194, n1, ca 1, f1)] [] H_52 locs_52 := ((hh_14.call hb_521 hb_522 hb_523 hb_524 hS_52 rfl (L1 := [(r0, 15, 10, .int wc_3), (r0, 15, 7, .int ws_3)]) [1, 2] rfl rfl (M1 := [(r1, 194, n1, ca 1, f1)]) [0] rfl rfl (I1 := []) [] rfl rfl).more hb_525)
                clear hh_14 ht_52 hvm_52 hz_52 hk_52 hS_52 hb_521 hb_522 hb_523 hb_524 hb_525
                obtain ⟨z_54, ez_54⟩ : ∃ y : Int32, y = v4_3 + 1 := ⟨_, rfl⟩
                refine lv_iinc (v := z_54) (lv' := [(4, .int z_54), (5, .int z_5), (0, .ref r0), (1, .ref r1), (2, .int a2), (3, .int a3)]) hx hb dX13_scan_174 hl (k := 5) rfl (by rw [ez_54]; rfl) (by decide) rfl (fun ls hl => ?_)
                have hz_54 : z_54.toInt = v4_3.toInt + 1 := by rw [ez_54]; exact jb_iadd2 (rfl) (by decide) (by omega)
                refine lv_goto (tgt := 325) hx hb dX13_scan_177 (by decide) ?_
                refine lv_goto (tgt := 13) hx hb dX13_scan_325 (by decide) ?_
                exact L13 z_54 qk_52 wc_3 ws_3 _ _ hh_52 (by first | omega | (refine ⟨?_, ?_, ?_, ?_, ?_, ?_, ?_, ?_⟩ <;> (first | omega | rfl | assumption | decide | exact Or.inl rfl | exact Or.inr rfl | (simp only; omega)))) (by omega) _ (lv_sub hl [2, 3, 4, 5, 0] rfl)
            · skip
              have c_13' : r_12.toInt ≠ 0 := jb_eq_n (rfl) ((by decide)) c_13
              refine lv_iload hx hb dX13_scan_82 (lv_at hl 5 rfl) ?_
              refine lv_istore (lv' := [(6, .int v4_3), (5, .int z_5), (0, .ref r0), (1, .ref r1), (2, .int a2), (3, .int a3), (4, .int v4_3)]) hx hb dX13_scan_84 hl (by decide) rfl (fun ls hl => ?_)
              have L86 : ∀ (N : Nat) (v4_55 : Int32) (H_55 : Heap) (locs_55 : List Loc), jSt (dC, dI) B base G0 G0 EX13_scanv9 s.heap 0 0 [(r0, 15, 30, .int wk_3), (r0, 15, 10, .int wc_3), (r0, 15, 7, .int ws_3)] [(r1, 194, n1, ca 1, f1)] [] H_55 locs_55 → (v4_3.toInt ≤ v4_55.toInt ∧ v4_55.toInt ≤ a3.toInt ∧ (v4_3.toInt < v4_55.toInt ∨ jLt (f1 (v4_3.toInt).toNat).toInt = 1)) → (a3.toInt - v4_55.toInt : Int) < N → ∀ ls : Array Slot, lv_has ls 7 [(0, .ref r0), (1, .ref r1), (2, .int a2), (3, .int a3), (4, .int v4_55), (5, .int z_5), (6, .int v4_3)] → W p l e R s m ([.ref r0, .ref r1, .int a2, .int a3] : List Value).toArray below meth c H_55 locs_55 0 0 Q (F0 m 86 ls []) := by
                intro N
                induction N with
                | zero => intro v4_55 H_55 locs_55 hh_55  hi_55 hm; exact absurd hm (by omega)
                | succ N L86 =>
                  intro v4_55 H_55 locs_55 hh_55  hi_55 hm_55 ls hl
                  obtain ⟨hi_55_0, hi_55_1, hi_55_2⟩ := hi_55
                  have hcg : v4_55.toInt = v4_3.toInt → jLt (f1 (v4_55.toInt).toNat).toInt = jLt (f1 (v4_3.toInt).toNat).toInt := fun h => by rw [h]
                  refine lv_iload hx hb dX13_scan_86 (lv_at hl 4 rfl) ?_
                  refine lv_iload_n hx hb dX13_scan_88 rfl (lv_at hl 3 rfl) ?_
                  refine lv_icmp_ge (tgt := 108) hx hb dX13_scan_89 (by decide) (fun c_56 => ?_) (fun c_56 => ?_)
                  · skip
                    have c_56' : v4_55.toInt ≥ a3.toInt := jb_ge (rfl) (rfl) c_56
                    refine lv_iload hx hb dX13_scan_108 (lv_at hl 4 rfl) ?_
                    refine lv_iload hx hb dX13_scan_110 (lv_at hl 6 rfl) ?_
                    refine lv_isub hx hb dX13_scan_112 ?_
                    refine lv_topi (fun z_57 ez_57 => ?_)
                    have hz_57 : z_57.toInt = v4_55.toInt - v4_3.toInt := by rw [ez_57]; exact jb_isub2 (rfl) (rfl) (by omega)
                    refine lv_bipush (v := 10) hx hb dX13_scan_113 (by decide) ?_
                    refine lv_icmp_le (tgt := 135) hx hb dX13_scan_115 (by decide) (fun c_58 => ?_) (fun c_58 => ?_)
                    · skip
                      have c_58' : z_57.toInt ≤ 10 := jb_le (rfl) ((by decide)) c_58
                      refine lv_aload_n hx hb dX13_scan_135 rfl (lv_at hl 0 rfl) ?_
                      refine lv_iconst (v := 1) hx hb dX13_scan_136 (by decide) ?_
                      refine lv_aload_n hx hb dX13_scan_137 rfl (lv_at hl 0 rfl) ?_
                      refine lv_aload_n hx hb dX13_scan_138 rfl (lv_at hl 1 rfl) ?_
                      refine lv_iload hx hb dX13_scan_139 (lv_at hl 6 rfl) ?_
                      refine lv_iload hx hb dX13_scan_141 (lv_at hl 4 rfl) ?_
                      refine va_calli (A0 := jA base) (H0 := s.heap) (va_runV (As := [.ref r1, .int v4_3, .int v4_55]) (rest := [.int 1, .ref r0]) ⟨hx, hb, hml, hown, hts⟩ (uX13_nameOfv9 l dC dI ca base B hB hAp hB15 hB155 hB156 hB166 hB194 G0 H_55 r0 r1 v4_3 v4_55 n1 wc_3 ws_3) (cwV 3 hts (jgV (jWr_60 _ (List.mem_of_getElem? (i := 16) rfl)) (jWr_60 _ (List.mem_of_getElem? (i := 17) rfl)) (jWr_60 _ (List.mem_of_getElem? (i := 18) rfl)) (jWr_12 _ (List.mem_of_getElem? (i := 12) rfl)) (jWr_60 _ (List.mem_of_getElem? (i := 19) rfl))) rfl rfl rfl (by decide +kernel) ⟨by rw [← hR]; exact Nat.le_of_ble_eq_true rfl, by rw [← hR]; exact Nat.le_of_ble_eq_true rfl⟩) ⟨fun a U g mk q => by obtain ⟨q0, q1, q2, qK, q10, q11, q12, q13⟩ := q; exact ⟨q0, q1, q2, jG.calling g mk a qK, q10, q11, q12, q13⟩, hh_55.recv (C := RX13) (T := TX13) (N := 50) hB15 rfl (by decide) hg_r0 hK, fun U hU hW => ⟨rfl, hU, hh_55.2.1, hG.step hW hU hh_55.1, hg_r1, hg_r0, (hh_55.2.2.1.sub (L1 := [(r0, 15, 10, .int wc_3), (r0, 15, 7, .int ws_3)]) [1, 2] rfl), by first | omega | (refine ⟨?_, ?_, ?_, ?_, ?_, ?_, ?_, ?_, ?_⟩ <;> (first | omega | rfl | assumption | decide | exact Or.inl rfl | exact Or.inr rfl | (simp only; omega)))⟩⟩ rfl rfl hl.1 rfl (lv_room (Nat.le_of_ble_eq_true rfl)) dX13_scan_143 ⟨Nat.zero_le _, Nat.zero_le _⟩) hh_55.1 (fun q _ h => h) (fun q h => h) (fun r_60 u_59 t_59 H_59 locs_59 ht_59 hvm_59 hr_60 hb_59 hz_59 hk_59 hS_59 => ?_)
                      obtain ⟨qc_59, qs_59⟩ := u_59
                      rw [ht_59] at hb_59
                      obtain ⟨hb_591, hb_592, hb_593, hb_594, hb_595⟩ := hb_59
                      have hh_59 : jSt (dC, dI) B base G0 G0 EX13_scanv9 s.heap 0 0 [(r0, 15, 10, .int qc_59), (r0, 15, 7, .int qs_59), (r0, 15, 30, .int wk_3)] [(r1, 194, n1, ca 1, f1)] [] H_59 locs_59 := ((hh_55.call hb_591 hb_592 hb_593 hb_594 hS_59 rfl (L1 := [(r0, 15, 30, .int wk_3)]) [0] rfl rfl (M1 := [(r1, 194, n1, ca 1, f1)]) [0] rfl rfl (I1 := []) [] rfl rfl).more hb_595)
                      clear hh_55 ht_59 hvm_59 hz_59 hk_59 hS_59 hb_591 hb_592 hb_593 hb_594 hb_595
                      try simp only at hr_60
                      obtain ⟨hr_60_0, hr_60_1, hr_60_2, hr_60_3, hr_60_4, hr_60_5⟩ := hr_60
                      refine va_callv (A0 := jA base) (H0 := s.heap) (va_runV (As := [.int 1, .int r_60]) (rest := []) ⟨hx, hb, hml, hown, hts⟩ (uX13_token l dC dI ca base B hB hAp hB15 hB157 hB167 G0 H_59 r0 1 r_60 wk_3) (cwV 2 hts (jgV (jWr_60 _ (List.mem_of_getElem? (i := 20) rfl)) (jWr_60 _ (List.mem_of_getElem? (i := 21) rfl)) (jWr_60 _ (List.mem_of_getElem? (i := 22) rfl)) (jWr_12 _ (List.mem_of_getElem? (i := 12) rfl)) (jWr_60 _ (List.mem_of_getElem? (i := 23) rfl))) rfl rfl rfl (by decide +kernel) ⟨by rw [← hR]; exact Nat.le_of_ble_eq_true rfl, by rw [← hR]; exact Nat.le_of_ble_eq_true rfl⟩) ⟨fun a U g mk q => by obtain ⟨q0, q1, q2, qK, q10, q11, q12⟩ := q; exact ⟨q0, q1, q2, jG.calling g mk a qK, q10, q11, q12⟩, hh_59.recv (C := RX13) (T := TX13) (N := 50) hB15 rfl (by decide) hg_r0 hK, fun U hU hW => ⟨rfl, hU, hh_59.2.1, hG.step hW hU hh_59.1, hg_r0, (hh_59.2.2.1.sub (L1 := [(r0, 15, 30, .int wk_3)]) [2] rfl), by first | omega | (refine ⟨?_, ?_, ?_, ?_⟩ <;> (first | omega | rfl | assumption | decide | exact Or.inl rfl | exact Or.inr rfl | (simp only; omega)))⟩⟩ rfl rfl hl.1 rfl (lv_room (Nat.le_of_ble_eq_true rfl)) dX13_scan_146 ⟨Nat.zero_le _, Nat.zero_le _⟩) hh_59.1 (fun q _ h => h) (fun q h => h) (fun u_61 t_61 H_61 locs_61 ht_61 hvm_61 hr_62 hb_61 hz_61 hk_61 hS_61 => ?_)
                      obtain ⟨qk_61, rfl⟩ : ∃ z, z = u_61 := ⟨_, rfl⟩
                      rw [ht_61] at hb_61
                      obtain ⟨hb_611, hb_612, hb_613, hb_614, hb_615⟩ := hb_61
                      have hh_61 : jSt (dC, dI) B base G0 G0 EX13_scanv9 s.heap 0 0 [(r0, 15, 30, .int qk_61), (r0, 15, 10, .int qc_59), (r0, 15, 7, .int qs_59)] [(r1, 194, n1, ca 1, f1)] [] H_61 locs_61 := ((hh_59.call hb_611 hb_612 hb_613 hb_614 hS_61 rfl (L1 := [(r0, 15, 10, .int qc_59), (r0, 15, 7, .int qs_59)]) [0, 1] rfl rfl (M1 := [(r1, 194, n1, ca 1, f1)]) [0] rfl rfl (I1 := []) [] rfl rfl).more hb_615)
                      clear hh_59 ht_61 hvm_61 hz_61 hk_61 hS_61 hb_611 hb_612 hb_613 hb_614 hb_615
                      refine lv_goto (tgt := 325) hx hb dX13_scan_149 (by decide) ?_
                      refine lv_goto (tgt := 13) hx hb dX13_scan_325 (by decide) ?_
                      exact L13 v4_55 qk_61 qc_59 qs_59 _ _ hh_61 (by first | omega | (refine ⟨?_, ?_, ?_, ?_, ?_, ?_, ?_, ?_⟩ <;> (first | omega | rfl | assumption | decide | exact Or.inl rfl | exact Or.inr rfl | (simp only; omega)))) (by omega) _ (lv_sub hl [0, 1, 2, 3, 4] rfl)
                    · skip
                      have c_58' : z_57.toInt > 10 := jb_le_n (rfl) ((by decide)) c_58
                      refine lv_aload_n hx hb dX13_scan_118 rfl (lv_at hl 0 rfl) ?_
                      refine lv_dup hx hb dX13_scan_119 rfl ?_
                      obtain ⟨v_63, hv_63, hh_64⟩ := hh_55.pin (C := RX13) (T := TX13) (N := 50) hB15 rfl (by decide) hg_r0 (i := 31) (by decide) rfl
                      clear hh_55
                      obtain ⟨loose_65, rfl⟩ := hv_63
                      refine j7_read hx hb hown hK (C := RX13) (T := TX13) (N := 50) rfl hly_15_31 hlk_143 (hh_64.at 0 rfl) dX13_scan_120 ?_
                      refine lv_iload hx hb dX13_scan_123 (lv_at hl 4 rfl) ?_
                      refine lv_iload hx hb dX13_scan_125 (lv_at hl 6 rfl) ?_
                      refine lv_isub hx hb dX13_scan_127 ?_
                      refine lv_topi (fun z_66 ez_66 => ?_)
                      have hz_66 : z_66.toInt = v4_55.toInt - v4_3.toInt := by rw [ez_66]; exact jb_isub2 (rfl) (rfl) (by omega)
                      refine lv_iadd hx hb dX13_scan_128 ?_
                      refine lv_topi (fun z_67 ez_67 => ?_)
                      refine j7_put hx hb hown hK hh_64 hB hAp hB15 (C := RX13) (T := TX13) (N := 50) rfl (by decide) hg_r0 (i := 31) (by decide) hly_15_31 rfl hlk_143 rfl (ty := .int) (v := .int z_67) (by decide +kernel) rfl rfl (⟨_, rfl⟩) rfl (L1 := [(r0, 15, 30, .int wk_3), (r0, 15, 10, .int wc_3), (r0, 15, 7, .int ws_3)]) [1, 2, 3] rfl rfl rfl dX13_scan_129 (fun H_68 locs_68 hh_68 => ?_)
                      clear hh_64
                      refine lv_goto (tgt := 149) hx hb dX13_scan_132 (by decide) ?_
                      refine lv_goto (tgt := 325) hx hb dX13_scan_149 (by decide) ?_
                      refine lv_goto (tgt := 13) hx hb dX13_scan_325 (by decide) ?_
                      exact L13 v4_55 wk_3 wc_3 ws_3 _ _ (hh_68.sub (L1 := [(r0, 15, 30, .int wk_3), (r0, 15, 10, .int wc_3), (r0, 15, 7, .int ws_3)]) [1, 2, 3] rfl (M1 := [(r1, 194, n1, ca 1, f1)]) [0] rfl (I1 := []) [] rfl) (by first | omega | (refine ⟨?_, ?_, ?_, ?_, ?_, ?_, ?_, ?_⟩ <;> (first | omega | rfl | assumption | decide | exact Or.inl rfl | exact Or.inr rfl | (simp only; omega)))) (by omega) _ (lv_sub hl [0, 1, 2, 3, 4] rfl)
                  · skip
                    have c_56' : v4_55.toInt < a3.toInt := jb_ge_n (rfl) (rfl) c_56
                    refine lv_aload_n hx hb dX13_scan_92 rfl (lv_at hl 1 rfl) ?_
                    refine lv_iload hx hb dX13_scan_93 (lv_at hl 4 rfl) ?_
                    refine j7_ialdM hx hb hK hh_55 hB194 1 rfl (by decide) hg_r1 (x := v4_55.toInt) (rfl) (by omega) (j := 0) rfl dX13_scan_95 (fun z_69 ez_69 (hz_69 : True) => ?_)
                    have hqz_69 : z_69.toInt = (f1 (v4_55.toInt).toNat).toInt := by rw [ez_69]
                    have hjz_69 : jLt z_69.toInt = jLt (f1 (v4_55.toInt).toNat).toInt := by rw [hqz_69]
                    refine va_calli (A0 := jA base) (H0 := s.heap) (va_runS (As := [.int z_69]) (rest := []) ⟨hx, hb, hml, hown, hts⟩ (uX13_isNameSign l dC dI ca base B hB hAp G0 H_55 z_69) (va_cwS 1 hts (jgS (jWr_60 _ (List.mem_of_getElem? (i := 13) rfl)) (jWr_60 _ (List.mem_of_getElem? (i := 14) rfl)) (jWr_12 _ (List.mem_of_getElem? (i := 12) rfl)) (jWr_60 _ (List.mem_of_getElem? (i := 15) rfl))) rfl rfl rfl (by decide +kernel) ⟨by rw [← hR]; exact Nat.le_of_ble_eq_true rfl, by rw [← hR]; exact Nat.le_of_ble_eq_true rfl⟩) ⟨fun a U g mk q => by obtain ⟨q0, q1, q2, qK, q10, q11⟩ := q; exact ⟨q0, q1, q2, jG.calling g mk a qK, q10, q11⟩, fun U hU hW => ⟨rfl, hU, hh_55.2.1, hG.step hW hU hh_55.1, jP.nil, trivial⟩⟩ rfl rfl hl.1 rfl (lv_room (Nat.le_of_ble_eq_true rfl)) dX13_scan_96 ⟨Nat.zero_le _, Nat.zero_le _⟩) hh_55.1 (fun q _ h => h) (fun q h => h) (fun r_71 u_70 t_70 H_70 locs_70 ht_70 hvm_70 hr_71 hb_70 hz_70 hk_70 hS_70 => ?_)
                    rw [ht_70] at hb_70
                    obtain ⟨hb_701, hb_702, hb_703, hb_704, hb_705⟩ := hb_70
                    have hh_70 : jSt (dC, dI) B base G0 G0 EX13_scanv9 s.heap 0 0 [(r0, 15, 30, .int wk_3), (r0, 15, 10, .int wc_3), (r0, 15, 7, .int ws_3)] [(r1, 194, n1, ca 1, f1)] [] H_70 locs_70 := ((hh_55.call hb_701 hb_702 hb_703 hb_704 hS_70 rfl (L1 := [(r0, 15, 30, .int wk_3), (r0, 15, 10, .int wc_3), (r0, 15, 7, .int ws_3)]) [0, 1, 2] rfl rfl (M1 := [(r1, 194, n1, ca 1, f1)]) [0] rfl rfl (I1 := []) [] rfl rfl).more hb_705)
                    clear hh_55 ht_70 hvm_70 hz_70 hk_70 hS_70 hb_701 hb_702 hb_703 hb_704 hb_705
                    obtain ⟨hr_71b, hr_71p⟩ := hr_71
                    have hr_71' := jb_01 hr_71b
                    refine lv_if_eq (tgt := 108) hx hb dX13_scan_99 (by decide) (fun c_72 => ?_) (fun c_72 => ?_)
                    · skip
                      have c_72' : r_71.toInt = 0 := jb_eq (rfl) ((by decide)) c_72
                      first | (have hr_71pq := hr_71p.resolve_left (by omega); clear hr_71p) | (have hr_71pq := hr_71p.resolve_right (by omega); clear hr_71p) | try clear hr_71p
                      refine lv_iload hx hb dX13_scan_108 (lv_at hl 4 rfl) ?_
                      refine lv_iload hx hb dX13_scan_110 (lv_at hl 6 rfl) ?_
                      refine lv_isub hx hb dX13_scan_112 ?_
                      refine lv_topi (fun z_73 ez_73 => ?_)
                      have hz_73 : z_73.toInt = v4_55.toInt - v4_3.toInt := by rw [ez_73]; exact jb_isub2 (rfl) (rfl) (by omega)
                      refine lv_bipush (v := 10) hx hb dX13_scan_113 (by decide) ?_
                      refine lv_icmp_le (tgt := 135) hx hb dX13_scan_115 (by decide) (fun c_74 => ?_) (fun c_74 => ?_)
                      · skip
                        have c_74' : z_73.toInt ≤ 10 := jb_le (rfl) ((by decide)) c_74
                        refine lv_aload_n hx hb dX13_scan_135 rfl (lv_at hl 0 rfl) ?_
                        refine lv_iconst (v := 1) hx hb dX13_scan_136 (by decide) ?_
                        refine lv_aload_n hx hb dX13_scan_137 rfl (lv_at hl 0 rfl) ?_
                        refine lv_aload_n hx hb dX13_scan_138 rfl (lv_at hl 1 rfl) ?_
                        refine lv_iload hx hb dX13_scan_139 (lv_at hl 6 rfl) ?_
                        refine lv_iload hx hb dX13_scan_141 (lv_at hl 4 rfl) ?_
                        refine va_calli (A0 := jA base) (H0 := s.heap) (va_runV (As := [.ref r1, .int v4_3, .int v4_55]) (rest := [.int 1, .ref r0]) ⟨hx, hb, hml, hown, hts⟩ (uX13_nameOfv9 l dC dI ca base B hB hAp hB15 hB155 hB156 hB166 hB194 G0 H_70 r0 r1 v4_3 v4_55 n1 wc_3 ws_3) (cwV 3 hts (jgV (jWr_60 _ (List.mem_of_getElem? (i := 16) rfl)) (jWr_60 _ (List.mem_of_getElem? (i := 17) rfl)) (jWr_60 _ (List.mem_of_getElem? (i := 18) rfl)) (jWr_12 _ (List.mem_of_getElem? (i := 12) rfl)) (jWr_60 _ (List.mem_of_getElem? (i := 19) rfl))) rfl rfl rfl (by decide +kernel) ⟨by rw [← hR]; exact Nat.le_of_ble_eq_true rfl, by rw [← hR]; exact Nat.le_of_ble_eq_true rfl⟩) ⟨fun a U g mk q => by obtain ⟨q0, q1, q2, qK, q10, q11, q12, q13⟩ := q; exact ⟨q0, q1, q2, jG.calling g mk a qK, q10, q11, q12, q13⟩, hh_70.recv (C := RX13) (T := TX13) (N := 50) hB15 rfl (by decide) hg_r0 hK, fun U hU hW => ⟨rfl, hU, hh_70.2.1, hG.step hW hU hh_70.1, hg_r1, hg_r0, (hh_70.2.2.1.sub (L1 := [(r0, 15, 10, .int wc_3), (r0, 15, 7, .int ws_3)]) [1, 2] rfl), by first | omega | (refine ⟨?_, ?_, ?_, ?_, ?_, ?_, ?_, ?_, ?_⟩ <;> (first | omega | rfl | assumption | decide | exact Or.inl rfl | exact Or.inr rfl | (simp only; omega)))⟩⟩ rfl rfl hl.1 rfl (lv_room (Nat.le_of_ble_eq_true rfl)) dX13_scan_143 ⟨Nat.zero_le _, Nat.zero_le _⟩) hh_70.1 (fun q _ h => h) (fun q h => h) (fun r_76 u_75 t_75 H_75 locs_75 ht_75 hvm_75 hr_76 hb_75 hz_75 hk_75 hS_75 => ?_)
                        obtain ⟨qc_75, qs_75⟩ := u_75
                        rw [ht_75] at hb_75
                        obtain ⟨hb_751, hb_752, hb_753, hb_754, hb_755⟩ := hb_75
                        have hh_75 : jSt (dC, dI) B base G0 G0 EX13_scanv9 s.heap 0 0 [(r0, 15, 10, .int qc_75), (r0, 15, 7, .int qs_75), (r0, 15, 30, .int wk_3)] [(r1, 194, n1, ca 1, f1)] [] H_75 locs_75 := ((hh_70.call hb_751 hb_752 hb_753 hb_754 hS_75 rfl (L1 := [(r0, 15, 30, .int wk_3)]) [0] rfl rfl (M1 := [(r1, 194, n1, ca 1, f1)]) [0] rfl rfl (I1 := []) [] rfl rfl).more hb_755)
                        clear hh_70 ht_75 hvm_75 hz_75 hk_75 hS_75 hb_751 hb_752 hb_753 hb_754 hb_755
                        try simp only at hr_76
                        obtain ⟨hr_76_0, hr_76_1, hr_76_2, hr_76_3, hr_76_4, hr_76_5⟩ := hr_76
                        refine va_callv (A0 := jA base) (H0 := s.heap) (va_runV (As := [.int 1, .int r_76]) (rest := []) ⟨hx, hb, hml, hown, hts⟩ (uX13_token l dC dI ca base B hB hAp hB15 hB157 hB167 G0 H_75 r0 1 r_76 wk_3) (cwV 2 hts (jgV (jWr_60 _ (List.mem_of_getElem? (i := 20) rfl)) (jWr_60 _ (List.mem_of_getElem? (i := 21) rfl)) (jWr_60 _ (List.mem_of_getElem? (i := 22) rfl)) (jWr_12 _ (List.mem_of_getElem? (i := 12) rfl)) (jWr_60 _ (List.mem_of_getElem? (i := 23) rfl))) rfl rfl rfl (by decide +kernel) ⟨by rw [← hR]; exact Nat.le_of_ble_eq_true rfl, by rw [← hR]; exact Nat.le_of_ble_eq_true rfl⟩) ⟨fun a U g mk q => by obtain ⟨q0, q1, q2, qK, q10, q11, q12⟩ := q; exact ⟨q0, q1, q2, jG.calling g mk a qK, q10, q11, q12⟩, hh_75.recv (C := RX13) (T := TX13) (N := 50) hB15 rfl (by decide) hg_r0 hK, fun U hU hW => ⟨rfl, hU, hh_75.2.1, hG.step hW hU hh_75.1, hg_r0, (hh_75.2.2.1.sub (L1 := [(r0, 15, 30, .int wk_3)]) [2] rfl), by first | omega | (refine ⟨?_, ?_, ?_, ?_⟩ <;> (first | omega | rfl | assumption | decide | exact Or.inl rfl | exact Or.inr rfl | (simp only; omega)))⟩⟩ rfl rfl hl.1 rfl (lv_room (Nat.le_of_ble_eq_true rfl)) dX13_scan_146 ⟨Nat.zero_le _, Nat.zero_le _⟩) hh_75.1 (fun q _ h => h) (fun q h => h) (fun u_77 t_77 H_77 locs_77 ht_77 hvm_77 hr_78 hb_77 hz_77 hk_77 hS_77 => ?_)
                        obtain ⟨qk_77, rfl⟩ : ∃ z, z = u_77 := ⟨_, rfl⟩
                        rw [ht_77] at hb_77
                        obtain ⟨hb_771, hb_772, hb_773, hb_774, hb_775⟩ := hb_77
                        have hh_77 : jSt (dC, dI) B base G0 G0 EX13_scanv9 s.heap 0 0 [(r0, 15, 30, .int qk_77), (r0, 15, 10, .int qc_75), (r0, 15, 7, .int qs_75)] [(r1, 194, n1, ca 1, f1)] [] H_77 locs_77 := ((hh_75.call hb_771 hb_772 hb_773 hb_774 hS_77 rfl (L1 := [(r0, 15, 10, .int qc_75), (r0, 15, 7, .int qs_75)]) [0, 1] rfl rfl (M1 := [(r1, 194, n1, ca 1, f1)]) [0] rfl rfl (I1 := []) [] rfl rfl).more hb_775)
                        clear hh_75 ht_77 hvm_77 hz_77 hk_77 hS_77 hb_771 hb_772 hb_773 hb_774 hb_775
                        refine lv_goto (tgt := 325) hx hb dX13_scan_149 (by decide) ?_
                        refine lv_goto (tgt := 13) hx hb dX13_scan_325 (by decide) ?_
                        exact L13 v4_55 qk_77 qc_75 qs_75 _ _ hh_77 (by first | omega | (refine ⟨?_, ?_, ?_, ?_, ?_, ?_, ?_, ?_⟩ <;> (first | omega | rfl | assumption | decide | exact Or.inl rfl | exact Or.inr rfl | (simp only; omega)))) (by omega) _ (lv_sub hl [0, 1, 2, 3, 4] rfl)
                      · skip
                        have c_74' : z_73.toInt > 10 := jb_le_n (rfl) ((by decide)) c_74
                        refine lv_aload_n hx hb dX13_scan_118 rfl (lv_at hl 0 rfl) ?_
                        refine lv_dup hx hb dX13_scan_119 rfl ?_
                        obtain ⟨v_79, hv_79, hh_80⟩ := hh_70.pin (C := RX13) (T := TX13) (N := 50) hB15 rfl (by decide) hg_r0 (i := 31) (by decide) rfl
                        clear hh_70
                        obtain ⟨loose_81, rfl⟩ := hv_79
                        refine j7_read hx hb hown hK (C := RX13) (T := TX13) (N := 50) rfl hly_15_31 hlk_143 (hh_80.at 0 rfl) dX13_scan_120 ?_
                        refine lv_iload hx hb dX13_scan_123 (lv_at hl 4 rfl) ?_
                        refine lv_iload hx hb dX13_scan_125 (lv_at hl 6 rfl) ?_
                        refine lv_isub hx hb dX13_scan_127 ?_
                        refine lv_topi (fun z_82 ez_82 => ?_)
                        have hz_82 : z_82.toInt = v4_55.toInt - v4_3.toInt := by rw [ez_82]; exact jb_isub2 (rfl) (rfl) (by omega)
                        refine lv_iadd hx hb dX13_scan_128 ?_
                        refine lv_topi (fun z_83 ez_83 => ?_)
                        refine j7_put hx hb hown hK hh_80 hB hAp hB15 (C := RX13) (T := TX13) (N := 50) rfl (by decide) hg_r0 (i := 31) (by decide) hly_15_31 rfl hlk_143 rfl (ty := .int) (v := .int z_83) (by decide +kernel) rfl rfl (⟨_, rfl⟩) rfl (L1 := [(r0, 15, 30, .int wk_3), (r0, 15, 10, .int wc_3), (r0, 15, 7, .int ws_3)]) [1, 2, 3] rfl rfl rfl dX13_scan_129 (fun H_84 locs_84 hh_84 => ?_)
                        clear hh_80
                        refine lv_goto (tgt := 149) hx hb dX13_scan_132 (by decide) ?_
                        refine lv_goto (tgt := 325) hx hb dX13_scan_149 (by decide) ?_
                        refine lv_goto (tgt := 13) hx hb dX13_scan_325 (by decide) ?_
                        exact L13 v4_55 wk_3 wc_3 ws_3 _ _ (hh_84.sub (L1 := [(r0, 15, 30, .int wk_3), (r0, 15, 10, .int wc_3), (r0, 15, 7, .int ws_3)]) [1, 2, 3] rfl (M1 := [(r1, 194, n1, ca 1, f1)]) [0] rfl (I1 := []) [] rfl) (by first | omega | (refine ⟨?_, ?_, ?_, ?_, ?_, ?_, ?_, ?_⟩ <;> (first | omega | rfl | assumption | decide | exact Or.inl rfl | exact Or.inr rfl | (simp only; omega)))) (by omega) _ (lv_sub hl [0, 1, 2, 3, 4] rfl)
                    · skip
                      have c_72' : r_71.toInt ≠ 0 := jb_eq_n (rfl) ((by decide)) c_72
                      first | (have hr_71pq := hr_71p.resolve_left (by omega); clear hr_71p) | (have hr_71pq := hr_71p.resolve_right (by omega); clear hr_71p) | try clear hr_71p
                      obtain ⟨z_85, ez_85⟩ : ∃ y : Int32, y = v4_55 + 1 := ⟨_, rfl⟩
                      refine lv_iinc (v := z_85) (lv' := [(4, .int z_85), (0, .ref r0), (1, .ref r1), (2, .int a2), (3, .int a3), (5, .int z_5), (6, .int v4_3)]) hx hb dX13_scan_102 hl (k := 4) rfl (by rw [ez_85]; rfl) (by decide) rfl (fun ls hl => ?_)
                      have hz_85 : z_85.toInt = v4_55.toInt + 1 := by rw [ez_85]; exact jb_iadd2 (rfl) (by decide) (by omega)
                      refine lv_goto (tgt := 86) hx hb dX13_scan_105 (by decide) ?_
                      exact L86 z_85 _ _ hh_70 (by first | omega | (refine ⟨?_, ?_, ?_⟩ <;> (first | omega | rfl | assumption | decide | exact Or.inl rfl | exact Or.inr rfl | (simp only; omega)))) (by omega) _ (lv_sub hl [1, 2, 3, 4, 0, 5, 6] rfl)
              exact L86 (a3.toInt - (v4_3 : Int32).toInt : Int).toNat.succ v4_3 _ _ hh_11 (by first | omega | (refine ⟨?_, ?_, ?_⟩ <;> (first | omega | rfl | assumption | decide | exact Or.inl rfl | exact Or.inr rfl | (simp only; omega)))) (by omega) _ (lv_sub hl [2, 3, 4, 5, 6, 1, 0] rfl)
          · skip
            have c_10' : r_9.toInt ≠ 0 := jb_eq_n (rfl) ((by decide)) c_10
            refine lv_aload_n hx hb dX13_scan_49 rfl (lv_at hl 2 rfl) ?_
            refine lv_iload hx hb dX13_scan_50 (lv_at hl 5 rfl) ?_
            refine lv_iload_n hx hb dX13_scan_52 rfl (lv_at hl 4 rfl) ?_
            refine va_calli (A0 := jA base) (H0 := s.heap) (va_runSN (As := [.ref r1, .int v4_3, .int a3]) (rest := []) ⟨hx, hb, hml, hown, hts⟩ (uX14_behindCommentv9 l dC dI ca base B hB hAp hB101 hB194 G0 H_8 r1 v4_3 a3 n1 f1) ⟨va_cnB 3 hts (jgW (jWr_58 _ (List.mem_of_getElem? (i := 0) rfl))) rfl rfl rfl (hG.2.2.1 RX13 153 yX14_behindComment "ProofServerModel" (List.mem_of_getElem? (i := 2573) (by decide +kernel))) (htw (.initialized RX14) (jWr_1 _ (List.mem_of_getElem? (i := 5) rfl))) (by decide +kernel) ⟨by rw [← hR]; exact Nat.le_of_ble_eq_true rfl, by rw [← hR]; exact Nat.le_of_ble_eq_true rfl⟩, htw (.static yX14_behindComment) (jWr_57 _ (List.mem_of_getElem? (i := 23) rfl)), trivial⟩ ⟨fun a U g mk q => by obtain ⟨q0, q1, q2, qK, q10, q11, q12, q13⟩ := q; exact ⟨q0, q1, q2, jG.calling g mk a qK, q10, q11, q12, q13⟩, fun U hU hW => ⟨rfl, hU, hh_8.2.1, hG.step hW hU hh_8.1, hg_r1, jP.nil, (hh_8.2.2.2.2.2.2.2.1.sub (L1 := [(r1, 194, n1, ca 1, f1)]) [0] rfl), by first | omega | (refine ⟨?_, ?_, ?_, ?_⟩ <;> (first | omega | rfl | assumption | decide | exact Or.inl rfl | exact Or.inr rfl | (simp only; omega)))⟩⟩ rfl rfl hl.1 rfl (lv_room (Nat.le_of_ble_eq_true rfl)) dX13_scan_53 ⟨Nat.zero_le _, Nat.zero_le _⟩) hh_8.1 (fun q _ h => h) (fun q h => h) (fun r_87 u_86 t_86 H_86 locs_86 ht_86 hvm_86 hr_87 hb_86 hz_86 hk_86 hS_86 => ?_)
            rw [ht_86] at hb_86
            obtain ⟨hb_861, hb_862, hb_863, hb_864, hb_865⟩ := hb_86
            have hh_86 : jSt (dC, dI) B base G0 G0 EX13_scanv9 s.heap 0 0 [(r0, 15, 30, .int wk_3), (r0, 15, 10, .int wc_3), (r0, 15, 7, .int ws_3)] [(r1, 194, n1, ca 1, f1)] [] H_86 locs_86 := ((hh_8.call hb_861 hb_862 hb_863 hb_864 hS_86 rfl (L1 := [(r0, 15, 30, .int wk_3), (r0, 15, 10, .int wc_3), (r0, 15, 7, .int ws_3)]) [0, 1, 2] rfl rfl (M1 := [(r1, 194, n1, ca 1, f1)]) [0] rfl rfl (I1 := []) [] rfl rfl).more hb_865)
            clear hh_8 ht_86 hvm_86 hz_86 hk_86 hS_86 hb_861 hb_862 hb_863 hb_864 hb_865
            obtain ⟨hr_87_0, hr_87_1, hr_87_2, hr_87_3⟩ := hr_87
            refine lv_istore (lv' := [(6, .int r_87), (5, .int z_5), (0, .ref r0), (1, .ref r1), (2, .int a2), (3, .int a3), (4, .int v4_3)]) hx hb dX13_scan_56 hl (by decide) rfl (fun ls hl => ?_)
            refine lv_iload hx hb dX13_scan_58 (lv_at hl 0 rfl) ?_
            refine lv_if_ge (tgt := 67) hx hb dX13_scan_60 (by decide) (fun c_88 => ?_) (fun c_88 => ?_)
            · skip
              have c_88' : r_87.toInt ≥ 0 := jb_ge (rfl) ((by decide)) c_88
              first | (have hr_87_3q := hr_87_3.resolve_left (by omega); clear hr_87_3) | (have hr_87_3q := hr_87_3.resolve_right (by omega); clear hr_87_3) | skip
              refine lv_iload hx hb dX13_scan_67 (lv_at hl 0 rfl) ?_
              refine lv_istore (lv' := [(4, .int r_87), (6, .int r_87), (5, .int z_5), (0, .ref r0), (1, .ref r1), (2, .int a2), (3, .int a3)]) hx hb dX13_scan_69 hl (by decide) rfl (fun ls hl => ?_)
              refine lv_goto (tgt := 325) hx hb dX13_scan_71 (by decide) ?_
              refine lv_goto (tgt := 13) hx hb dX13_scan_325 (by decide) ?_
              exact L13 r_87 wk_3 wc_3 ws_3 _ _ hh_86 (by first | omega | (refine ⟨?_, ?_, ?_, ?_, ?_, ?_, ?_, ?_⟩ <;> (first | omega | rfl | assumption | decide | exact Or.inl rfl | exact Or.inr rfl | (simp only; omega)))) (by omega) _ (lv_sub hl [3, 4, 5, 6, 0] rfl)
            · skip
              have c_88' : r_87.toInt < 0 := jb_ge_n (rfl) ((by decide)) c_88
              first | (have hr_87_3q := hr_87_3.resolve_left (by omega); clear hr_87_3) | (have hr_87_3q := hr_87_3.resolve_right (by omega); clear hr_87_3) | skip
              refine lv_iload_n hx hb dX13_scan_63 rfl (lv_at hl 5 rfl) ?_
              refine lv_goto (tgt := 69) hx hb dX13_scan_64 (by decide) ?_
              refine lv_istore (lv' := [(4, .int a3), (6, .int r_87), (5, .int z_5), (0, .ref r0), (1, .ref r1), (2, .int a2), (3, .int a3)]) hx hb dX13_scan_69 hl (by decide) rfl (fun ls hl => ?_)
              refine lv_goto (tgt := 325) hx hb dX13_scan_71 (by decide) ?_
              refine lv_goto (tgt := 13) hx hb dX13_scan_325 (by decide) ?_
              exact L13 a3 wk_3 wc_3 ws_3 _ _ hh_86 (by first | omega | (refine ⟨?_, ?_, ?_, ?_, ?_, ?_, ?_, ?_⟩ <;> (first | omega | rfl | assumption | decide | exact Or.inl rfl | exact Or.inr rfl | (simp only; omega)))) (by omega) _ (lv_sub hl [3, 4, 5, 6, 0] rfl)
        · skip
          have c_7' : r_6.toInt ≠ 0 := jb_eq_n (rfl) ((by decide)) c_7
          obtain ⟨z_89, ez_89⟩ : ∃ y : Int32, y = v4_3 + 1 := ⟨_, rfl⟩
          refine lv_iinc (v := z_89) (lv' := [(4, .int z_89), (5, .int z_5), (0, .ref r0), (1, .ref r1), (2, .int a2), (3, .int a3)]) hx hb dX13_scan_33 hl (k := 5) rfl (by rw [ez_89]; rfl) (by decide) rfl (fun ls hl => ?_)
          have hz_89 : z_89.toInt = v4_3.toInt + 1 := by rw [ez_89]; exact jb_iadd2 (rfl) (by decide) (by omega)
          refine lv_goto (tgt := 325) hx hb dX13_scan_36 (by decide) ?_
          refine lv_goto (tgt := 13) hx hb dX13_scan_325 (by decide) ?_
          exact L13 z_89 wk_3 wc_3 ws_3 _ _ hh_3 (by first | omega | (refine ⟨?_, ?_, ?_, ?_, ?_, ?_, ?_, ?_⟩ <;> (first | omega | rfl | assumption | decide | exact Or.inl rfl | exact Or.inr rfl | (simp only; omega)))) (by omega) _ (lv_sub hl [2, 3, 4, 5, 0] rfl)
  exact L13 (a3.toInt - (a2 : Int32).toInt : Int).toNat.succ a2 0 pc ps _ _ (hh_2.sub (L1 := [(r0, 15, 30, .int 0), (r0, 15, 10, .int pc), (r0, 15, 7, .int ps)]) [1, 2, 3] rfl (M1 := [(r1, 194, n1, ca 1, f1)]) [0] rfl (I1 := []) [] rfl) (by first | omega | (refine ⟨?_, ?_, ?_, ?_, ?_, ?_, ?_, ?_⟩ <;> (first | omega | rfl | assumption | decide | exact Or.inl rfl | exact Or.inr rfl | (simp only; omega)))) (by omega) _ (lv_sub hl [1, 2, 3, 4, 0] rfl)
end
section
theorem dX14_isNamed_0 : decode cX14_isNamed 0 = .ok (.aload_n 0, 1) := by decide +kernel
theorem dX14_isNamed_1 : decode cX14_isNamed 1 = .ok (.getfield 122, 3) := by decide +kernel
theorem dX14_isNamed_4 : decode cX14_isNamed 4 = .ok (.getfield 686, 3) := by decide +kernel
theorem dX14_isNamed_7 : decode cX14_isNamed 7 = .ok (.iload_n 1, 1) := by decide +kernel
theorem dX14_isNamed_8 : decode cX14_isNamed 8 = .ok (.iaload, 1) := by decide +kernel
theorem dX14_isNamed_9 : decode cX14_isNamed 9 = .ok (.iload 4, 2) := by decide +kernel
theorem dX14_isNamed_11 : decode cX14_isNamed 11 = .ok (.if_icmp .ne 7, 3) := by decide +kernel
theorem dX14_isNamed_14 : decode cX14_isNamed 14 = .ok (.iconst 1, 1) := by decide +kernel
theorem dX14_isNamed_15 : decode cX14_isNamed 15 = .ok (.goto 4, 3) := by decide +kernel
theorem dX14_isNamed_18 : decode cX14_isNamed 18 = .ok (.iconst 0, 1) := by decide +kernel
theorem dX14_isNamed_19 : decode cX14_isNamed 19 = .ok (.istore 5, 2) := by decide +kernel
theorem dX14_isNamed_21 : decode cX14_isNamed 21 = .ok (.iconst 0, 1) := by decide +kernel
theorem dX14_isNamed_22 : decode cX14_isNamed 22 = .ok (.istore 6, 2) := by decide +kernel
theorem dX14_isNamed_24 : decode cX14_isNamed 24 = .ok (.iload 6, 2) := by decide +kernel
theorem dX14_isNamed_26 : decode cX14_isNamed 26 = .ok (.iload 4, 2) := by decide +kernel
theorem dX14_isNamed_28 : decode cX14_isNamed 28 = .ok (.if_icmp .ge 50, 3) := by decide +kernel
theorem dX14_isNamed_31 : decode cX14_isNamed 31 = .ok (.iload 5, 2) := by decide +kernel
theorem dX14_isNamed_33 : decode cX14_isNamed 33 = .ok (.ifCond .eq 45, 3) := by decide +kernel
theorem dX14_isNamed_36 : decode cX14_isNamed 36 = .ok (.aload_n 0, 1) := by decide +kernel
theorem dX14_isNamed_37 : decode cX14_isNamed 37 = .ok (.getfield 122, 3) := by decide +kernel
theorem dX14_isNamed_40 : decode cX14_isNamed 40 = .ok (.getfield 689, 3) := by decide +kernel
theorem dX14_isNamed_43 : decode cX14_isNamed 43 = .ok (.aload_n 0, 1) := by decide +kernel
theorem dX14_isNamed_44 : decode cX14_isNamed 44 = .ok (.getfield 122, 3) := by decide +kernel
theorem dX14_isNamed_47 : decode cX14_isNamed 47 = .ok (.getfield 692, 3) := by decide +kernel
theorem dX14_isNamed_50 : decode cX14_isNamed 50 = .ok (.iload_n 1, 1) := by decide +kernel
theorem dX14_isNamed_51 : decode cX14_isNamed 51 = .ok (.iaload, 1) := by decide +kernel
theorem dX14_isNamed_52 : decode cX14_isNamed 52 = .ok (.iload 6, 2) := by decide +kernel
theorem dX14_isNamed_54 : decode cX14_isNamed 54 = .ok (.iadd, 1) := by decide +kernel
theorem dX14_isNamed_55 : decode cX14_isNamed 55 = .ok (.iaload, 1) := by decide +kernel
theorem dX14_isNamed_56 : decode cX14_isNamed 56 = .ok (.aload_n 2, 1) := by decide +kernel
theorem dX14_isNamed_57 : decode cX14_isNamed 57 = .ok (.iload_n 3, 1) := by decide +kernel
theorem dX14_isNamed_58 : decode cX14_isNamed 58 = .ok (.iload 6, 2) := by decide +kernel
theorem dX14_isNamed_60 : decode cX14_isNamed 60 = .ok (.iadd, 1) := by decide +kernel
theorem dX14_isNamed_61 : decode cX14_isNamed 61 = .ok (.iaload, 1) := by decide +kernel
theorem dX14_isNamed_62 : decode cX14_isNamed 62 = .ok (.if_icmp .ne 7, 3) := by decide +kernel
theorem dX14_isNamed_65 : decode cX14_isNamed 65 = .ok (.iconst 1, 1) := by decide +kernel
theorem dX14_isNamed_66 : decode cX14_isNamed 66 = .ok (.goto 4, 3) := by decide +kernel
theorem dX14_isNamed_69 : decode cX14_isNamed 69 = .ok (.iconst 0, 1) := by decide +kernel
theorem dX14_isNamed_70 : decode cX14_isNamed 70 = .ok (.istore 5, 2) := by decide +kernel
theorem dX14_isNamed_72 : decode cX14_isNamed 72 = .ok (.iinc 6 1, 3) := by decide +kernel
theorem dX14_isNamed_75 : decode cX14_isNamed 75 = .ok (.goto (-51), 3) := by decide +kernel
theorem dX14_isNamed_78 : decode cX14_isNamed 78 = .ok (.iload 5, 2) := by decide +kernel
theorem dX14_isNamed_80 : decode cX14_isNamed 80 = .ok (.ireturn, 1) := by decide +kernel
def EX14_isNamed : List (Nat × Nat) := []
set_option maxHeartbeats 4000000 in
set_option maxRecDepth 20000 in
theorem uX14_isNamed (l : Launch) (dC : Nat → ClassId) (dI : Nat → Nat → Nat) (ca : Nat → ClassId) (base : Nat) (B : jF) (hB : jBok B) (hAp : jAp (dC, dI)) (hB15 : ∀ n G a H, B 15 n G a H ↔ jOb (dC, dI) 15 50 (F15 n G) a H) (hB16 : ∀ n G a H, B 16 n G a H ↔ jOb (dC, dI) 16 74 (F16 n G) a H) (hB101 : ∀ n G a H, B 101 n G a H ↔ jAr (dC, dI) (ca 1) (fun j z => True) n a H) (hB155 : ∀ n G a H, B 155 n G a H ↔ jAr (dC, dI) (ca 1) (fun j z => 0 ≤ z.toInt ∧ z.toInt ≤ 11990) n a H) (hB156 : ∀ n G a H, B 156 n G a H ↔ jAr (dC, dI) (ca 1) (fun j z => 0 ≤ z.toInt ∧ z.toInt ≤ 10) n a H) (hB166 : ∀ n G a H, B 166 n G a H ↔ jAr (dC, dI) (ca 1) (fun j z => True) n a H) (G0 : jT) (H0 : Heap) (r0 : Nat) (a1 : Int32) (r2 : Nat) (a3 : Int32) (a4 : Int32) (n2 : Nat) : Met l yX14_isNamed (jw yX14_isNamed cX14_isNamed 7 (some .boolean)) ({ frames := 0, cells := 0, slots := 0, locals := 0 }) (va_Pc [.ref r0, .int a1, .ref r2, .int a3, .int a4] (fun U => U.heap = H0 ∧ jX B base G0 [] H0 ∧ jG dC dI ca base U ∧ G0 r2 = some (101, n2) ∧ G0 r0 = some (16, 0) ∧ jP (dC, dI) G0 H0 [] ∧ 0 ≤ a1.toInt ∧ a1.toInt ≤ 1599 ∧ 0 ≤ a3.toInt ∧ a3.toInt + a4.toInt ≤ n2 ∧ n2 ≤ 200000)) (va_Qi (S := Unit) (fun r u => (r = 0 ∨ r = 1) ∧ (True)) (fun u t => jRt (dC, dI) B base G0 EX14_isNamed H0 [] t.heap) (jA base)) 0 0 (jA base) := by
  refine Met.ofW (cc := cX14_isNamed) (maxL := 7) (ret := (some .boolean)) (by decide) rfl ?_
  intro p e s m args below meth c s₁ Bd hml hv
  obtain ⟨rfl, hH0, hX, hG, hg_r2, hg_r0, hP0, hp0, hp1, hp2, hp3, hp4⟩ := hv
  have hK := hG.1
  have hx := Bd.exec
  have hb := Bd.bytes
  have hr := Bd.returns
  have hts := atoms_spec (ws := (jw yX14_isNamed cX14_isNamed 7 (some .boolean))) Bd.pre
  have htw : ∀ w ∈ jWl, w.before _ s = true := fun w h => hts w (List.mem_cons_of_mem _ h)
  have hown : s.vm.findClass RX14 = some m.cls := findClass_of_methodNamed Bd.named
  have hlocks := Bd.notSynchronized
  obtain ⟨Q, hQ⟩ : ∃ Q, Q = MQ below (va_Qi (S := Unit) (fun r u => (r = 0 ∨ r = 1) ∧ (True)) (fun u t => jRt (dC, dI) B base G0 EX14_isNamed H0 [] t.heap) (jA base)) ([.ref r0, .int a1, .ref r2, .int a3, .int a4] : List Value).toArray s 0 0 (jA base) := ⟨_, rfl⟩
  rw [← hQ]
  have hl := lv_entry ([.ref r0, .int a1, .ref r2, .int a3, .int a4]) (n := 7) (Nat.le_of_ble_eq_true rfl)
  rw [lg_entry_eq]
  generalize (lg_sl ([.ref r0, .int a1, .ref r2, .int a3, .int a4]) ++ List.replicate (7 - (lg_sl ([.ref r0, .int a1, .ref r2, .int a3, .int a4])).length) Slot.unset).toArray = ls at hl ⊢
  have hl : lv_has ls 7 [(0, .ref r0), (1, .int a1), (2, .ref r2), (3, .int a3), (4, .int a4)] := hl
  generalize hR : (headSpec (jw yX14_isNamed cX14_isNamed 7 (some .boolean)) ({ frames := 0, cells := 0, slots := 0, locals := 0 })).room = R
  subst hH0
  have hh : jSt (dC, dI) B base G0 G0 EX14_isNamed s.heap 0 0 [] [] [] s.heap [] := jSt.start hX hP0 jMc.nil jIs.nil
  clear hX hP0
  have hk0 : (0 : Int32).toInt = 0 := by decide
  have hk1 : (1 : Int32).toInt = 1 := by decide
  have hly_15_6 := htw (u_lay RX13 TX13 6) (jWc_wsX130 _ (u_in_lay (by decide)))
  have hly_15_8 := htw (u_lay RX13 TX13 8) (jWc_wsX130 _ (u_in_lay (by decide)))
  have hly_15_9 := htw (u_lay RX13 TX13 9) (jWc_wsX130 _ (u_in_lay (by decide)))
  have hly_16_58 := htw (u_lay RX14 TX14 58) (jWc_wsX140 _ (u_in_lay (by decide)))
  have hlk_122 := (htw (.fieldLink RX14 122 "ProofServerModel" "kernel" "LProofServerModel$Kernel;") (jWr_12 _ (List.mem_of_getElem? (i := 13) rfl)))
  have hlk_686 := (va_Nw.use (A := ([.ref r0, .int a1, .ref r2, .int a3, .int a4] : List Value).toArray) rfl (hG.2.1 RX14 686 "ProofServerModel$Kernel" "nameLength" "[I" "ProofServerModel" (List.mem_of_getElem? (i := 1792) (by decide +kernel))))
  have hlk_689 := (va_Nw.use (A := ([.ref r0, .int a1, .ref r2, .int a3, .int a4] : List Value).toArray) rfl (hG.2.1 RX14 689 "ProofServerModel$Kernel" "signs" "[I" "ProofServerModel" (List.mem_of_getElem? (i := 1787) (by decide +kernel))))
  have hlk_692 := (va_Nw.use (A := ([.ref r0, .int a1, .ref r2, .int a3, .int a4] : List Value).toArray) rfl (hG.2.1 RX14 692 "ProofServerModel$Kernel" "nameAt" "[I" "ProofServerModel" (List.mem_of_getElem? (i := 1790) (by decide +kernel))))
  have hrg_a1 := jb_rng a1
  have hrg_a3 := jb_rng a3
  have hrg_a4 := jb_rng a4
  refine lv_aload_n hx hb dX14_isNamed_0 rfl (lv_at hl 0 rfl) ?_
  obtain ⟨v_1, hv_1, hh_2⟩ := hh.pin (C := RX14) (T := TX14) (N := 74) hB16 rfl (by decide) hg_r0 (i := 58) (by decide) rfl
  clear hh
  obtain ⟨kernel_3, rfl, hg_kernel_3⟩ := hv_1
  refine j7_read hx hb hown hK (C := RX14) (T := TX14) (N := 74) rfl hly_16_58 hlk_122 (hh_2.at 0 rfl) dX14_isNamed_1 ?_
  obtain ⟨v_4, hv_4, hh_5⟩ := hh_2.pin (C := RX13) (T := TX13) (N := 50) hB15 rfl (by decide) hg_kernel_3 (i := 9) (by decide) rfl
  clear hh_2
  obtain ⟨nameLength_6, rfl, hg_nameLength_6⟩ := hv_4
  refine j7_readN hx hb hown hK (C := RX13) (T := TX13) (N := 50) rfl hly_15_9 hlk_686 (hh_5.at 0 rfl) dX14_isNamed_4 ?_
  refine lv_iload_n hx hb dX14_isNamed_7 rfl (lv_at hl 1 rfl) ?_
  refine j7_iald hx hb hK hh_5 hB156 1 rfl (by decide) hg_nameLength_6 (x := a1.toInt) (rfl) (by omega) dX14_isNamed_8 (fun z_7 (hz_7 : 0 ≤ z_7.toInt ∧ z_7.toInt ≤ 10) => ?_)
  refine lv_iload hx hb dX14_isNamed_9 (lv_at hl 4 rfl) ?_
  have C19 : ∀ (w0_8 : Int32) (H_8 : Heap) (locs_8 : List Loc), jSt (dC, dI) B base G0 G0 EX14_isNamed s.heap 0 0 [(kernel_3, 15, 9, .ref nameLength_6), (r0, 16, 58, .ref kernel_3)] [] [] H_8 locs_8 → (w0_8 = 0 ∨ w0_8 = 1) → (w0_8.toInt = 0 ∨ a4.toInt ≤ 10) → ∀ ls : Array Slot, lv_has ls 7 [(0, .ref r0), (1, .int a1), (2, .ref r2), (3, .int a3), (4, .int a4)] → W p l e R s m ([.ref r0, .int a1, .ref r2, .int a3, .int a4] : List Value).toArray below meth c H_8 locs_8 0 0 Q (F0 m 19 ls [.int w0_8]) := by
    intro w0_8 H_8 locs_8 hh_8 hb_w0_8 hi_8 ls hl
    have hb_w0_8' := jb_01 hb_w0_8
    refine lv_istore (lv' := [(5, .int w0_8), (0, .ref r0), (1, .int a1), (2, .ref r2), (3, .int a3), (4, .int a4)]) hx hb dX14_isNamed_19 hl (by decide) rfl (fun ls hl => ?_)
    refine lv_iconst (v := 0) hx hb dX14_isNamed_21 (by decide) ?_
    refine lv_istore (lv' := [(6, .int 0), (5, .int w0_8), (0, .ref r0), (1, .int a1), (2, .ref r2), (3, .int a3), (4, .int a4)]) hx hb dX14_isNamed_22 hl (by decide) rfl (fun ls hl => ?_)
    have L24 : ∀ (N : Nat) (v5_9 : Int32) (v6_9 : Int32) (H_9 : Heap) (locs_9 : List Loc), jSt (dC, dI) B base G0 G0 EX14_isNamed s.heap 0 0 [(kernel_3, 15, 9, .ref nameLength_6), (r0, 16, 58, .ref kernel_3)] [] [] H_9 locs_9 → (v5_9 = 0 ∨ v5_9 = 1) → (0 ≤ v6_9.toInt ∧ v6_9.toInt ≤ 200000 ∧ (v5_9.toInt = 0 ∨ a4.toInt ≤ 10)) → (((a4.toInt - v6_9.toInt).toNat : Int) : Int) < N → ∀ ls : Array Slot, lv_has ls 7 [(0, .ref r0), (1, .int a1), (2, .ref r2), (3, .int a3), (4, .int a4), (5, .int v5_9), (6, .int v6_9)] → W p l e R s m ([.ref r0, .int a1, .ref r2, .int a3, .int a4] : List Value).toArray below meth c H_9 locs_9 0 0 Q (F0 m 24 ls []) := by
      intro N
      induction N with
      | zero => intro v5_9 v6_9 H_9 locs_9 hh_9 hb_v5_9 hi_9 hm; exact absurd hm (by omega)
      | succ N L24 =>
        intro v5_9 v6_9 H_9 locs_9 hh_9 hb_v5_9 hi_9 hm_9 ls hl
        obtain ⟨hi_9_0, hi_9_1, hi_9_2⟩ := hi_9
        have hb_v5_9' := jb_01 hb_v5_9
        refine lv_iload hx hb dX14_isNamed_24 (lv_at hl 6 rfl) ?_
        refine lv_iload hx hb dX14_isNamed_26 (lv_at hl 4 rfl) ?_
        refine lv_icmp_ge (tgt := 78) hx hb dX14_isNamed_28 (by decide) (fun c_10 => ?_) (fun c_10 => ?_)
        · skip
          have c_10' : v6_9.toInt ≥ a4.toInt := jb_ge (rfl) (rfl) c_10
          refine lv_iload hx hb dX14_isNamed_78 (lv_at hl 5 rfl) ?_
          rw [hQ]
          exact W.zret (v := v5_9) hx hb hr (jb_nz (hb_v5_9)) (fun t ht hW => ⟨⟨v5_9, (), rfl, ⟨(hb_v5_9), trivial⟩, hh_9.rt (M1 := []) [] rfl ht⟩, by rw [ht]; try exact hh_9.1.1, fun q h9 hq => by rw [ht]; try exact hh_9.1.2.1 q h9 hq⟩) hh_9.1.2.2 dX14_isNamed_80
        · skip
          have c_10' : v6_9.toInt < a4.toInt := jb_ge_n (rfl) (rfl) c_10
          refine lv_iload hx hb dX14_isNamed_31 (lv_at hl 5 rfl) ?_
          refine lv_if_eq (tgt := 78) hx hb dX14_isNamed_33 (by decide) (fun c_11 => ?_) (fun c_11 => ?_)
          · skip
            have c_11' : v5_9.toInt = 0 := jb_eq (rfl) ((by decide)) c_11
            refine lv_iload hx hb dX14_isNamed_78 (lv_at hl 5 rfl) ?_
            rw [hQ]
            exact W.zret (v := v5_9) hx hb hr (jb_nz (hb_v5_9)) (fun t ht hW => ⟨⟨v5_9, (), rfl, ⟨(hb_v5_9), trivial⟩, hh_9.rt (M1 := []) [] rfl ht⟩, by rw [ht]; try exact hh_9.1.1, fun q h9 hq => by rw [ht]; try exact hh_9.1.2.1 q h9 hq⟩) hh_9.1.2.2 dX14_isNamed_80
          · skip
            have c_11' : v5_9.toInt ≠ 0 := jb_eq_n (rfl) ((by decide)) c_11
            refine lv_aload_n hx hb dX14_isNamed_36 rfl (lv_at hl 0 rfl) ?_
            refine j7_read hx hb hown hK (C := RX14) (T := TX14) (N := 74) rfl hly_16_58 hlk_122 (hh_9.at 1 rfl) dX14_isNamed_37 ?_
            obtain ⟨v_12, hv_12, hh_13⟩ := hh_9.pin (C := RX13) (T := TX13) (N := 50) hB15 rfl (by decide) hg_kernel_3 (i := 6) (by decide) rfl
            clear hh_9
            obtain ⟨signs_14, rfl, hg_signs_14⟩ := hv_12
            refine j7_readN hx hb hown hK (C := RX13) (T := TX13) (N := 50) rfl hly_15_6 hlk_689 (hh_13.at 0 rfl) dX14_isNamed_40 ?_
            refine lv_aload_n hx hb dX14_isNamed_43 rfl (lv_at hl 0 rfl) ?_
            refine j7_read hx hb hown hK (C := RX14) (T := TX14) (N := 74) rfl hly_16_58 hlk_122 (hh_13.at 2 rfl) dX14_isNamed_44 ?_
            obtain ⟨v_15, hv_15, hh_16⟩ := hh_13.pin (C := RX13) (T := TX13) (N := 50) hB15 rfl (by decide) hg_kernel_3 (i := 8) (by decide) rfl
            clear hh_13
            obtain ⟨nameAt_17, rfl, hg_nameAt_17⟩ := hv_15
            refine j7_readN hx hb hown hK (C := RX13) (T := TX13) (N := 50) rfl hly_15_8 hlk_692 (hh_16.at 0 rfl) dX14_isNamed_47 ?_
            refine lv_iload_n hx hb dX14_isNamed_50 rfl (lv_at hl 1 rfl) ?_
            refine j7_iald hx hb hK hh_16 hB155 1 rfl (by decide) hg_nameAt_17 (x := a1.toInt) (rfl) (by omega) dX14_isNamed_51 (fun z_18 (hz_18 : 0 ≤ z_18.toInt ∧ z_18.toInt ≤ 11990) => ?_)
            refine lv_iload hx hb dX14_isNamed_52 (lv_at hl 6 rfl) ?_
            refine lv_iadd hx hb dX14_isNamed_54 ?_
            refine lv_topi (fun z_19 ez_19 => ?_)
            have hz_19 : z_19.toInt = z_18.toInt + v6_9.toInt := by rw [ez_19]; exact jb_iadd2 (rfl) (rfl) (by omega)
            refine j7_iald hx hb hK hh_16 hB166 1 rfl (by decide) hg_signs_14 (x := z_19.toInt) (rfl) (by omega) dX14_isNamed_55 (fun z_20 (hz_20 : True) => ?_)
            refine lv_aload_n hx hb dX14_isNamed_56 rfl (lv_at hl 2 rfl) ?_
            refine lv_iload_n hx hb dX14_isNamed_57 rfl (lv_at hl 3 rfl) ?_
            refine lv_iload hx hb dX14_isNamed_58 (lv_at hl 6 rfl) ?_
            refine lv_iadd hx hb dX14_isNamed_60 ?_
            refine lv_topi (fun z_21 ez_21 => ?_)
            have hz_21 : z_21.toInt = a3.toInt + v6_9.toInt := by rw [ez_21]; exact jb_iadd2 (rfl) (rfl) (by omega)
            refine j7_iald hx hb hK hh_16 hB101 1 rfl (by decide) hg_r2 (x := z_21.toInt) (rfl) (by omega) dX14_isNamed_61 (fun z_22 (hz_22 : True) => ?_)
            refine lv_icmp_ne (tgt := 69) hx hb dX14_isNamed_62 (by decide) (fun c_23 => ?_) (fun c_23 => ?_)
            · skip
              have c_23' : z_20.toInt ≠ z_22.toInt := jb_ne (rfl) (rfl) c_23
              refine lv_iconst (v := 0) hx hb dX14_isNamed_69 (by decide) ?_
              refine lv_istore (lv' := [(5, .int 0), (0, .ref r0), (1, .int a1), (2, .ref r2), (3, .int a3), (4, .int a4), (6, .int v6_9)]) hx hb dX14_isNamed_70 hl (by decide) rfl (fun ls hl => ?_)
              obtain ⟨z_24, ez_24⟩ : ∃ y : Int32, y = v6_9 + 1 := ⟨_, rfl⟩
              refine lv_iinc (v := z_24) (lv' := [(6, .int z_24), (5, .int 0), (0, .ref r0), (1, .int a1), (2, .ref r2), (3, .int a3), (4, .int a4)]) hx hb dX14_isNamed_72 hl (k := 6) rfl (by rw [ez_24]; rfl) (by decide) rfl (fun ls hl => ?_)
              have hz_24 : z_24.toInt = v6_9.toInt + 1 := by rw [ez_24]; exact jb_iadd2 (rfl) (by decide) (by omega)
              refine lv_goto (tgt := 24) hx hb dX14_isNamed_75 (by decide) ?_
              exact L24 0 z_24 _ _ (hh_16.sub (L1 := [(kernel_3, 15, 9, .ref nameLength_6), (r0, 16, 58, .ref kernel_3)]) [2, 3] rfl (M1 := []) [] rfl (I1 := []) [] rfl) (Or.inl rfl) (by first | omega | (refine ⟨?_, ?_, ?_⟩ <;> (first | omega | rfl | assumption | decide | exact Or.inl rfl | exact Or.inr rfl | (simp only; omega)))) (by omega) _ (lv_sub hl [2, 3, 4, 5, 6, 1, 0] rfl)
            · skip
              have c_23' : z_20.toInt = z_22.toInt := jb_ne_n (rfl) (rfl) c_23
              refine lv_iconst (v := 1) hx hb dX14_isNamed_65 (by decide) ?_
              refine lv_goto (tgt := 70) hx hb dX14_isNamed_66 (by decide) ?_
              refine lv_istore (lv' := [(5, .int 1), (0, .ref r0), (1, .int a1), (2, .ref r2), (3, .int a3), (4, .int a4), (6, .int v6_9)]) hx hb dX14_isNamed_70 hl (by decide) rfl (fun ls hl => ?_)
              obtain ⟨z_25, ez_25⟩ : ∃ y : Int32, y = v6_9 + 1 := ⟨_, rfl⟩
              refine lv_iinc (v := z_25) (lv' := [(6, .int z_25), (5, .int 1), (0, .ref r0), (1, .int a1), (2, .ref r2), (3, .int a3), (4, .int a4)]) hx hb dX14_isNamed_72 hl (k := 6) rfl (by rw [ez_25]; rfl) (by decide) rfl (fun ls hl => ?_)
              have hz_25 : z_25.toInt = v6_9.toInt + 1 := by rw [ez_25]; exact jb_iadd2 (rfl) (by decide) (by omega)
              refine lv_goto (tgt := 24) hx hb dX14_isNamed_75 (by decide) ?_
              exact L24 1 z_25 _ _ (hh_16.sub (L1 := [(kernel_3, 15, 9, .ref nameLength_6), (r0, 16, 58, .ref kernel_3)]) [2, 3] rfl (M1 := []) [] rfl (I1 := []) [] rfl) (Or.inr rfl) (by first | omega | (refine ⟨?_, ?_, ?_⟩ <;> (first | omega | rfl | assumption | decide | exact Or.inl rfl | exact Or.inr rfl | (simp only; omega)))) (by omega) _ (lv_sub hl [2, 3, 4, 5, 6, 1, 0] rfl)
    exact L24 (((a4.toInt - (0 : Int32).toInt).toNat : Int) : Int).toNat.succ w0_8 0 _ _ hh_8 (hb_w0_8) (by first | omega | (refine ⟨?_, ?_, ?_⟩ <;> (first | omega | rfl | assumption | decide | exact Or.inl rfl | exact Or.inr rfl | (simp only; omega)))) (by omega) _ (lv_sub hl [2, 3, 4, 5, 6, 1, 0] rfl)
  refine lv_icmp_ne (tgt := 18) hx hb dX14_isNamed_11 (by decide) (fun c_26 => ?_) (fun c_26 => ?_)
  · skip
    have c_26' : z_7.toInt ≠ a4.toInt := jb_ne (rfl) (rfl) c_26
    refine lv_iconst (v := 0) hx hb dX14_isNamed_18 (by decide) ?_
    exact C19 0 _ _ hh_5 (Or.inl rfl) (by first | omega | rfl | assumption | decide | exact Or.inl rfl | exact Or.inr rfl | (simp only; omega)) _ (lv_sub hl [0, 1, 2, 3, 4] rfl)
  · skip
    have c_26' : z_7.toInt = a4.toInt := jb_ne_n (rfl) (rfl) c_26
    refine lv_iconst (v := 1) hx hb dX14_isNamed_14 (by decide) ?_
    refine lv_goto (tgt := 19) hx hb dX14_isNamed_15 (by decide) ?_
    exact C19 1 _ _ hh_5 (Or.inr rfl) (by first | omega | rfl | assumption | decide | exact Or.inl rfl | exact Or.inr rfl | (simp only; omega)) _ (lv_sub hl [0, 1, 2, 3, 4] rfl)
end
section
-- formulas of the reference's kernel as rows of numbers: what a node is, its size, likeness, counting, putting in
def jSmF (C : jK) : Nat → Int → Int → Int
  | 0, _, _ => 0
  | d + 1, x, y => if x = y then 1 else if jSo C.s x ≠ jSo C.s y then 0 else if (7 ≤ jSo C.s x ∧ jSo C.s x ≤ 10) ∧ jSo C.n x ≠ jSo C.n y then 0 else if 0 < jPts C x ∧ jSmF C d (jPr C x 0) (jPr C y 0) = 0 then 0 else if 1 < jPts C x ∧ jSmF C d (jPr C x 1) (jPr C y 1) = 0 then 0 else if 2 < jPts C x ∧ jSmF C d (jPr C x 2) (jPr C y 2) = 0 then 0 else 1
def jSm (C : jK) (x y : Int) : Int := jSmF C 4000 x y
def jSmK (C : jK) (x y k : Int) : Int := if 0 < k ∧ jSm C (jPr C x 0) (jPr C y 0) = 0 then 0 else if 1 < k ∧ jSm C (jPr C x 1) (jPr C y 1) = 0 then 0 else if 2 < k ∧ jSm C (jPr C x 2) (jPr C y 2) = 0 then 0 else 1
theorem jSmF_01 (C : jK) : ∀ (d : Nat) (x y : Int), jSmF C d x y = 0 ∨ jSmF C d x y = 1 := by
  intro d x y
  cases d with
  | zero => exact Or.inl rfl
  | succ d => unfold jSmF; repeat' split
              all_goals omega
theorem jSm_01 (C : jK) (x y : Int) : jSm C x y = 0 ∨ jSm C x y = 1 := jSmF_01 C _ x y
theorem jSm_le (C : jK) (x y : Int) : 0 ≤ jSm C x y ∧ jSm C x y ≤ 1 := by have := jSm_01 C x y; omega
theorem jSmF_fuel {C : jK} {N Y : Int} {d : Nat} : ∀ {b x : Int}, jFm C N Y d b x → ∀ (y : Int) (d1 : Nat), d ≤ d1 → jSmF C d1 x y = jSmF C d x y := by
  induction d with
  | zero => intro b n h; exact h.elim
  | succ d ih =>
    intro b x h y d1 hd
    cases d1 with
    | zero => omega
    | succ d1 =>
      have e : ∀ k, 0 ≤ k → k < jPts C x → jSmF C d1 (jPr C x k) (jPr C y k) = jSmF C d (jPr C x k) (jPr C y k) := fun k g0 g1 => ih (h.2 k g0 g1) _ d1 (by omega)
      unfold jSmF
      have e0 : (0 < jPts C x ∧ jSmF C d1 (jPr C x 0) (jPr C y 0) = 0) ↔ (0 < jPts C x ∧ jSmF C d (jPr C x 0) (jPr C y 0) = 0) := ⟨fun q => ⟨q.1, by rw [← e 0 (by omega) q.1]; exact q.2⟩, fun q => ⟨q.1, by rw [e 0 (by omega) q.1]; exact q.2⟩⟩
      have e1 : (1 < jPts C x ∧ jSmF C d1 (jPr C x 1) (jPr C y 1) = 0) ↔ (1 < jPts C x ∧ jSmF C d (jPr C x 1) (jPr C y 1) = 0) := ⟨fun q => ⟨q.1, by rw [← e 1 (by omega) q.1]; exact q.2⟩, fun q => ⟨q.1, by rw [e 1 (by omega) q.1]; exact q.2⟩⟩
      have e2 : (2 < jPts C x ∧ jSmF C d1 (jPr C x 2) (jPr C y 2) = 0) ↔ (2 < jPts C x ∧ jSmF C d (jPr C x 2) (jPr C y 2) = 0) := ⟨fun q => ⟨q.1, by rw [← e 2 (by omega) q.1]; exact q.2⟩, fun q => ⟨q.1, by rw [e 2 (by omega) q.1]; exact q.2⟩⟩
      simp only [e0, e1, e2]
theorem jSm_step {C : jK} {N Y b x : Int} {d : Nat} (h : jFm C N Y d b x) (hd : d ≤ 4000) (y : Int) : jSm C x y = if x = y then 1 else if jSo C.s x ≠ jSo C.s y then 0 else if (7 ≤ jSo C.s x ∧ jSo C.s x ≤ 10) ∧ jSo C.n x ≠ jSo C.n y then 0 else jSmK C x y (jPts C x) := by
  have e : ∀ k, 0 ≤ k → k < jPts C x → jSmF C 3999 (jPr C x k) (jPr C y k) = jSm C (jPr C x k) (jPr C y k) := fun k g0 g1 => by
    have hp := h.part g0 g1
    unfold jSm
    rw [jSmF_fuel hp _ 3999 (by omega), jSmF_fuel hp _ 4000 (by omega)]
  unfold jSm jSmK
  show jSmF C (3999 + 1) x y = _
  unfold jSmF
  have e0 : (0 < jPts C x ∧ jSmF C 3999 (jPr C x 0) (jPr C y 0) = 0) ↔ (0 < jPts C x ∧ jSm C (jPr C x 0) (jPr C y 0) = 0) := ⟨fun q => ⟨q.1, by rw [← e 0 (by omega) q.1]; exact q.2⟩, fun q => ⟨q.1, by rw [e 0 (by omega) q.1]; exact q.2⟩⟩
  have e1 : (1 < jPts C x ∧ jSmF C 3999 (jPr C x 1) (jPr C y 1) = 0) ↔ (1 < jPts C x ∧ jSm C (jPr C x 1) (jPr C y 1) = 0) := ⟨fun q => ⟨q.1, by rw [← e 1 (by omega) q.1]; exact q.2⟩, fun q => ⟨q.1, by rw [e 1 (by omega) q.1]; exact q.2⟩⟩
  have e2 : (2 < jPts C x ∧ jSmF C 3999 (jPr C x 2) (jPr C y 2) = 0) ↔ (2 < jPts C x ∧ jSm C (jPr C x 2) (jPr C y 2) = 0) := ⟨fun q => ⟨q.1, by rw [← e 2 (by omega) q.1]; exact q.2⟩, fun q => ⟨q.1, by rw [e 2 (by omega) q.1]; exact q.2⟩⟩
  simp only [e0, e1, e2]
theorem jSmK_0 (C : jK) (x y : Int) : jSmK C x y 0 = 1 := by unfold jSmK; simp
theorem jSmK_s (C : jK) (x y : Int) {k : Int} (h0 : 0 ≤ k) (h1 : k ≤ 2) (hs : jSm C (jPr C x k) (jPr C y k) ≠ 0) : jSmK C x y (k + 1) = jSmK C x y k := by
  have h : k = 0 ∨ k = 1 ∨ k = 2 := by omega
  unfold jSmK
  rcases h with rfl | rfl | rfl <;> simp [hs]
theorem jSmK_z (C : jK) (x y : Int) {k p : Int} (h0 : 0 ≤ k) (h1 : k < p) (h2 : p ≤ 3) (hs : jSm C (jPr C x k) (jPr C y k) = 0) : jSmK C x y p = 0 := by
  have h : k = 0 ∨ k = 1 ∨ k = 2 := by omega
  unfold jSmK
  rcases h with rfl | rfl | rfl
  · rw [if_pos ⟨by omega, hs⟩]
  · split
    · rfl
    · rw [if_pos ⟨by omega, hs⟩]
  · split
    · rfl
    · split
      · rfl
      · rw [if_pos ⟨by omega, hs⟩]
theorem jPts_like {C D : jK} {x y : Int} (hs : jSo D.s y = jSo C.s x) (hn : 7 ≤ jSo C.s x ∧ jSo C.s x ≤ 10 → jSo D.n y = jSo C.n x) (hy : ∀ j, D.y j = C.y j) : jPts D y = jPts C x := by
  unfold jPts
  rw [hs]
  by_cases q : jSo C.s x = 7 ∨ jSo C.s x = 8
  · rw [if_pos q, if_pos q, hn (by omega)]
    unfold jSo; rw [hy]
  · rw [if_neg q, if_neg q]
theorem jSm_sz {C : jK} {N Y : Int} {d : Nat} (hd : d ≤ 4000) : ∀ {b b1 x y : Int}, jFm C N Y d b x → jFm C N Y d b1 y → jSm C x y = 1 → jsz C x = jsz C y := by
  induction d with
  | zero => intro b b1 x y h; exact h.elim
  | succ d ih =>
    intro b b1 x y hx hy hs
    rw [jSm_step hx hd] at hs
    by_cases e : x = y
    · rw [e]
    rw [if_neg e] at hs
    by_cases e1 : jSo C.s x ≠ jSo C.s y
    · rw [if_pos e1] at hs; omega
    rw [if_neg e1] at hs
    by_cases e2 : (7 ≤ jSo C.s x ∧ jSo C.s x ≤ 10) ∧ jSo C.n x ≠ jSo C.n y
    · rw [if_pos e2] at hs; omega
    rw [if_neg e2] at hs
    have e3 : jSo C.s y = jSo C.s x := Decidable.byContradiction (fun q => e1 (fun z => q z.symm))
    have hp : jPts C y = jPts C x := jPts_like (D := C) e3 (fun q => Decidable.byContradiction (fun z => e2 ⟨q, fun w => z w.symm⟩)) (fun _ => rfl)
    rw [jsz_step hx hd, jsz_step hy hd, hp]
    have hp3 : jPts C x ≤ 3 := hx.nd.2.2.2.2.2.2.2.2
    have ek : ∀ k, 0 ≤ k → k < jPts C x → jsz C (jPr C x k) = jsz C (jPr C y k) := fun k g0 g1 => by
      refine ih (by omega) (hx.2 k g0 g1) (hy.2 k g0 (by omega)) ?_
      rcases jSm_01 C (jPr C x k) (jPr C y k) with z | z
      · rw [jSmK_z C x y g0 g1 hp3 z] at hs; omega
      · exact z
    unfold jSzK
    have e0 : (if 0 < jPts C x then jsz C (jPr C x 0) else 0) = (if 0 < jPts C x then jsz C (jPr C y 0) else 0) := by split; exact ek 0 (by omega) (by omega); rfl
    have e1 : (if 1 < jPts C x then jsz C (jPr C x 1) else 0) = (if 1 < jPts C x then jsz C (jPr C y 1) else 0) := by split; exact ek 1 (by omega) (by omega); rfl
    have e2 : (if 2 < jPts C x then jsz C (jPr C x 2) else 0) = (if 2 < jPts C x then jsz C (jPr C y 2) else 0) := by split; exact ek 2 (by omega) (by omega); rfl
    rw [e0, e1, e2]
theorem jSmF_ag {C D : jK} {N Y : Int} (hA : jAgK C D N) {d : Nat} : ∀ {b b1 x y : Int} {d1 : Nat}, jFm C N Y d b x → jFm C N Y d1 b1 y → ∀ e, jSmF D e x y = jSmF C e x y := by
  induction d with
  | zero => intro b b1 x y d1 h; exact h.elim
  | succ d ih =>
    intro b b1 x y d1 h hy e
    have h1 := h.nd.1; have h2 := h.nd.2.1
    have y1 := hy.nd.1; have y2 := hy.nd.2.1
    cases e with
    | zero => rfl
    | succ e =>
      obtain ⟨a1, a2, -⟩ := hA.so h1 h2
      obtain ⟨c1, c2, -⟩ := hA.so y1 y2
      unfold jSmF
      rw [hA.pts h1 h2, a1, a2, c1, c2]
      by_cases q0 : x = y
      · rw [if_pos q0, if_pos q0]
      rw [if_neg q0, if_neg q0]
      by_cases q1 : jSo C.s x ≠ jSo C.s y
      · rw [if_pos q1, if_pos q1]
      rw [if_neg q1, if_neg q1]
      by_cases q2 : (7 ≤ jSo C.s x ∧ jSo C.s x ≤ 10) ∧ jSo C.n x ≠ jSo C.n y
      · rw [if_pos q2, if_pos q2]
      rw [if_neg q2, if_neg q2]
      have e3 : jSo C.s y = jSo C.s x := Decidable.byContradiction (fun q => q1 (fun z => q z.symm))
      have hp : jPts C y = jPts C x := jPts_like (D := C) e3 (fun q => Decidable.byContradiction (fun z => q2 ⟨q, fun w => z w.symm⟩)) (fun _ => rfl)
      have ee : ∀ k, 0 ≤ k → k < jPts C x → jSmF D e (jPr D x k) (jPr D y k) = jSmF C e (jPr C x k) (jPr C y k) := fun k g0 g1 => by rw [hA.pr h1 h2, hA.pr y1 y2]; exact ih (h.2 k g0 g1) (hy.part g0 (by omega)) e
      have e0 : (0 < jPts C x ∧ jSmF D e (jPr D x 0) (jPr D y 0) = 0) ↔ (0 < jPts C x ∧ jSmF C e (jPr C x 0) (jPr C y 0) = 0) := ⟨fun q => ⟨q.1, by rw [← ee 0 (by omega) q.1]; exact q.2⟩, fun q => ⟨q.1, by rw [ee 0 (by omega) q.1]; exact q.2⟩⟩
      have e1 : (1 < jPts C x ∧ jSmF D e (jPr D x 1) (jPr D y 1) = 0) ↔ (1 < jPts C x ∧ jSmF C e (jPr C x 1) (jPr C y 1) = 0) := ⟨fun q => ⟨q.1, by rw [← ee 1 (by omega) q.1]; exact q.2⟩, fun q => ⟨q.1, by rw [ee 1 (by omega) q.1]; exact q.2⟩⟩
      have e2 : (2 < jPts C x ∧ jSmF D e (jPr D x 2) (jPr D y 2) = 0) ↔ (2 < jPts C x ∧ jSmF C e (jPr C x 2) (jPr C y 2) = 0) := ⟨fun q => ⟨q.1, by rw [← ee 2 (by omega) q.1]; exact q.2⟩, fun q => ⟨q.1, by rw [ee 2 (by omega) q.1]; exact q.2⟩⟩
      simp only [e0, e1, e2]
theorem jSm_ag {C D : jK} {N Y b b1 x y : Int} {d d1 : Nat} (hA : jAgK C D N) (h : jFm C N Y d b x) (hy : jFm C N Y d1 b1 y) : jSm D x y = jSm C x y := jSmF_ag hA h hy 4000
-- a sum over parts, for functions of a fuel
def jSu (p : Int) (f : Int → Int) : Int := (if 0 < p then f 0 else 0) + (if 1 < p then f 1 else 0) + (if 2 < p then f 2 else 0)
theorem jSu_congr {p : Int} {f g : Int → Int} (h : ∀ k, 0 ≤ k → k < p → f k = g k) : jSu p f = jSu p g := by
  unfold jSu
  have e0 : (if 0 < p then f 0 else 0) = (if 0 < p then g 0 else 0) := by split; exact h 0 (by omega) (by omega); rfl
  have e1 : (if 1 < p then f 1 else 0) = (if 1 < p then g 1 else 0) := by split; exact h 1 (by omega) (by omega); rfl
  have e2 : (if 2 < p then f 2 else 0) = (if 2 < p then g 2 else 0) := by split; exact h 2 (by omega) (by omega); rfl
  rw [e0, e1, e2]
theorem jSu_0 (f : Int → Int) : jSu 0 f = 0 := by unfold jSu; simp
theorem jSu_s (f : Int → Int) {k : Int} (h0 : 0 ≤ k) (h1 : k ≤ 2) : jSu (k + 1) f = jSu k f + f k := by
  have h : k = 0 ∨ k = 1 ∨ k = 2 := by omega
  unfold jSu
  rcases h with rfl | rfl | rfl <;> simp
theorem jSu_le {f : Int → Int} (hf : ∀ k, 0 ≤ f k) {k p : Int} (h1 : k ≤ p) : jSu k f ≤ jSu p f := by
  have g0 := hf 0; have g1 := hf 1; have g2 := hf 2
  unfold jSu
  split <;> split <;> split <;> split <;> split <;> split <;> omega
theorem jSu_nn {f : Int → Int} (hf : ∀ k, 0 ≤ f k) (p : Int) : 0 ≤ jSu p f := by
  have g0 := hf 0; have g1 := hf 1; have g2 := hf 2
  unfold jSu
  split <;> split <;> split <;> omega
theorem jSzK_eq (C : jK) (n k : Int) : jSzK C n k = 1 + jSu k (fun j => jsz C (jPr C n j)) := by unfold jSzK jSu; simp only []; omega
-- how often t stands in n
def jCnF (C : jK) (t : Int) : Nat → Int → Int
  | 0, _ => 0
  | d + 1, n => if jSm C n t = 1 then 1 else jSu (jPts C n) (fun k => jCnF C t d (jPr C n k))
def jCn (C : jK) (t n : Int) : Int := jCnF C t 4000 n
def jCnK (C : jK) (t n k : Int) : Int := jSu k (fun j => jCn C t (jPr C n j))
theorem jCnF_nn (C : jK) (t : Int) : ∀ (d : Nat) (n : Int), 0 ≤ jCnF C t d n := by
  intro d
  induction d with
  | zero => intro n; exact Int.le_refl 0
  | succ d ih => intro n; unfold jCnF; split; omega; exact jSu_nn (fun k => ih _) _
theorem jCn_nn (C : jK) (t n : Int) : 0 ≤ jCn C t n := jCnF_nn C t 4000 n
theorem jCnF_fuel {C : jK} {N Y t : Int} {d : Nat} : ∀ {b x : Int}, jFm C N Y d b x → ∀ (d1 : Nat), d ≤ d1 → jCnF C t d1 x = jCnF C t d x := by
  induction d with
  | zero => intro b n h; exact h.elim
  | succ d ih =>
    intro b x h d1 hd
    cases d1 with
    | zero => omega
    | succ d1 =>
      unfold jCnF
      rw [jSu_congr (fun k g0 g1 => ih (h.2 k g0 g1) d1 (by omega))]
theorem jCn_step {C : jK} {N Y b t x : Int} {d : Nat} (h : jFm C N Y d b x) (hd : d ≤ 4000) : jCn C t x = if jSm C x t = 1 then 1 else jCnK C t x (jPts C x) := by
  unfold jCnK jCn
  show jCnF C t (3999 + 1) x = _
  unfold jCnF
  rw [jSu_congr (g := fun j => jCnF C t 4000 (jPr C x j)) (fun k g0 g1 => by rw [jCnF_fuel (h.part g0 g1) 3999 (by omega), jCnF_fuel (h.part g0 g1) 4000 (by omega)])]
  rfl
theorem jCnK_0 (C : jK) (t x : Int) : jCnK C t x 0 = 0 := jSu_0 _
theorem jCnK_s (C : jK) (t x : Int) {k : Int} (h0 : 0 ≤ k) (h1 : k ≤ 2) : jCnK C t x (k + 1) = jCnK C t x k + jCn C t (jPr C x k) := jSu_s _ h0 h1
theorem jSu_mono {p : Int} {f g : Int → Int} (h : ∀ k, 0 ≤ k → k < p → f k ≤ g k) : jSu p f ≤ jSu p g := by
  unfold jSu
  have e0 : (if 0 < p then f 0 else 0) ≤ (if 0 < p then g 0 else 0) := by split; exact h 0 (by omega) (by omega); omega
  have e1 : (if 1 < p then f 1 else 0) ≤ (if 1 < p then g 1 else 0) := by split; exact h 1 (by omega) (by omega); omega
  have e2 : (if 2 < p then f 2 else 0) ≤ (if 2 < p then g 2 else 0) := by split; exact h 2 (by omega) (by omega); omega
  omega
theorem jCn_le {C : jK} {N Y t : Int} {d : Nat} (hd : d ≤ 4000) : ∀ {b x : Int}, jFm C N Y d b x → jCn C t x ≤ jsz C x := by
  induction d with
  | zero => intro b n h; exact h.elim
  | succ d ih =>
    intro b x h
    have h1 := jsz_pos h
    rw [jCn_step h hd]
    split
    · exact h1
    · rw [jsz_step h hd, jSzK_eq]
      have := jSu_mono (p := jPts C x) (f := fun j => jCn C t (jPr C x j)) (g := fun j => jsz C (jPr C x j)) (fun k g0 g1 => ih (by omega) (h.2 k g0 g1))
      unfold jCnK
      omega
theorem jCnK_le {C : jK} {N Y b t x : Int} {d : Nat} (hd : d ≤ 4000) (h : jFm C N Y d b x) {k : Int} (hk : k ≤ jPts C x) : 0 ≤ jCnK C t x k ∧ jCnK C t x k < jsz C x := by
  refine ⟨jSu_nn (fun _ => jCn_nn C t _) _, ?_⟩
  rw [jsz_step h hd, jSzK_eq]
  have h1 := jSu_mono (p := k) (f := fun j => jCn C t (jPr C x j)) (g := fun j => jsz C (jPr C x j)) (fun k' g0 g1 => jCn_le (by omega) (h.part g0 (by omega)))
  have h2 := jSu_le (f := fun j => jsz C (jPr C x j)) (fun _ => jsz_nn C _) hk
  unfold jCnK
  omega
-- the size with terms put in
def jSwF (C : jK) (T : Nat → Int32) (m : Int) : Nat → Int → Int → Int
  | 0, _, _ => 0
  | d + 1, v, n => if jSo C.s n = 10 ∧ v ≤ jSo C.n n ∧ jSo C.n n < v + m then jsz C (jSo T (m - 1 - jSo C.n n + v)) else 1 + jSu (jPts C n) (fun k => jSwF C T m d (v + jQf C n) (jPr C n k))
def jSw (C : jK) (T : Nat → Int32) (m v n : Int) : Int := jSwF C T m 4000 v n
def jSwK (C : jK) (T : Nat → Int32) (m v n k : Int) : Int := 1 + jSu k (fun j => jSw C T m (v + jQf C n) (jPr C n j))
theorem jSwF_nn (C : jK) (T : Nat → Int32) (m : Int) : ∀ (d : Nat) (v n : Int), 0 ≤ jSwF C T m d v n := by
  intro d
  induction d with
  | zero => intro v n; exact Int.le_refl 0
  | succ d ih =>
    intro v n; unfold jSwF; split
    · exact jsz_nn C _
    · have := jSu_nn (f := fun k => jSwF C T m d (v + jQf C n) (jPr C n k)) (fun k => ih _ _) (jPts C n); omega
theorem jSwF_fuel {C : jK} {N Y m : Int} {T : Nat → Int32} {d : Nat} : ∀ {b x : Int}, jFm C N Y d b x → ∀ (v : Int) (d1 : Nat), d ≤ d1 → jSwF C T m d1 v x = jSwF C T m d v x := by
  induction d with
  | zero => intro b n h; exact h.elim
  | succ d ih =>
    intro b x h v d1 hd
    cases d1 with
    | zero => omega
    | succ d1 =>
      unfold jSwF
      rw [jSu_congr (fun k g0 g1 => ih (h.2 k g0 g1) _ d1 (by omega))]
theorem jSw_step {C : jK} {N Y b m x : Int} {T : Nat → Int32} {d : Nat} (h : jFm C N Y d b x) (hd : d ≤ 4000) (v : Int) : jSw C T m v x = if jSo C.s x = 10 ∧ v ≤ jSo C.n x ∧ jSo C.n x < v + m then jsz C (jSo T (m - 1 - jSo C.n x + v)) else jSwK C T m v x (jPts C x) := by
  have e : jSw C T m v x = if jSo C.s x = 10 ∧ v ≤ jSo C.n x ∧ jSo C.n x < v + m then jsz C (jSo T (m - 1 - jSo C.n x + v)) else 1 + jSu (jPts C x) (fun k => jSwF C T m 3999 (v + jQf C x) (jPr C x k)) := rfl
  rw [e, jSu_congr (g := fun j => jSw C T m (v + jQf C x) (jPr C x j)) (fun k g0 g1 => by unfold jSw; rw [jSwF_fuel (h.part g0 g1) _ 3999 (by omega), jSwF_fuel (h.part g0 g1) _ 4000 (by omega)])]
  rfl
theorem jSwK_0 (C : jK) (T : Nat → Int32) (m v x : Int) : jSwK C T m v x 0 = 1 := by unfold jSwK; rw [jSu_0]; rfl
theorem jSwK_s (C : jK) (T : Nat → Int32) (m v x : Int) {k : Int} (h0 : 0 ≤ k) (h1 : k ≤ 2) : jSwK C T m v x (k + 1) = jSwK C T m v x k + jSw C T m (v + jQf C x) (jPr C x k) := by unfold jSwK; rw [jSu_s _ h0 h1]; omega
theorem jSwK_le (C : jK) (T : Nat → Int32) (m v x : Int) {k p : Int} (h1 : k ≤ p) : jSwK C T m v x k ≤ jSwK C T m v x p := by
  have := jSu_le (f := fun j => jSw C T m (v + jQf C x) (jPr C x j)) (fun _ => jSwF_nn C T m _ _ _) h1
  unfold jSwK; omega
theorem jSw_nn (C : jK) (T : Nat → Int32) (m v x : Int) : 0 ≤ jSw C T m v x := jSwF_nn C T m _ _ _
theorem jSw_le {C : jK} {N Y m : Int} {T : Nat → Int32} {e : Nat} (hT : jTs C N Y e T m) {d : Nat} (hd : d ≤ 4000) : ∀ {b x : Int} (v : Int), jFm C N Y d b x → jSw C T m v x ≤ 5000 * jsz C x := by
  induction d with
  | zero => intro b n v h; exact h.elim
  | succ d ih =>
    intro b x v h
    have h1 := jsz_pos h
    rw [jSw_step h hd]
    split
    · next q =>
      have := (hT (m - 1 - jSo C.n x + v) (by omega) (by omega)).2
      omega
    · rw [jsz_step h hd, jSzK_eq]
      unfold jSwK
      have h2 : ∀ k, 0 ≤ k → k < jPts C x → jSw C T m (v + jQf C x) (jPr C x k) ≤ 5000 * jsz C (jPr C x k) := fun k g0 g1 => ih (by omega) _ (h.2 k g0 g1)
      have h3 := jSu_mono (p := jPts C x) h2
      have h4 : jSu (jPts C x) (fun k => 5000 * jsz C (jPr C x k)) = 5000 * jSu (jPts C x) (fun k => jsz C (jPr C x k)) := by
        unfold jSu
        simp only []
        split <;> split <;> split <;> omega
      rw [h4] at h3
      omega
theorem jSw_ag {C D : jK} {N Y m : Int} {T : Nat → Int32} {e : Nat} (hA : jAgK C D N) (hT : jTs C N Y e T m) {d : Nat} : ∀ {b x : Int}, jFm C N Y d b x → ∀ (v : Int) (d1 : Nat), jSwF D T m d1 v x = jSwF C T m d1 v x := by
  induction d with
  | zero => intro b n h; exact h.elim
  | succ d ih =>
    intro b x h v d1
    have h1 := h.nd.1; have h2 := h.nd.2.1
    cases d1 with
    | zero => rfl
    | succ d1 =>
      obtain ⟨a1, a2, -⟩ := hA.so h1 h2
      unfold jSwF
      rw [a1, a2, hA.pts h1 h2, hA.qf h1 h2]
      by_cases q : jSo C.s x = 10 ∧ v ≤ jSo C.n x ∧ jSo C.n x < v + m
      · rw [if_pos q, if_pos q]
        exact jsz_ag hA (hT _ (by omega) (by omega)).1
      · rw [if_neg q, if_neg q, jSu_congr (g := fun k => jSwF C T m d1 (v + jQf C x) (jPr C x k)) (fun k g0 g1 => by rw [hA.pr h1 h2]; exact ih (h.2 k g0 g1) _ d1)]
theorem jSw_ag' {C D : jK} {N Y b x v m : Int} {T : Nat → Int32} {e d : Nat} (hA : jAgK C D N) (hT : jTs C N Y e T m) (h : jFm C N Y d b x) : jSw D T m v x = jSw C T m v x := jSw_ag hA hT h v 4000
-- a new node behind all others
theorem jNw.fm {C D : jK} {N Y b ws wn wa wb wc : Int} {d : Nat} (h : jNw C D N ws wn wa wb wc) (hnd : jNd D (N + 1) Y b N) (ha : 0 < jPts D N → jFm C N Y d (b + jQf D N) wa) (hb : 1 < jPts D N → jFm C N Y d (b + jQf D N) wb) (hc : 2 < jPts D N → jFm C N Y d (b + jQf D N) wc) : jFm D (N + 1) Y (d + 1) b N := by
  obtain ⟨hA, e1, e2, e3, e4, e5⟩ := h
  refine ⟨hnd, fun k g0 g1 => ?_⟩
  have hp3 : jPts D N ≤ 3 := hnd.2.2.2.2.2.2.2.2
  have hk : k = 0 ∨ k = 1 ∨ k = 2 := by omega
  rcases hk with rfl | rfl | rfl
  · show jFm D (N + 1) Y d (b + jQf D N) (jSo D.a N); rw [e3]; exact (ha g1).ag hA (by omega)
  · show jFm D (N + 1) Y d (b + jQf D N) (jSo D.b N); rw [e4]; exact (hb g1).ag hA (by omega)
  · show jFm D (N + 1) Y d (b + jQf D N) (jSo D.c N); rw [e5]; exact (hc g1).ag hA (by omega)
theorem jTr.szp {C : jK} {d : Nat} {n k : Int} (h : jTr C d n) (hd : d ≤ 4000) (h0 : 0 ≤ k) (h1 : k < jPts C n) : jsz C (jPr C n k) + 1 ≤ jsz C n := by obtain ⟨b, h⟩ := h; exact jsz_part h hd h0 h1
theorem jTr.sm {C : jK} {d : Nat} {x : Int} (h : jTr C d x) (hd : d ≤ 4000) (y : Int) : jSm C x y = if x = y then 1 else if jSo C.s x ≠ jSo C.s y then 0 else if (7 ≤ jSo C.s x ∧ jSo C.s x ≤ 10) ∧ jSo C.n x ≠ jSo C.n y then 0 else jSmK C x y (jPts C x) := by obtain ⟨b, h⟩ := h; exact jSm_step h hd y
theorem jTr.cn {C : jK} {d : Nat} {x t : Int} (h : jTr C d x) (hd : d ≤ 4000) : jCn C t x = if jSm C x t = 1 then 1 else jCnK C t x (jPts C x) := by obtain ⟨b, h⟩ := h; exact jCn_step h hd
theorem jTr.cnk {C : jK} {d : Nat} {x t k : Int} (h : jTr C d x) (hd : d ≤ 4000) (hk : k ≤ jPts C x) : 0 ≤ jCnK C t x k ∧ jCnK C t x k < jsz C x := by obtain ⟨b, h⟩ := h; exact jCnK_le hd h hk
-- nothing bound inside
def jNbF (C : jK) : Nat → Int → Prop
  | 0, _ => True
  | d + 1, n => jSo C.s n ≠ 10 ∧ ∀ k : Int, 0 ≤ k → k < jPts C n → jNbF C d (jPr C n k)
def jNbK (C : jK) (d : Nat) (n k : Int) : Prop := ∀ j : Int, 0 ≤ j → j < k → jNbF C d (jPr C n j)
theorem jNbK_0 (C : jK) (d : Nat) (n : Int) : jNbK C d n 0 := fun j h0 h1 => by omega
theorem jNbK_s {C : jK} {d : Nat} {n k : Int} (h : jNbK C d n k) (h1 : jNbF C d (jPr C n k)) : jNbK C d n (k + 1) := fun j g0 g1 => by
  by_cases e : j = k
  · rw [e]; exact h1
  · exact h j g0 (by omega)
theorem jNbF_mk {C : jK} {d : Nat} {n : Int} (hd : 1 ≤ d) (h0 : jSo C.s n ≠ 10) (h : jNbK C (d - 1) n (jPts C n)) : jNbF C d n := by
  cases d with
  | zero => omega
  | succ d => exact ⟨h0, h⟩
theorem jFm.closed {C : jK} {N Y : Int} {d : Nat} : ∀ {b n : Int}, jFm C N Y d b n → jNbF C d n → ∀ b1, jFm C N Y d b1 n := by
  induction d with
  | zero => intro b n h; exact h.elim
  | succ d ih =>
    intro b n h hn b1
    obtain ⟨⟨h1, h2, h3, h4, h5, h6, h7⟩, hp⟩ := h
    exact ⟨⟨h1, h2, h3, h4, h5, fun q => absurd q hn.1, h7⟩, fun k g0 g1 => ih (hp k g0 g1) (hn.2 k g0 g1) _⟩
theorem jQf_ok (C : jK) (n : Int) : (jSo C.s n = 4 ∨ jSo C.s n = 5 → jQf C n = 1) ∧ (jSo C.s n ≠ 4 ∧ jSo C.s n ≠ 5 → jQf C n = 0) ∧ 0 ≤ jQf C n ∧ jQf C n ≤ 1 := by
  unfold jQf
  split <;> omega
theorem jPts_nl (C : jK) (n : Int) : (jSo C.s n = 10 → jPts C n = 0) ∧ (jSo C.s n = 4 ∨ jSo C.s n = 5 → jPts C n = 1) ∧ (jSo C.s n = 0 ∨ jSo C.s n = 1 ∨ jSo C.s n = 2 ∨ jSo C.s n = 6 → jPts C n = 2) ∧ (jSo C.s n = 3 ∨ jSo C.s n = 9 → jPts C n = 0) := by
  unfold jPts
  refine ⟨fun h => ?_, fun h => ?_, fun h => ?_, fun h => ?_⟩
  · rw [if_neg (by omega), if_neg (by omega), if_neg (by omega)]
  · rw [if_neg (by omega), if_neg (by omega), if_pos (by omega)]
  · rw [if_neg (by omega), if_pos (by omega)]
  · rw [if_neg (by omega), if_neg (by omega), if_neg (by omega)]
theorem jSzK_x (C : jK) (n p : Int) : jSzK C n p = 1 + (if 0 < p then jsz C (jSo C.a n) else 0) + (if 1 < p then jsz C (jSo C.b n) else 0) + (if 2 < p then jsz C (jSo C.c n) else 0) := rfl
theorem jSwK_x (C : jK) (T : Nat → Int32) (m v n p : Int) : jSwK C T m v n p = 1 + (if 0 < p then jSw C T m (v + jQf C n) (jSo C.a n) else 0) + (if 1 < p then jSw C T m (v + jQf C n) (jSo C.b n) else 0) + (if 2 < p then jSw C T m (v + jQf C n) (jSo C.c n) else 0) := by
  have : jSwK C T m v n p = 1 + ((if 0 < p then jSw C T m (v + jQf C n) (jSo C.a n) else 0) + (if 1 < p then jSw C T m (v + jQf C n) (jSo C.b n) else 0) + (if 2 < p then jSw C T m (v + jQf C n) (jSo C.c n) else 0)) := rfl
  rw [this]; omega
/-- what replacing t by u adds to n -/
def jCd (C : jK) (t u n : Int) : Int := jCn C t n * (jsz C u - jsz C t)
theorem jCd_x {C : jK} {d : Nat} {n t u : Int} (h : jTr C d n) (hd : d ≤ 4000) : (jSm C n t = 1 → jCd C t u n = jsz C u - jsz C t) ∧ (jSm C n t = 0 → jCd C t u n = (if 0 < jPts C n then jCd C t u (jSo C.a n) else 0) + (if 1 < jPts C n then jCd C t u (jSo C.b n) else 0) + (if 2 < jPts C n then jCd C t u (jSo C.c n) else 0)) := by
  have h1 := h.cn (t := t) hd
  constructor
  · intro q
    unfold jCd
    rw [h1, if_pos q, Int.one_mul]
  · intro q
    unfold jCd
    rw [h1, if_neg (by omega)]
    have e : jCnK C t n (jPts C n) = (if 0 < jPts C n then jCn C t (jSo C.a n) else 0) + (if 1 < jPts C n then jCn C t (jSo C.b n) else 0) + (if 2 < jPts C n then jCn C t (jSo C.c n) else 0) := rfl
    rw [e]
    split <;> split <;> split <;> simp [Int.add_mul]
/-- a node made again with other parts -/
theorem jRe {C D3 D : jK} {N N3 Y b n v wa wb wc : Int} {d e : Nat} (hF : jFm C N Y d b n) (hA : jAgK C D3 N) (hN : N ≤ N3) (hw : jNw D3 D N3 (jSo C.s n) (jSo C.n n) wa wb wc) (h10 : jSo C.s n = 10 → jSo C.n n < v) (he : e + 1 ≤ 4000)
    (ha : 0 < jPts C n → jFm D3 N3 Y e (v + jQf C n) wa) (hb : 1 < jPts C n → jFm D3 N3 Y e (v + jQf C n) wb) (hc : 2 < jPts C n → jFm D3 N3 Y e (v + jQf C n) wc) :
    jAgK C D N ∧ jFm D (N3 + 1) Y (e + 1) v N3 ∧ jsz D N3 = 1 + (if 0 < jPts C n then jsz D3 wa else 0) + (if 1 < jPts C n then jsz D3 wb else 0) + (if 2 < jPts C n then jsz D3 wc else 0) := by
  have hw' := hw
  obtain ⟨hA2, e1, e2, e3, e4, e5⟩ := hw
  obtain ⟨q1, q2, q3, q4, q5, q6, q7, q8, q9⟩ := hF.nd
  have hy : ∀ j, D.y j = C.y j := fun j => (hA2.2 j).trans (hA.2 j)
  have hp : jPts D N3 = jPts C n := jPts_like e1 (fun _ => e2) hy
  have hq : jQf D N3 = jQf C n := by unfold jQf; rw [e1]
  have hnd : jNd D (N3 + 1) Y v N3 := by
    refine ⟨by omega, by omega, ?_, ?_, ?_, ?_, ?_, ?_, ?_⟩
    · rw [e1]; exact q3
    · rw [e1]; exact q4
    · rw [e1, e2]; exact q5
    · rw [e1, e2]; exact fun g => ⟨(q6 g).1, h10 g⟩
    · rw [e1, e2]; exact q7
    · rw [hp]; exact q8
    · rw [hp]; exact q9
  have ha' : 0 < jPts D N3 → jFm D3 N3 Y e (v + jQf D N3) wa := by rw [hp, hq]; exact ha
  have hb' : 1 < jPts D N3 → jFm D3 N3 Y e (v + jQf D N3) wb := by rw [hp, hq]; exact hb
  have hc' : 2 < jPts D N3 → jFm D3 N3 Y e (v + jQf D N3) wc := by rw [hp, hq]; exact hc
  have hFm := hw'.fm hnd ha' hb' hc'
  refine ⟨hA.tr hA2 hN, hFm, ?_⟩
  rw [hw'.sz he hFm ha' hb' hc', hp]
theorem jIf4 (p c A B E : Int) : (p = 0 → c + (if 0 < p then A else 0) + (if 1 < p then B else 0) + (if 2 < p then E else 0) = c) ∧ (p = 1 → c + (if 0 < p then A else 0) + (if 1 < p then B else 0) + (if 2 < p then E else 0) = c + A) ∧ (p = 2 → c + (if 0 < p then A else 0) + (if 1 < p then B else 0) + (if 2 < p then E else 0) = c + A + B) ∧ (p = 3 → c + (if 0 < p then A else 0) + (if 1 < p then B else 0) + (if 2 < p then E else 0) = c + A + B + E) := by
  refine ⟨fun h => ?_, fun h => ?_, fun h => ?_, fun h => ?_⟩ <;> subst h <;> simp
theorem jSzK_y (C : jK) (n p : Int) : (p = 0 → jSzK C n p = 1) ∧ (p = 1 → jSzK C n p = 1 + jsz C (jSo C.a n)) ∧ (p = 2 → jSzK C n p = 1 + jsz C (jSo C.a n) + jsz C (jSo C.b n)) ∧ (p = 3 → jSzK C n p = 1 + jsz C (jSo C.a n) + jsz C (jSo C.b n) + jsz C (jSo C.c n)) := by
  rw [jSzK_x]; exact jIf4 p 1 _ _ _
theorem jSwK_y (C : jK) (T : Nat → Int32) (m v n p : Int) : (p = 0 → jSwK C T m v n p = 1) ∧ (p = 1 → jSwK C T m v n p = 1 + jSw C T m (v + jQf C n) (jSo C.a n)) ∧ (p = 2 → jSwK C T m v n p = 1 + jSw C T m (v + jQf C n) (jSo C.a n) + jSw C T m (v + jQf C n) (jSo C.b n)) ∧ (p = 3 → jSwK C T m v n p = 1 + jSw C T m (v + jQf C n) (jSo C.a n) + jSw C T m (v + jQf C n) (jSo C.b n) + jSw C T m (v + jQf C n) (jSo C.c n)) := by
  rw [jSwK_x]; exact jIf4 p 1 _ _ _
theorem jCd_y {C : jK} {d : Nat} {n t u : Int} (h : jTr C d n) (hd : d ≤ 4000) : (jSm C n t = 1 → jCd C t u n = jsz C u - jsz C t) ∧ (jSm C n t = 0 → (jPts C n = 0 → jCd C t u n = 0) ∧ (jPts C n = 1 → jCd C t u n = jCd C t u (jSo C.a n)) ∧ (jPts C n = 2 → jCd C t u n = jCd C t u (jSo C.a n) + jCd C t u (jSo C.b n)) ∧ (jPts C n = 3 → jCd C t u n = jCd C t u (jSo C.a n) + jCd C t u (jSo C.b n) + jCd C t u (jSo C.c n))) := by
  obtain ⟨h1, h2⟩ := jCd_x (t := t) (u := u) h hd
  refine ⟨h1, fun q => ?_⟩
  have h3 := jIf4 (jPts C n) 0 (jCd C t u (jSo C.a n)) (jCd C t u (jSo C.b n)) (jCd C t u (jSo C.c n))
  simp only [Int.zero_add] at h3
  rw [h2 q]; exact h3
theorem jRe4 {C D3 D : jK} {N N3 Y b n v wa wb wc : Int} {d e : Nat} (hF : jFm C N Y d b n) (hA : jAgK C D3 N) (hN : N ≤ N3) (hw : jNw D3 D N3 (jSo C.s n) (jSo C.n n) wa wb wc) (h10 : jSo C.s n = 10 → jSo C.n n < v) (he : e + 1 ≤ 4000)
    (ha : 0 < jPts C n → jFm D3 N3 Y e (v + jQf C n) wa) (hb : 1 < jPts C n → jFm D3 N3 Y e (v + jQf C n) wb) (hc : 2 < jPts C n → jFm D3 N3 Y e (v + jQf C n) wc) :
    jAgK C D N ∧ jFm D (N3 + 1) Y (e + 1) v N3 ∧ (jPts C n = 1 → jsz D N3 = 1 + jsz D3 wa) ∧ (jPts C n = 2 → jsz D N3 = 1 + jsz D3 wa + jsz D3 wb) ∧ (jPts C n = 3 → jsz D N3 = 1 + jsz D3 wa + jsz D3 wb + jsz D3 wc) := by
  obtain ⟨h1, h2, h3⟩ := jRe hF hA hN hw h10 he ha hb hc
  rw [h3]
  exact ⟨h1, h2, (jIf4 _ _ _ _ _).2⟩
theorem jCnF_ag {C D : jK} {N Y b1 t : Int} {d1 : Nat} (hA : jAgK C D N) (ht : jFm C N Y d1 b1 t) {d : Nat} : ∀ {b n : Int}, jFm C N Y d b n → ∀ e, jCnF D t e n = jCnF C t e n := by
  induction d with
  | zero => intro b n h; exact h.elim
  | succ d ih =>
    intro b n h e
    have h1 := h.nd.1; have h2 := h.nd.2.1
    cases e with
    | zero => rfl
    | succ e =>
      unfold jCnF
      rw [jSm_ag hA h ht, hA.pts h1 h2, jSu_congr (g := fun k => jCnF C t e (jPr C n k)) (fun k g0 g1 => by rw [hA.pr h1 h2]; exact ih (h.2 k g0 g1) e)]
theorem jCd_ag {C D : jK} {N Y b b1 b2 n t u : Int} {d d1 d2 : Nat} (hA : jAgK C D N) (h : jFm C N Y d b n) (ht : jFm C N Y d1 b1 t) (hu : jFm C N Y d2 b2 u) : jCd D t u n = jCd C t u n := by
  unfold jCd jCn
  rw [jCnF_ag hA ht h, jsz_ag hA ht, jsz_ag hA hu]
/-- terms that are found so far -/
def jTo (C : jK) (N Y : Int) (T : Nat → Int32) (m : Int) : Prop := ∀ k : Int, 0 ≤ k → k < m → jSo T k < 0 ∨ (jFm C N Y 80 0 (jSo T k) ∧ jsz C (jSo T k) ≤ 80)
theorem jTo.set {C : jK} {N Y m g x : Int} {T T1 : Nat → Int32} {n : Nat} (h : jTo C N Y T m) (ho : ∀ j, j < n → j ≠ x.toNat → T1 j = T j) (hv : jSo T1 x = g) (hx : 0 ≤ x) (hm : m ≤ n) (hg : jFm C N Y 80 0 g) (hs : jsz C g ≤ 80) : jTo C N Y T1 m := fun k h0 h1 => by
  by_cases e : k = x
  · rw [e, hv]; exact Or.inr ⟨hg, hs⟩
  · have e1 : jSo T1 k = jSo T k := by unfold jSo; rw [ho k.toNat (by omega) (by omega)]
    rw [e1]; exact h k h0 h1
theorem jSwK_a (C : jK) (T : Nat → Int32) (m v n p : Int) (h : 0 < p) (h3 : p ≤ 3) : 1 + jSw C T m (v + jQf C n) (jSo C.a n) ≤ jSwK C T m v n p := by
  have := jSwK_le C T m v n (k := 1) (p := p) (by omega)
  rw [(jSwK_y C T m v n 1).2.1 rfl] at this; exact this
theorem jSwK_b (C : jK) (T : Nat → Int32) (m v n p : Int) (h : 1 < p) (h3 : p ≤ 3) : 1 + jSw C T m (v + jQf C n) (jSo C.a n) + jSw C T m (v + jQf C n) (jSo C.b n) ≤ jSwK C T m v n p := by
  have := jSwK_le C T m v n (k := 2) (p := p) (by omega)
  rw [(jSwK_y C T m v n 2).2.2.1 rfl] at this; exact this
theorem jSzK_a (C : jK) (n p : Int) (h : 0 < p) (h3 : p ≤ 3) : 1 + jsz C (jSo C.a n) ≤ jSzK C n p := by
  have := jSzK_le C n (k := 1) (p := p) (by omega) (by omega)
  rw [(jSzK_y C n 1).2.1 rfl] at this; exact this
theorem jSzK_b (C : jK) (n p : Int) (h : 1 < p) (h3 : p ≤ 3) : 1 + jsz C (jSo C.a n) + jsz C (jSo C.b n) ≤ jSzK C n p := by
  have := jSzK_le C n (k := 2) (p := p) (by omega) (by omega)
  rw [(jSzK_y C n 2).2.2.1 rfl] at this; exact this
theorem jFm.sym {C : jK} {N Y b n : Int} {d : Nat} (h : jFm C N Y d b n) (hY : Y ≤ 16) : jSo C.s n = 7 ∨ jSo C.s n = 8 → 0 ≤ jSo C.n n ∧ jSo C.n n < 16 := fun q => ⟨(h.nd.2.2.2.2.1 q).1, by have := (h.nd.2.2.2.2.1 q).2; omega⟩
theorem jFm.bnd {C : jK} {N Y b n : Int} {d : Nat} (h : jFm C N Y d b n) (q : jSo C.s n = 10) : 0 ≤ jSo C.n n ∧ jSo C.n n < b ∧ jPts C n = 0 := ⟨(h.nd.2.2.2.2.2.1 q).1, (h.nd.2.2.2.2.2.1 q).2, (jPts_nl C n).1 q⟩
theorem jTr.sym {C : jK} {n : Int} {d : Nat} (h : jTr C d n) : jSo C.s n = 7 ∨ jSo C.s n = 8 → 0 ≤ jSo C.n n ∧ jSo C.n n < 16 := by obtain ⟨b, h⟩ := h; exact h.sym (Int.le_refl _)
section J12
variable {p : Program} {l : Launch} {e : Env} {R : Room} {s : State} {m : MethodId} {args : Array Value} {below : List Frame} {meth : Method} {c : Code} {H : Heap} {locs : List Loc} {cells slots : Nat} {Q : State → Prop}
variable {cc : ByteArray} {pc : Nat} {ls : Array Slot} {rest : List Value} {dC : Nat → ClassId} {dI : Nat → Nat → Nat} {ca : Nat → ClassId} {B : jF} {base : Nat} {G0 G : jT} {E : List (Nat × Nat)} {H0 : Heap} {zc zs : Nat} {L : List jPin} {M : List jCt} {I : List jIv} {a k n : Nat} {P : Nat → Int32 → Prop} {cA : ClassId} {tys : List (ClassId × FieldType)}
theorem jSt.moreM (hh : jSt (dC, dI) B base G0 G E H0 zc zs L M I H locs) {M1 : List jCt} (h : jMc (dC, dI) G H M1) : jSt (dC, dI) B base G0 G E H0 zc zs L (M1 ++ M) I H locs := by
  obtain ⟨h1, h2, h3, h4, h5, h6, h7, h8, h9⟩ := hh
  exact ⟨h1, h2, h3, h4, h5, h6, h7, fun q hq => (List.mem_append.mp hq).elim (h q) (h8 q), h9⟩
/-- a store into an array whose contents are known -/
theorem j7_iastU (hexec : p.tables.exec = Jvm.exec) (hb : c.code = cc) (hK : va_K (dC, dI) vwCl tys s) (hh : jSt (dC, dI) B base G0 G E H0 zc zs L M I H locs) (hB : jBok B) (hBk : ∀ n G a H, B k n G a H ↔ jAr (dC, dI) cA P n a H) (t0 : Nat) (ht : tys[t0]? = some (cA, .int)) (hk : k < 1000) (hk2 : 18 ≤ k) (hE : E.contains (k, 0) = true) (oj : Nat) {kk1 : Nat} {cB : ClassId} {f : Nat → Int32} (hj : M[oj]? = some (a, kk1, n, cB, f)) {M1 : List jCt} (js : List Nat) (hjs : js.map (fun i => M[i]?) = M1.map some) (hM : M1.all (fun q => !(q.2.1 == k)) = true) (hI : I.all (fun q => !(q.1.contains (k, 0))) = true) (ha : G a = some (k, n)) {i v : Int32} {x : Int} (hi : i.toInt = x) (h12 : 0 ≤ x ∧ x < n) (hv : P x.toNat v) (hdg : decode cc pc = .ok (.iastore, 1))
    (kk : ∀ (H1 : Heap) (locs1 : List Loc) (g : Nat → Int32), g x.toNat = v → (∀ j, j < n → j ≠ x.toNat → g j = f j) → jSt (dC, dI) B base G0 G E H0 zc zs L ((a, k, n, cA, g) :: M1) I H1 locs1 → W p l e R s m args below meth c H1 locs1 cells slots Q (F0 m (pc + 1) ls rest)) : W p l e R s m args below meth c H locs cells slots Q (F0 m pc ls (.int v :: .int i :: .ref a :: rest)) := by
  obtain ⟨h1, h2⟩ := h12
  obtain ⟨f', g1, g2⟩ := hh.ar hBk hk ha
  obtain ⟨-, -, -, q4⟩ := hh.2.2.2.2.2.2.2.1 _ (List.mem_of_getElem? hj)
  have hh1 : jSt (dC, dI) B base G0 G E H0 zc zs L M1 I H locs := by
    obtain ⟨e1, e2, e3, e4, e5, e6, e7, e8, e9⟩ := hh
    exact ⟨e1, e2, e3, e4, e5, e6, e7, e8.sub js hjs, e9⟩
  refine j_iast (A := jA base) hexec hb hK t0 g1 (hh.ab ha).1 hh.1.2.2 ht (jb_in hi h1 h2) hdg (fun H1 locs1 hat hsz hfr hT hL => ?_)
  have h9 := hh1.arr hB ha hk hk2 hE hM hI hsz hfr hT hL ((hBk _ _ _ _).mpr ⟨_, hat, jAr_upd g2 hi h1 hv⟩)
  refine kk H1 locs1 (upd f' i.toNatClampNeg v) (by rw [← jb_cl hi h1]; simp [upd]) (fun j hj' hne => ?_) ?_
  · have : j ≠ i.toNatClampNeg := by rw [jb_cl hi h1]; exact hne
    simp only [upd, if_neg this]
    exact (jCt_eq q4 g1 hj').symm
  · obtain ⟨e1, e2, e3, e4, e5, e6, e7, e8, e9⟩ := h9
    refine ⟨e1, e2, e3, e4, e5, e6, e7, fun q hq => ?_, e9⟩
    rcases List.mem_cons.mp hq with e | e
    · subst e; exact ⟨ha, hk2, hk, hat⟩
    · exact e8 q e
end J12
end
