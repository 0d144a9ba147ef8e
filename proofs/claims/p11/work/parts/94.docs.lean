theorem dX14_sentence_0 : decode cX14_sentence 0 = .ok (.iload_n 1, 1) := by decide +kernel
theorem dX14_sentence_1 : decode cX14_sentence 1 = .ok (.ifCond .lt 28, 3) := by decide +kernel
theorem dX14_sentence_4 : decode cX14_sentence 4 = .ok (.iload_n 1, 1) := by decide +kernel
theorem dX14_sentence_5 : decode cX14_sentence 5 = .ok (.aload_n 0, 1) := by decide +kernel
theorem dX14_sentence_6 : decode cX14_sentence 6 = .ok (.getfield 505, 3) := by decide +kernel
theorem dX14_sentence_9 : decode cX14_sentence 9 = .ok (.if_icmp .ge 20, 3) := by decide +kernel
theorem dX14_sentence_12 : decode cX14_sentence 12 = .ok (.iload_n 2, 1) := by decide +kernel
theorem dX14_sentence_13 : decode cX14_sentence 13 = .ok (.ifCond .lt 16, 3) := by decide +kernel
theorem dX14_sentence_16 : decode cX14_sentence 16 = .ok (.iload_n 2, 1) := by decide +kernel
theorem dX14_sentence_17 : decode cX14_sentence 17 = .ok (.aload_n 0, 1) := by decide +kernel
theorem dX14_sentence_18 : decode cX14_sentence 18 = .ok (.getfield 74, 3) := by decide +kernel
theorem dX14_sentence_21 : decode cX14_sentence 21 = .ok (.iload_n 1, 1) := by decide +kernel
theorem dX14_sentence_22 : decode cX14_sentence 22 = .ok (.aaload, 1) := by decide +kernel
theorem dX14_sentence_23 : decode cX14_sentence 23 = .ok (.getfield 587, 3) := by decide +kernel
theorem dX14_sentence_26 : decode cX14_sentence 26 = .ok (.if_icmp .lt 5, 3) := by decide +kernel
theorem dX14_sentence_29 : decode cX14_sentence 29 = .ok (.iconst (-1), 1) := by decide +kernel
theorem dX14_sentence_30 : decode cX14_sentence 30 = .ok (.ireturn, 1) := by decide +kernel
theorem dX14_sentence_31 : decode cX14_sentence 31 = .ok (.aload_n 0, 1) := by decide +kernel
theorem dX14_sentence_32 : decode cX14_sentence 32 = .ok (.getfield 74, 3) := by decide +kernel
theorem dX14_sentence_35 : decode cX14_sentence 35 = .ok (.iload_n 1, 1) := by decide +kernel
theorem dX14_sentence_36 : decode cX14_sentence 36 = .ok (.aaload, 1) := by decide +kernel
theorem dX14_sentence_37 : decode cX14_sentence 37 = .ok (.astore 4, 2) := by decide +kernel
theorem dX14_sentence_39 : decode cX14_sentence 39 = .ok (.iload_n 3, 1) := by decide +kernel
theorem dX14_sentence_40 : decode cX14_sentence 40 = .ok (.tableswitch 96 0 4 #[36, 44, 52, 67, 88], 36) := by decide +kernel
theorem dX14_sentence_76 : decode cX14_sentence 76 = .ok (.aload 4, 2) := by decide +kernel
theorem dX14_sentence_78 : decode cX14_sentence 78 = .ok (.getfield 596, 3) := by decide +kernel
theorem dX14_sentence_81 : decode cX14_sentence 81 = .ok (.iload_n 2, 1) := by decide +kernel
theorem dX14_sentence_82 : decode cX14_sentence 82 = .ok (.iaload, 1) := by decide +kernel
theorem dX14_sentence_83 : decode cX14_sentence 83 = .ok (.ireturn, 1) := by decide +kernel
theorem dX14_sentence_84 : decode cX14_sentence 84 = .ok (.aload 4, 2) := by decide +kernel
theorem dX14_sentence_86 : decode cX14_sentence 86 = .ok (.getfield 594, 3) := by decide +kernel
theorem dX14_sentence_89 : decode cX14_sentence 89 = .ok (.iload_n 2, 1) := by decide +kernel
theorem dX14_sentence_90 : decode cX14_sentence 90 = .ok (.iaload, 1) := by decide +kernel
theorem dX14_sentence_91 : decode cX14_sentence 91 = .ok (.ireturn, 1) := by decide +kernel
theorem dX14_sentence_92 : decode cX14_sentence 92 = .ok (.iload_n 2, 1) := by decide +kernel
theorem dX14_sentence_93 : decode cX14_sentence 93 = .ok (.aload 4, 2) := by decide +kernel
theorem dX14_sentence_95 : decode cX14_sentence 95 = .ok (.getfield 531, 3) := by decide +kernel
theorem dX14_sentence_98 : decode cX14_sentence 98 = .ok (.if_icmp .ge 7, 3) := by decide +kernel
theorem dX14_sentence_101 : decode cX14_sentence 101 = .ok (.iconst 1, 1) := by decide +kernel
theorem dX14_sentence_102 : decode cX14_sentence 102 = .ok (.goto 4, 3) := by decide +kernel
theorem dX14_sentence_105 : decode cX14_sentence 105 = .ok (.iconst 0, 1) := by decide +kernel
theorem dX14_sentence_106 : decode cX14_sentence 106 = .ok (.ireturn, 1) := by decide +kernel
theorem dX14_sentence_107 : decode cX14_sentence 107 = .ok (.iload_n 2, 1) := by decide +kernel
theorem dX14_sentence_108 : decode cX14_sentence 108 = .ok (.aload 4, 2) := by decide +kernel
theorem dX14_sentence_110 : decode cX14_sentence 110 = .ok (.getfield 531, 3) := by decide +kernel
theorem dX14_sentence_113 : decode cX14_sentence 113 = .ok (.if_icmp .ge 13, 3) := by decide +kernel
theorem dX14_sentence_116 : decode cX14_sentence 116 = .ok (.aload 4, 2) := by decide +kernel
theorem dX14_sentence_118 : decode cX14_sentence 118 = .ok (.getfield 751, 3) := by decide +kernel
theorem dX14_sentence_121 : decode cX14_sentence 121 = .ok (.iload_n 2, 1) := by decide +kernel
theorem dX14_sentence_122 : decode cX14_sentence 122 = .ok (.iaload, 1) := by decide +kernel
theorem dX14_sentence_123 : decode cX14_sentence 123 = .ok (.goto 4, 3) := by decide +kernel
theorem dX14_sentence_126 : decode cX14_sentence 126 = .ok (.iconst (-1), 1) := by decide +kernel
theorem dX14_sentence_127 : decode cX14_sentence 127 = .ok (.ireturn, 1) := by decide +kernel
theorem dX14_sentence_128 : decode cX14_sentence 128 = .ok (.aload_n 0, 1) := by decide +kernel
theorem dX14_sentence_129 : decode cX14_sentence 129 = .ok (.aload 4, 2) := by decide +kernel
theorem dX14_sentence_131 : decode cX14_sentence 131 = .ok (.iload_n 2, 1) := by decide +kernel
theorem dX14_sentence_132 : decode cX14_sentence 132 = .ok (.invokevirtual 789, 3) := by decide +kernel
theorem dX14_sentence_135 : decode cX14_sentence 135 = .ok (.ireturn, 1) := by decide +kernel
theorem dX14_sentence_136 : decode cX14_sentence 136 = .ok (.iconst (-1), 1) := by decide +kernel
theorem dX14_sentence_137 : decode cX14_sentence 137 = .ok (.ireturn, 1) := by decide +kernel
def EX14_partD : List (Nat × Nat) := [(14, 5), (190, 0), (191, 0), (192, 0)]
def EX14_nextDocumentK : List (Nat × Nat) := []
def EX14_sentence : List (Nat × Nat) := [(15, 5), (15, 7), (15, 10), (15, 11), (15, 15), (15, 18), (15, 21), (15, 30), (15, 31), (155, 0), (156, 0), (157, 0), (166, 0), (167, 0)]
set_option maxHeartbeats 4000000 in
set_option maxRecDepth 20000 in
theorem uX14_partD (l : Launch) (dC : Nat → ClassId) (dI : Nat → Nat → Nat) (ca : Nat → ClassId) (base : Nat) (B : jF) (hB : jBok B) (hAp : jAp (dC, dI)) (hB14 : ∀ n G a H, B 14 n G a H ↔ jOb (dC, dI) 14 11 (F14 n G) a H) (hB101 : ∀ n G a H, B 101 n G a H ↔ jAr (dC, dI) (ca 1) (fun j z => True) n a H) (hB190 : ∀ n G a H, B 190 n G a H ↔ jAr (dC, dI) (ca 1) (fun j z => 0 ≤ z.toInt ∧ z.toInt ≤ 1500) n a H) (hB191 : ∀ n G a H, B 191 n G a H ↔ jAr (dC, dI) (ca 1) (fun j z => 0 ≤ z.toInt ∧ z.toInt ≤ 1500) n a H) (hB192 : ∀ n G a H, B 192 n G a H ↔ jAr (dC, dI) (ca 1) (fun j z => 0 ≤ z.toInt ∧ z.toInt ≤ 2) n a H) (G0 : jT) (H0 : Heap) (r0 : Nat) (yt : Nat) (pz : Int32) (yb : Nat) (ye : Nat) (sn : Nat → Int32) (ft : Nat → Int32) (fb : Nat → Int32) (fe : Nat → Int32) : Met l yX14_part (jw yX14_part cX14_part 6 none) ({ frames := 3, cells := 0, slots := 0, locals := 69 }) (va_Pc [.ref r0] (fun U => U.heap = H0 ∧ jX B base G0 [] H0 ∧ jG dC dI ca base U ∧ G0 r0 = some (14, 0) ∧ G0 yt = some (101, 1500) ∧ G0 yb = some (190, 40) ∧ G0 ye = some (191, 40) ∧ jP (dC, dI) G0 H0 [(r0, 14, 3, .ref yt), (r0, 14, 4, .int pz), (r0, 14, 6, .ref yb), (r0, 14, 7, .ref ye)] ∧ jMc (dC, dI) G0 H0 [(yt, 101, 1500, ca 1, ft), (yb, 190, 40, ca 1, fb), (ye, 191, 40, ca 1, fe)] ∧ jIs (dC, dI) G0 H0 [(jFs, jDY dC dI ca G0 (some r0) sn)] ∧ 0 ≤ pz.toInt ∧ pz.toInt ≤ 1500)) (va_Qv (S := Int32 × (Nat → Int32) × (Nat → Int32)) (fun u => u.1.toInt = jPar ft pz.toInt ∧ 0 ≤ u.1.toInt ∧ u.1.toInt ≤ 40 ∧ jSrt u.2.1 u.2.2 u.1.toInt pz.toInt) (fun u t => (jRt (dC, dI) B base G0 EX14_partD H0 [(r0, 14, 5, .int u.1)] t.heap ∧ jMc (dC, dI) G0 t.heap [(yb, 190, 40, ca 1, u.2.1), (ye, 191, 40, ca 1, u.2.2)]) ∧ jIs (dC, dI) G0 t.heap [(jFs, jDY dC dI ca G0 (some r0) sn)]) (jA base)) 0 0 (jA base) := by
  refine Met.ofW (cc := cX14_part) (maxL := 6) (ret := none) (by decide) rfl ?_
  intro p e s m args below meth c s₁ Bd hml hv
  obtain ⟨rfl, hH0, hX, hG, hg_r0, hg_yt, hg_yb, hg_ye, hP0, hM0, hI0, hp0, hp1⟩ := hv
  have hK := hG.1
  have hx := Bd.exec
  have hb := Bd.bytes
  have hr := Bd.returns
  have hts := atoms_spec (ws := (jw yX14_part cX14_part 6 none)) Bd.pre
  have htw : ∀ w ∈ jWl, w.before _ s = true := fun w h => hts w (List.mem_cons_of_mem _ h)
  have hown : s.vm.findClass RX14 = some m.cls := findClass_of_methodNamed Bd.named
  have hlocks := Bd.notSynchronized
  obtain ⟨Q, hQ⟩ : ∃ Q, Q = MQ below (va_Qv (S := Int32 × (Nat → Int32) × (Nat → Int32)) (fun u => u.1.toInt = jPar ft pz.toInt ∧ 0 ≤ u.1.toInt ∧ u.1.toInt ≤ 40 ∧ jSrt u.2.1 u.2.2 u.1.toInt pz.toInt) (fun u t => (jRt (dC, dI) B base G0 EX14_partD H0 [(r0, 14, 5, .int u.1)] t.heap ∧ jMc (dC, dI) G0 t.heap [(yb, 190, 40, ca 1, u.2.1), (ye, 191, 40, ca 1, u.2.2)]) ∧ jIs (dC, dI) G0 t.heap [(jFs, jDY dC dI ca G0 (some r0) sn)]) (jA base)) ([.ref r0] : List Value).toArray s 0 0 (jA base) := ⟨_, rfl⟩
  rw [← hQ]
  have hl := lv_entry ([.ref r0]) (n := 6) (Nat.le_of_ble_eq_true rfl)
  rw [lg_entry_eq]
  generalize (lg_sl ([.ref r0]) ++ List.replicate (6 - (lg_sl ([.ref r0])).length) Slot.unset).toArray = ls at hl ⊢
  have hl : lv_has ls 6 [(0, .ref r0)] := hl
  generalize hR : (headSpec (jw yX14_part cX14_part 6 none) ({ frames := 3, cells := 0, slots := 0, locals := 69 })).room = R
  subst hH0
  have hh : jSt (dC, dI) B base G0 G0 EX14_partD s.heap 0 0 [(r0, 14, 3, .ref yt), (r0, 14, 4, .int pz), (r0, 14, 6, .ref yb), (r0, 14, 7, .ref ye)] [(yt, 101, 1500, ca 1, ft), (yb, 190, 40, ca 1, fb), (ye, 191, 40, ca 1, fe)] [(jFs, jDY dC dI ca G0 (some r0) sn)] s.heap [] := jSt.start hX hP0 hM0 hI0
  clear hX hP0
  have hk0 : (0 : Int32).toInt = 0 := by decide
  have hk1 : (1 : Int32).toInt = 1 := by decide
  have hk2 : (2 : Int32).toInt = 2 := by decide
  have hk39 : (39 : Int32).toInt = 39 := by decide
  have hly_14_3 := htw (u_lay RX12 TX12 3) (jWc_wsX120 _ (u_in_lay (by decide)))
  have hly_14_4 := htw (u_lay RX12 TX12 4) (jWc_wsX120 _ (u_in_lay (by decide)))
  have hly_14_5 := htw (u_lay RX12 TX12 5) (jWc_wsX120 _ (u_in_lay (by decide)))
  have hly_14_6 := htw (u_lay RX12 TX12 6) (jWc_wsX120 _ (u_in_lay (by decide)))
  have hly_14_7 := htw (u_lay RX12 TX12 7) (jWc_wsX120 _ (u_in_lay (by decide)))
  have hly_14_8 := htw (u_lay RX12 TX12 8) (jWc_wsX120 _ (u_in_lay (by decide)))
  have hlk_529 := (va_Nw.use (A := ([.ref r0] : List Value).toArray) rfl (hG.2.1 RX14 529 "ProofServerModel$Document" "text" "[I" "ProofServerModel" (List.mem_of_getElem? (i := 1735) (by decide +kernel))))
  have hlk_526 := (va_Nw.use (A := ([.ref r0] : List Value).toArray) rfl (hG.2.1 RX14 526 "ProofServerModel$Document" "units" "I" "ProofServerModel" (List.mem_of_getElem? (i := 1736) (by decide +kernel))))
  have hlk_587 := (va_Nw.use (A := ([.ref r0] : List Value).toArray) rfl (hG.2.1 RX14 587 "ProofServerModel$Document" "sentences" "I" "ProofServerModel" (List.mem_of_getElem? (i := 1737) (by decide +kernel))))
  have hlk_596 := (va_Nw.use (A := ([.ref r0] : List Value).toArray) rfl (hG.2.1 RX14 596 "ProofServerModel$Document" "begin" "[I" "ProofServerModel" (List.mem_of_getElem? (i := 1739) (by decide +kernel))))
  have hlk_599 := (va_Nw.use (A := ([.ref r0] : List Value).toArray) rfl (hG.2.1 RX14 599 "ProofServerModel$Document" "flaw" "[I" "ProofServerModel" (List.mem_of_getElem? (i := 1743) (by decide +kernel))))
  have hlk_594 := (va_Nw.use (A := ([.ref r0] : List Value).toArray) rfl (hG.2.1 RX14 594 "ProofServerModel$Document" "end" "[I" "ProofServerModel" (List.mem_of_getElem? (i := 1741) (by decide +kernel))))
  refine lv_aload_n hx hb dX14_part_0 rfl (lv_at hl 0 rfl) ?_
  refine j7_readN hx hb hown hK (C := RX12) (T := TX12) (N := 11) rfl hly_14_3 hlk_529 (hh.at 0 rfl) dX14_part_1 ?_
  refine lv_astore_n (lv' := [(1, .ref yt), (0, .ref r0)]) hx hb dX14_part_4 rfl hl (by decide) rfl (fun ls hl => ?_)
  refine lv_aload_n hx hb dX14_part_5 rfl (lv_at hl 1 rfl) ?_
  refine j7_readN hx hb hown hK (C := RX12) (T := TX12) (N := 11) rfl hly_14_4 hlk_526 (hh.at 1 rfl) dX14_part_6 ?_
  refine lv_istore_n (lv' := [(2, .int pz), (1, .ref yt), (0, .ref r0)]) hx hb dX14_part_9 rfl hl (by decide) rfl (fun ls hl => ?_)
  refine lv_aload_n hx hb dX14_part_10 rfl (lv_at hl 2 rfl) ?_
  refine lv_iconst (v := 0) hx hb dX14_part_11 (by decide) ?_
  have hd_2 := hh.iv 0 rfl
  have hh_3 := hh.sub (L1 := [(r0, 14, 3, .ref yt), (r0, 14, 4, .int pz), (r0, 14, 6, .ref yb), (r0, 14, 7, .ref ye)]) [0, 1, 2, 3] rfl (M1 := [(yt, 101, 1500, ca 1, ft), (yb, 190, 40, ca 1, fb), (ye, 191, 40, ca 1, fe)]) [0, 1, 2] rfl (I1 := []) [] rfl
  clear hh
  refine j7_putNX hx hb hown hK hh_3 hB hAp hB14 (C := RX12) (T := TX12) (N := 11) rfl (by decide) hg_r0 (i := 5) (by decide) hly_14_5 rfl hlk_587 rfl (ty := .int) (v := .int 0) (by decide +kernel) rfl rfl (⟨_, rfl, by omega, by omega⟩) rfl (L1 := [(r0, 14, 3, .ref yt), (r0, 14, 4, .int pz), (r0, 14, 6, .ref yb), (r0, 14, 7, .ref ye)]) [0, 1, 2, 3] rfl rfl rfl dX14_part_12 (fun H_1 locs_1 hr_1 hf_1 hh_1 => ?_)
  clear hh_3
  have hd_2n := jDY.fld hd_2 hg_r0 hr_1 hf_1
  have hh_4 := hh_1.addI (jDY.ie hd_2n)
  clear hh_1
  clear hd_2 hd_2n hr_1 hf_1
  refine lv_aload_n hx hb dX14_part_15 rfl (lv_at hl 1 rfl) ?_
  refine lv_iconst (v := 0) hx hb dX14_part_16 (by decide) ?_
  refine lv_iload_n hx hb dX14_part_17 rfl (lv_at hl 0 rfl) ?_
  refine va_calli (A0 := jA base) (H0 := s.heap) (va_runS (As := [.ref yt, .int 0, .int pz]) (rest := []) ⟨hx, hb, hml, hown, hts⟩ (uX14_behindGapsK l dC dI ca base B hB hAp hB101 G0 H_1 yt 0 pz 1500 ft) (va_cwS 3 hts (jgS (jWr_57 _ (List.mem_of_getElem? (i := 13) rfl)) (jWr_57 _ (List.mem_of_getElem? (i := 14) rfl)) (jWr_1 _ (List.mem_of_getElem? (i := 5) rfl)) (jWr_57 _ (List.mem_of_getElem? (i := 15) rfl))) rfl rfl rfl (by decide +kernel) ⟨by rw [← hR]; exact Nat.le_of_ble_eq_true rfl, by rw [← hR]; exact Nat.le_of_ble_eq_true rfl⟩) ⟨fun a U g mk q => by obtain ⟨q0, q1, q2, qK, q10, q11, q12, q13⟩ := q; exact ⟨q0, q1, q2, jG.calling g mk a qK, q10, q11, q12, q13⟩, fun U hU hW => ⟨rfl, hU, hh_4.2.1, hG.step hW hU hh_4.1, hg_yt, jP.nil, (hh_4.2.2.2.2.2.2.2.1.sub (L1 := [(yt, 101, 1500, ca 1, ft)]) [0] rfl), by first | omega | (refine ⟨?_, ?_, ?_, ?_⟩ <;> (first | omega | rfl | assumption | decide | exact Or.inl rfl | exact Or.inr rfl | (simp only; omega)))⟩⟩ rfl rfl hl.1 rfl (lv_room (Nat.le_of_ble_eq_true rfl)) dX14_part_18 ⟨Nat.zero_le _, Nat.zero_le _⟩) hh_4.1 (fun q _ h => h) (fun q h => h) (fun r_6 u_5 t_5 H_5 locs_5 ht_5 hvm_5 hr_6 hb_5 hz_5 hk_5 hS_5 => ?_)
  rw [ht_5] at hb_5
  obtain ⟨hb_51, hb_52, hb_53, hb_54, hb_55⟩ := hb_5
  have hh_5 : jSt (dC, dI) B base G0 G0 EX14_partD s.heap 0 0 [(r0, 14, 5, .int 0), (r0, 14, 3, .ref yt), (r0, 14, 4, .int pz), (r0, 14, 6, .ref yb), (r0, 14, 7, .ref ye)] [(yt, 101, 1500, ca 1, ft), (yb, 190, 40, ca 1, fb), (ye, 191, 40, ca 1, fe)] [(jFs, jDY dC dI ca G0 (some r0) sn)] H_5 locs_5 := ((hh_4.call hb_51 hb_52 hb_53 hb_54 hS_5 rfl (L1 := [(r0, 14, 5, .int 0), (r0, 14, 3, .ref yt), (r0, 14, 4, .int pz), (r0, 14, 6, .ref yb), (r0, 14, 7, .ref ye)]) [0, 1, 2, 3, 4] rfl rfl (M1 := [(yt, 101, 1500, ca 1, ft), (yb, 190, 40, ca 1, fb), (ye, 191, 40, ca 1, fe)]) [0, 1, 2] rfl rfl (I1 := [(jFs, jDY dC dI ca G0 (some r0) sn)]) [0] rfl rfl).more hb_55)
  clear hh_4 ht_5 hvm_5 hz_5 hk_5 hS_5 hb_51 hb_52 hb_53 hb_54 hb_55
  obtain ⟨hr_6_0, hr_6_1, hr_6_2⟩ := hr_6
  rw [hk0] at hr_6_0
  refine lv_istore_n (lv' := [(3, .int r_6), (2, .int pz), (1, .ref yt), (0, .ref r0)]) hx hb dX14_part_21 rfl hl (by decide) rfl (fun ls hl => ?_)
  have L22 : ∀ (N : Nat) (v3_7 : Int32) (wz_7 : Int32) (fb_7 : Nat → Int32) (fe_7 : Nat → Int32) (kf : Nat) (H_7 : Heap) (locs_7 : List Loc), jSt (dC, dI) B base G0 G0 EX14_partD s.heap 0 0 [(r0, 14, 5, .int wz_7), (r0, 14, 3, .ref yt), (r0, 14, 4, .int pz), (r0, 14, 6, .ref yb), (r0, 14, 7, .ref ye)] [(ye, 191, 40, ca 1, fe_7), (yb, 190, 40, ca 1, fb_7), (yt, 101, 1500, ca 1, ft)] [(jFs, jDY dC dI ca G0 (some r0) sn)] H_7 locs_7 → (0 ≤ v3_7.toInt ∧ v3_7.toInt ≤ pz.toInt ∧ 0 ≤ wz_7.toInt ∧ wz_7.toInt ≤ 40 ∧ (v3_7.toInt = pz.toInt ∨ wz_7.toInt ≤ 39) ∧ pz.toInt - v3_7.toInt + 1 < kf ∧ jPn ft pz.toInt kf v3_7.toInt wz_7.toInt = jPar ft pz.toInt ∧ jSrt fb_7 fe_7 wz_7.toInt v3_7.toInt) → (pz.toInt - v3_7.toInt : Int) < N → ∀ ls : Array Slot, lv_has ls 6 [(0, .ref r0), (1, .ref yt), (2, .int pz), (3, .int v3_7)] → W p l e R s m ([.ref r0] : List Value).toArray below meth c H_7 locs_7 0 0 Q (F0 m 22 ls []) := by
    intro N
    induction N with
    | zero => intro v3_7 wz_7 fb_7 fe_7 kf H_7 locs_7 hh_7  hi_7 hm; exact absurd hm (by omega)
    | succ N L22 =>
      intro v3_7 wz_7 fb_7 fe_7 kf H_7 locs_7 hh_7  hi_7 hm_7 ls hl
      obtain ⟨hi_7_0, hi_7_1, hi_7_2, hi_7_3, hi_7_4, hi_7_5, hi_7_6, hi_7_7⟩ := hi_7
      refine lv_iload_n hx hb dX14_part_22 rfl (lv_at hl 3 rfl) ?_
      refine lv_iload_n hx hb dX14_part_23 rfl (lv_at hl 2 rfl) ?_
      refine lv_icmp_ge (tgt := 140) hx hb dX14_part_24 (by decide) (fun c_8 => ?_) (fun c_8 => ?_)
      · skip
        have c_8' : v3_7.toInt ≥ pz.toInt := jb_ge (rfl) (rfl) c_8
        rw [hQ]
        exact W.vret hx hb hr (fun t ht hW => ⟨⟨(wz_7, fb_7, fe_7), rfl, by (try dsimp only); refine ⟨?_, by omega, by omega, ?_⟩; exact (jPn_o (by omega) (by omega) rfl).trans hi_7_6; (have h9 := hi_7_7; exact h9.up (by omega)), ⟨⟨hh_7.rt (M1 := [(r0, 14, 5, .int wz_7)]) [0] rfl ht, by rw [ht]; exact hh_7.2.2.2.2.2.2.2.1.sub [1, 0] rfl⟩, by rw [ht]; exact hh_7.2.2.2.2.2.2.2.2.sub (L1 := [(jFs, jDY dC dI ca G0 (some r0) sn)]) [0] rfl⟩⟩, by rw [ht]; try exact hh_7.1.1, fun q h9 hq => by rw [ht]; try exact hh_7.1.2.1 q h9 hq⟩) hh_7.1.2.2 dX14_part_140
      · skip
        have c_8' : v3_7.toInt < pz.toInt := jb_ge_n (rfl) (rfl) c_8
        refine lv_aload_n hx hb dX14_part_27 rfl (lv_at hl 0 rfl) ?_
        refine j7_readN hx hb hown hK (C := RX12) (T := TX12) (N := 11) rfl hly_14_5 hlk_587 (hh_7.at 0 rfl) dX14_part_28 ?_
        refine lv_istore (lv' := [(4, .int wz_7), (0, .ref r0), (1, .ref yt), (2, .int pz), (3, .int v3_7)]) hx hb dX14_part_31 hl (by decide) rfl (fun ls hl => ?_)
        refine lv_aload_n hx hb dX14_part_33 rfl (lv_at hl 1 rfl) ?_
        refine lv_dup hx hb dX14_part_34 rfl ?_
        refine j7_readN hx hb hown hK (C := RX12) (T := TX12) (N := 11) rfl hly_14_5 hlk_587 (hh_7.at 0 rfl) dX14_part_35 ?_
        refine lv_iconst (v := 1) hx hb dX14_part_38 (by decide) ?_
        refine lv_iadd hx hb dX14_part_39 ?_
        refine lv_topi (fun z_9 ez_9 => ?_)
        have hz_9 : z_9.toInt = wz_7.toInt + 1 := by rw [ez_9]; exact jb_iadd2 (rfl) ((by decide)) (by omega)
        have hd_11 := hh_7.iv 0 rfl
        have hh_12 := hh_7.sub (L1 := [(r0, 14, 5, .int wz_7), (r0, 14, 3, .ref yt), (r0, 14, 4, .int pz), (r0, 14, 6, .ref yb), (r0, 14, 7, .ref ye)]) [0, 1, 2, 3, 4] rfl (M1 := [(ye, 191, 40, ca 1, fe_7), (yb, 190, 40, ca 1, fb_7), (yt, 101, 1500, ca 1, ft)]) [0, 1, 2] rfl (I1 := []) [] rfl
        clear hh_7
        refine j7_putNX hx hb hown hK hh_12 hB hAp hB14 (C := RX12) (T := TX12) (N := 11) rfl (by decide) hg_r0 (i := 5) (by decide) hly_14_5 rfl hlk_587 rfl (ty := .int) (v := .int z_9) (by decide +kernel) rfl rfl (⟨_, rfl, by omega, by omega⟩) rfl (L1 := [(r0, 14, 3, .ref yt), (r0, 14, 4, .int pz), (r0, 14, 6, .ref yb), (r0, 14, 7, .ref ye)]) [1, 2, 3, 4] rfl rfl rfl dX14_part_40 (fun H_10 locs_10 hr_10 hf_10 hh_10 => ?_)
        clear hh_12
        have hd_11n := jDY.fld hd_11 hg_r0 hr_10 hf_10
        have hh_13 := hh_10.addI (jDY.ie hd_11n)
        clear hh_10
        clear hd_11 hd_11n hr_10 hf_10
        refine lv_aload_n hx hb dX14_part_43 rfl (lv_at hl 1 rfl) ?_
        refine j7_readN hx hb hown hK (C := RX12) (T := TX12) (N := 11) rfl hly_14_6 hlk_596 (hh_13.at 3 rfl) dX14_part_44 ?_
        refine lv_iload hx hb dX14_part_47 (lv_at hl 0 rfl) ?_
        refine lv_iload_n hx hb dX14_part_49 rfl (lv_at hl 4 rfl) ?_
        have hd_15 := hh_13.iv 0 rfl
        have hh_16 := hh_13.sub (L1 := [(r0, 14, 5, .int z_9), (r0, 14, 3, .ref yt), (r0, 14, 4, .int pz), (r0, 14, 6, .ref yb), (r0, 14, 7, .ref ye)]) [0, 1, 2, 3, 4] rfl (M1 := [(ye, 191, 40, ca 1, fe_7), (yb, 190, 40, ca 1, fb_7), (yt, 101, 1500, ca 1, ft)]) [0, 1, 2] rfl (I1 := []) [] rfl
        clear hh_13
        have hd_15f := hh_16.at 3 rfl
        refine j7_iastX hx hb hK hh_16 hB hB190 1 rfl (by decide) (by decide) rfl 1 rfl (M1 := [(ye, 191, 40, ca 1, fe_7), (yt, 101, 1500, ca 1, ft)]) [0, 2] rfl rfl rfl hg_yb (x := wz_7.toInt) (rfl) (by omega) (by first | omega | (refine ⟨?_, ?_⟩ <;> (first | omega | rfl | assumption | decide | exact Or.inl rfl | exact Or.inr rfl | (simp only; omega)))) dX14_part_50 (fun H_14 locs_14 fs_17 hv_14 ho_14 hr_14 hh_14 => ?_)
        have hv_14 : jSo fs_17 (wz_7.toInt) = v3_7.toInt := by unfold jSo; rw [hv_14]; try exact rfl
        clear hh_16
        have hd_15n := jDY.arr hd_15 hg_r0 hg_yb (Or.inl ⟨rfl, hd_15f⟩) hr_14
        have hh_18 := hh_14.addI (jDY.ie hd_15n)
        clear hh_14
        clear hd_15 hd_15f hd_15n hr_14
        refine lv_aload_n hx hb dX14_part_51 rfl (lv_at hl 2 rfl) ?_
        refine lv_iload_n hx hb dX14_part_52 rfl (lv_at hl 4 rfl) ?_
        refine lv_iload_n hx hb dX14_part_53 rfl (lv_at hl 3 rfl) ?_
        refine va_calli (A0 := jA base) (H0 := s.heap) (va_runS (As := [.ref yt, .int v3_7, .int pz]) (rest := []) ⟨hx, hb, hml, hown, hts⟩ (uX14_sentenceEndK l dC dI ca base B hB hAp hB101 G0 H_14 yt v3_7 pz 1500 ft) (va_cwS 3 hts (jgS (jWr_58 _ (List.mem_of_getElem? (i := 4) rfl)) (jWr_58 _ (List.mem_of_getElem? (i := 5) rfl)) (jWr_1 _ (List.mem_of_getElem? (i := 5) rfl)) (jWr_58 _ (List.mem_of_getElem? (i := 6) rfl))) rfl rfl rfl (by decide +kernel) ⟨by rw [← hR]; exact Nat.le_of_ble_eq_true rfl, by rw [← hR]; exact Nat.le_of_ble_eq_true rfl⟩) ⟨fun a U g mk q => by obtain ⟨q0, q1, q2, qK, q10, q11, q12, q13⟩ := q; exact ⟨q0, q1, q2, jG.calling g mk a qK, q10, q11, q12, q13⟩, fun U hU hW => ⟨rfl, hU, hh_18.2.1, hG.step hW hU hh_18.1, hg_yt, jP.nil, (hh_18.2.2.2.2.2.2.2.1.sub (L1 := [(yt, 101, 1500, ca 1, ft)]) [2] rfl), by first | omega | (refine ⟨?_, ?_, ?_, ?_⟩ <;> (first | omega | rfl | assumption | decide | exact Or.inl rfl | exact Or.inr rfl | (simp only; omega)))⟩⟩ rfl rfl hl.1 rfl (lv_room (Nat.le_of_ble_eq_true rfl)) dX14_part_54 ⟨Nat.zero_le _, Nat.zero_le _⟩) hh_18.1 (fun q _ h => h) (fun q h => h) (fun r_20 u_19 t_19 H_19 locs_19 ht_19 hvm_19 hr_20 hb_19 hz_19 hk_19 hS_19 => ?_)
        rw [ht_19] at hb_19
        obtain ⟨hb_191, hb_192, hb_193, hb_194, hb_195⟩ := hb_19
        have hh_19 : jSt (dC, dI) B base G0 G0 EX14_partD s.heap 0 0 [(r0, 14, 5, .int z_9), (r0, 14, 3, .ref yt), (r0, 14, 4, .int pz), (r0, 14, 6, .ref yb), (r0, 14, 7, .ref ye)] [(yb, 190, 40, ca 1, fs_17), (ye, 191, 40, ca 1, fe_7), (yt, 101, 1500, ca 1, ft)] [(jFs, jDY dC dI ca G0 (some r0) sn)] H_19 locs_19 := ((hh_18.call hb_191 hb_192 hb_193 hb_194 hS_19 rfl (L1 := [(r0, 14, 5, .int z_9), (r0, 14, 3, .ref yt), (r0, 14, 4, .int pz), (r0, 14, 6, .ref yb), (r0, 14, 7, .ref ye)]) [0, 1, 2, 3, 4] rfl rfl (M1 := [(yb, 190, 40, ca 1, fs_17), (ye, 191, 40, ca 1, fe_7), (yt, 101, 1500, ca 1, ft)]) [0, 1, 2] rfl rfl (I1 := [(jFs, jDY dC dI ca G0 (some r0) sn)]) [0] rfl rfl).more hb_195)
        clear hh_18 ht_19 hvm_19 hz_19 hk_19 hS_19 hb_191 hb_192 hb_193 hb_194 hb_195
        obtain ⟨hr_20_0, hr_20_1, hr_20_2, hr_20_3⟩ := hr_20
        refine lv_istore (lv' := [(5, .int r_20), (4, .int wz_7), (0, .ref r0), (1, .ref yt), (2, .int pz), (3, .int v3_7)]) hx hb dX14_part_57 hl (by decide) rfl (fun ls hl => ?_)
        refine lv_aload_n hx hb dX14_part_59 rfl (lv_at hl 2 rfl) ?_
        obtain ⟨v_21, hv_21, hh_22⟩ := hh_19.pin (C := RX12) (T := TX12) (N := 11) hB14 rfl (by decide) hg_r0 (i := 8) (by decide) rfl
        clear hh_19
        obtain ⟨flaw_23, rfl, hg_flaw_23⟩ := hv_21
        refine j7_readN hx hb hown hK (C := RX12) (T := TX12) (N := 11) rfl hly_14_8 hlk_599 (hh_22.at 0 rfl) dX14_part_60 ?_
        refine lv_iload hx hb dX14_part_63 (lv_at hl 1 rfl) ?_
        refine lv_iload hx hb dX14_part_65 (lv_at hl 0 rfl) ?_
        have C75 : ∀ (w0_24 : Int32) (H_24 : Heap) (locs_24 : List Loc), jSt (dC, dI) B base G0 G0 EX14_partD s.heap 0 0 [(r0, 14, 8, .ref flaw_23), (r0, 14, 5, .int z_9), (r0, 14, 3, .ref yt), (r0, 14, 4, .int pz), (r0, 14, 6, .ref yb), (r0, 14, 7, .ref ye)] [(yb, 190, 40, ca 1, fs_17), (ye, 191, 40, ca 1, fe_7), (yt, 101, 1500, ca 1, ft)] [(jFs, jDY dC dI ca G0 (some r0) sn)] H_24 locs_24 → (w0_24 = 0 ∨ w0_24 = 1) → (0 ≤ w0_24.toInt ∧ w0_24.toInt ≤ 1 ∧ (r_20.toInt = -1 ∨ v3_7.toInt < r_20.toInt)) → ∀ ls : Array Slot, lv_has ls 6 [(0, .ref r0), (1, .ref yt), (2, .int pz), (3, .int v3_7), (4, .int wz_7), (5, .int r_20)] → W p l e R s m ([.ref r0] : List Value).toArray below meth c H_24 locs_24 0 0 Q (F0 m 75 ls [.int w0_24, .int wz_7, .ref flaw_23]) := by
          intro w0_24 H_24 locs_24 hh_24 hb_w0_24 hi_24 ls hl
          obtain ⟨hi_24_0, hi_24_1, hi_24_2⟩ := hi_24
          have hb_w0_24' := jb_01 hb_w0_24
          try clear hr_20_3
          refine j7_iast hx hb hK hh_24 hB hB192 1 rfl (by decide) (by decide) rfl rfl rfl hg_flaw_23 (x := wz_7.toInt) (rfl) (by omega) (by first | omega | (refine ⟨?_, ?_⟩ <;> (first | omega | rfl | assumption | decide | exact Or.inl rfl | exact Or.inr rfl | (simp only; omega)))) dX14_part_75 (fun H_25 locs_25 hh_25 => ?_)
          clear hh_24
          refine lv_aload_n hx hb dX14_part_76 rfl (lv_at hl 0 rfl) ?_
          refine j7_readN hx hb hown hK (C := RX12) (T := TX12) (N := 11) rfl hly_14_7 hlk_594 (hh_25.at 5 rfl) dX14_part_77 ?_
          refine lv_iload hx hb dX14_part_80 (lv_at hl 4 rfl) ?_
          refine lv_iload hx hb dX14_part_82 (lv_at hl 5 rfl) ?_
          have C93 : ∀ (w0_26 : Int32) (H_26 : Heap) (locs_26 : List Loc), jSt (dC, dI) B base G0 G0 EX14_partD s.heap 0 0 [(r0, 14, 8, .ref flaw_23), (r0, 14, 5, .int z_9), (r0, 14, 3, .ref yt), (r0, 14, 4, .int pz), (r0, 14, 6, .ref yb), (r0, 14, 7, .ref ye)] [(yb, 190, 40, ca 1, fs_17), (ye, 191, 40, ca 1, fe_7), (yt, 101, 1500, ca 1, ft)] [(jFs, jDY dC dI ca G0 (some r0) sn)] H_26 locs_26 → (w0_26.toInt = jEn ft pz.toInt v3_7.toInt ∧ v3_7.toInt < w0_26.toInt ∧ w0_26.toInt ≤ pz.toInt) → ∀ ls : Array Slot, lv_has ls 6 [(0, .ref r0), (1, .ref yt), (2, .int pz), (3, .int v3_7), (4, .int wz_7), (5, .int r_20)] → W p l e R s m ([.ref r0] : List Value).toArray below meth c H_26 locs_26 0 0 Q (F0 m 93 ls [.int w0_26, .int wz_7, .ref ye]) := by
            intro w0_26 H_26 locs_26 hh_26  hi_26 ls hl
            obtain ⟨hi_26_0, hi_26_1, hi_26_2⟩ := hi_26
            have hd_28 := hh_26.iv 0 rfl
            have hh_29 := hh_26.sub (L1 := [(r0, 14, 8, .ref flaw_23), (r0, 14, 5, .int z_9), (r0, 14, 3, .ref yt), (r0, 14, 4, .int pz), (r0, 14, 6, .ref yb), (r0, 14, 7, .ref ye)]) [0, 1, 2, 3, 4, 5] rfl (M1 := [(yb, 190, 40, ca 1, fs_17), (ye, 191, 40, ca 1, fe_7), (yt, 101, 1500, ca 1, ft)]) [0, 1, 2] rfl (I1 := []) [] rfl
            clear hh_26
            have hd_28f := hh_29.at 5 rfl
            refine j7_iastX hx hb hK hh_29 hB hB191 1 rfl (by decide) (by decide) rfl 1 rfl (M1 := [(yb, 190, 40, ca 1, fs_17), (yt, 101, 1500, ca 1, ft)]) [0, 2] rfl rfl rfl hg_ye (x := wz_7.toInt) (rfl) (by omega) (by first | omega | (refine ⟨?_, ?_⟩ <;> (first | omega | rfl | assumption | decide | exact Or.inl rfl | exact Or.inr rfl | (simp only; omega)))) dX14_part_93 (fun H_27 locs_27 fs_30 hv_27 ho_27 hr_27 hh_27 => ?_)
            have hv_27 : jSo fs_30 (wz_7.toInt) = w0_26.toInt := by unfold jSo; rw [hv_27]; try exact rfl
            clear hh_29
            have hd_28n := jDY.arr hd_28 hg_r0 hg_ye (Or.inr ⟨rfl, hd_28f⟩) hr_27
            have hh_31 := hh_27.addI (jDY.ie hd_28n)
            clear hh_27
            clear hd_28 hd_28f hd_28n hr_27
            refine lv_aload_n hx hb dX14_part_94 rfl (lv_at hl 1 rfl) ?_
            refine lv_aload_n hx hb dX14_part_95 rfl (lv_at hl 0 rfl) ?_
            refine j7_readN hx hb hown hK (C := RX12) (T := TX12) (N := 11) rfl hly_14_7 hlk_594 (hh_31.at 5 rfl) dX14_part_96 ?_
            refine lv_iload hx hb dX14_part_99 (lv_at hl 4 rfl) ?_
            refine j7_ialdM hx hb hK hh_31 hB191 1 rfl (by decide) hg_ye (x := wz_7.toInt) (rfl) (by omega) (j := 0) rfl dX14_part_101 (fun z_32 ez_32 (hz_32 : 0 ≤ z_32.toInt ∧ z_32.toInt ≤ 1500) => ?_)
            have hqz_32 : z_32.toInt = jSo fs_30 (wz_7.toInt) := by unfold jSo; rw [ez_32]
            refine lv_iload_n hx hb dX14_part_102 rfl (lv_at hl 2 rfl) ?_
            refine va_calli (A0 := jA base) (H0 := s.heap) (va_runS (As := [.ref yt, .int z_32, .int pz]) (rest := []) ⟨hx, hb, hml, hown, hts⟩ (uX14_behindGapsK l dC dI ca base B hB hAp hB101 G0 H_27 yt z_32 pz 1500 ft) (va_cwS 3 hts (jgS (jWr_57 _ (List.mem_of_getElem? (i := 13) rfl)) (jWr_57 _ (List.mem_of_getElem? (i := 14) rfl)) (jWr_1 _ (List.mem_of_getElem? (i := 5) rfl)) (jWr_57 _ (List.mem_of_getElem? (i := 15) rfl))) rfl rfl rfl (by decide +kernel) ⟨by rw [← hR]; exact Nat.le_of_ble_eq_true rfl, by rw [← hR]; exact Nat.le_of_ble_eq_true rfl⟩) ⟨fun a U g mk q => by obtain ⟨q0, q1, q2, qK, q10, q11, q12, q13⟩ := q; exact ⟨q0, q1, q2, jG.calling g mk a qK, q10, q11, q12, q13⟩, fun U hU hW => ⟨rfl, hU, hh_31.2.1, hG.step hW hU hh_31.1, hg_yt, jP.nil, (hh_31.2.2.2.2.2.2.2.1.sub (L1 := [(yt, 101, 1500, ca 1, ft)]) [2] rfl), by first | omega | (refine ⟨?_, ?_, ?_, ?_⟩ <;> (first | omega | rfl | assumption | decide | exact Or.inl rfl | exact Or.inr rfl | (simp only; omega)))⟩⟩ rfl rfl hl.1 rfl (lv_room (Nat.le_of_ble_eq_true rfl)) dX14_part_103 ⟨Nat.zero_le _, Nat.zero_le _⟩) hh_31.1 (fun q _ h => h) (fun q h => h) (fun r_34 u_33 t_33 H_33 locs_33 ht_33 hvm_33 hr_34 hb_33 hz_33 hk_33 hS_33 => ?_)
            rw [ht_33] at hb_33
            obtain ⟨hb_331, hb_332, hb_333, hb_334, hb_335⟩ := hb_33
            have hh_33 : jSt (dC, dI) B base G0 G0 EX14_partD s.heap 0 0 [(r0, 14, 8, .ref flaw_23), (r0, 14, 5, .int z_9), (r0, 14, 3, .ref yt), (r0, 14, 4, .int pz), (r0, 14, 6, .ref yb), (r0, 14, 7, .ref ye)] [(ye, 191, 40, ca 1, fs_30), (yb, 190, 40, ca 1, fs_17), (yt, 101, 1500, ca 1, ft)] [(jFs, jDY dC dI ca G0 (some r0) sn)] H_33 locs_33 := ((hh_31.call hb_331 hb_332 hb_333 hb_334 hS_33 rfl (L1 := [(r0, 14, 8, .ref flaw_23), (r0, 14, 5, .int z_9), (r0, 14, 3, .ref yt), (r0, 14, 4, .int pz), (r0, 14, 6, .ref yb), (r0, 14, 7, .ref ye)]) [0, 1, 2, 3, 4, 5] rfl rfl (M1 := [(ye, 191, 40, ca 1, fs_30), (yb, 190, 40, ca 1, fs_17), (yt, 101, 1500, ca 1, ft)]) [0, 1, 2] rfl rfl (I1 := [(jFs, jDY dC dI ca G0 (some r0) sn)]) [0] rfl rfl).more hb_335)
            clear hh_31 ht_33 hvm_33 hz_33 hk_33 hS_33 hb_331 hb_332 hb_333 hb_334 hb_335
            obtain ⟨hr_34_0, hr_34_1, hr_34_2⟩ := hr_34
            refine lv_istore_n (lv' := [(3, .int r_34), (0, .ref r0), (1, .ref yt), (2, .int pz), (4, .int wz_7), (5, .int r_20)]) hx hb dX14_part_106 rfl hl (by decide) rfl (fun ls hl => ?_)
            refine lv_iload hx hb dX14_part_107 (lv_at hl 4 rfl) ?_
            refine lv_bipush (v := 39) hx hb dX14_part_109 (by decide) ?_
            refine lv_icmp_ne (tgt := 137) hx hb dX14_part_111 (by decide) (fun c_35 => ?_) (fun c_35 => ?_)
            · skip
              have c_35' : wz_7.toInt ≠ 39 := jb_ne (rfl) ((by decide)) c_35
              refine lv_goto (tgt := 22) hx hb dX14_part_137 (by decide) ?_
              exact L22 r_34 z_9 fs_17 fs_30 (kf - 1) _ _ (hh_33.sub (L1 := [(r0, 14, 5, .int z_9), (r0, 14, 3, .ref yt), (r0, 14, 4, .int pz), (r0, 14, 6, .ref yb), (r0, 14, 7, .ref ye)]) [1, 2, 3, 4, 5] rfl (M1 := [(ye, 191, 40, ca 1, fs_30), (yb, 190, 40, ca 1, fs_17), (yt, 101, 1500, ca 1, ft)]) [0, 1, 2] rfl (I1 := [(jFs, jDY dC dI ca G0 (some r0) sn)]) [0] rfl) (by refine ⟨by omega, by omega, by omega, by omega, by omega, by omega, ?_, ?_⟩; (first | exact (jPn_m (by omega) (by omega) (by omega) (by rw [hr_34_0, hqz_32, hv_27, hi_26_0]) (by omega)).trans hi_7_6 | exact (jPn_l (by omega) (by omega) (by omega) (by omega) (by omega) (by omega)).trans hi_7_6); (first | exact hi_7_7.app (jUpd.mk (n := 40) hv_14 ho_14 rfl (by omega)) (jUpd.mk (n := 40) hv_27 ho_27 rfl (by omega)) (by omega) (by omega) (by omega) (by omega) (by omega) (by omega) | exact hi_7_7.app (jUpd.mk (n := 40) hv_14 ho_14 rfl (by omega)) ((jUpd.mk (n := 40) hv_27 ho_27 rfl (by omega)).two (jUpd.mk (n := 40) (zz_none) (zz_none) rfl (by omega))) (by omega) (by omega) (by omega) (by omega) (by omega) (by omega))) (by omega) _ (lv_sub hl [1, 2, 3, 0] rfl)
            · skip
              have c_35' : wz_7.toInt = 39 := jb_ne_n (rfl) ((by decide)) c_35
              refine lv_iload_n hx hb dX14_part_114 rfl (lv_at hl 0 rfl) ?_
              refine lv_iload_n hx hb dX14_part_115 rfl (lv_at hl 3 rfl) ?_
              refine lv_icmp_ge (tgt := 137) hx hb dX14_part_116 (by decide) (fun c_36 => ?_) (fun c_36 => ?_)
              · skip
                have c_36' : r_34.toInt ≥ pz.toInt := jb_ge (rfl) (rfl) c_36
                refine lv_goto (tgt := 22) hx hb dX14_part_137 (by decide) ?_
                exact L22 r_34 z_9 fs_17 fs_30 (kf - 1) _ _ (hh_33.sub (L1 := [(r0, 14, 5, .int z_9), (r0, 14, 3, .ref yt), (r0, 14, 4, .int pz), (r0, 14, 6, .ref yb), (r0, 14, 7, .ref ye)]) [1, 2, 3, 4, 5] rfl (M1 := [(ye, 191, 40, ca 1, fs_30), (yb, 190, 40, ca 1, fs_17), (yt, 101, 1500, ca 1, ft)]) [0, 1, 2] rfl (I1 := [(jFs, jDY dC dI ca G0 (some r0) sn)]) [0] rfl) (by refine ⟨by omega, by omega, by omega, by omega, by omega, by omega, ?_, ?_⟩; (first | exact (jPn_m (by omega) (by omega) (by omega) (by rw [hr_34_0, hqz_32, hv_27, hi_26_0]) (by omega)).trans hi_7_6 | exact (jPn_l (by omega) (by omega) (by omega) (by omega) (by omega) (by omega)).trans hi_7_6); (first | exact hi_7_7.app (jUpd.mk (n := 40) hv_14 ho_14 rfl (by omega)) (jUpd.mk (n := 40) hv_27 ho_27 rfl (by omega)) (by omega) (by omega) (by omega) (by omega) (by omega) (by omega) | exact hi_7_7.app (jUpd.mk (n := 40) hv_14 ho_14 rfl (by omega)) ((jUpd.mk (n := 40) hv_27 ho_27 rfl (by omega)).two (jUpd.mk (n := 40) (zz_none) (zz_none) rfl (by omega))) (by omega) (by omega) (by omega) (by omega) (by omega) (by omega))) (by omega) _ (lv_sub hl [1, 2, 3, 0] rfl)
              · skip
                have c_36' : r_34.toInt < pz.toInt := jb_ge_n (rfl) (rfl) c_36
                refine lv_aload_n hx hb dX14_part_119 rfl (lv_at hl 1 rfl) ?_
                refine j7_readN hx hb hown hK (C := RX12) (T := TX12) (N := 11) rfl hly_14_8 hlk_599 (hh_33.at 0 rfl) dX14_part_120 ?_
                refine lv_iload hx hb dX14_part_123 (lv_at hl 4 rfl) ?_
                refine lv_iconst (v := 2) hx hb dX14_part_125 (by decide) ?_
                refine j7_iast hx hb hK hh_33 hB hB192 1 rfl (by decide) (by decide) rfl rfl rfl hg_flaw_23 (x := wz_7.toInt) (rfl) (by omega) (by first | omega | (refine ⟨?_, ?_⟩ <;> (first | omega | rfl | assumption | decide | exact Or.inl rfl | exact Or.inr rfl | (simp only; omega)))) dX14_part_126 (fun H_37 locs_37 hh_37 => ?_)
                clear hh_33
                refine lv_aload_n hx hb dX14_part_127 rfl (lv_at hl 1 rfl) ?_
                refine j7_readN hx hb hown hK (C := RX12) (T := TX12) (N := 11) rfl hly_14_7 hlk_594 (hh_37.at 5 rfl) dX14_part_128 ?_
                refine lv_iload hx hb dX14_part_131 (lv_at hl 4 rfl) ?_
                refine lv_iload_n hx hb dX14_part_133 rfl (lv_at hl 3 rfl) ?_
                have hd_39 := hh_37.iv 0 rfl
                have hh_40 := hh_37.sub (L1 := [(r0, 14, 8, .ref flaw_23), (r0, 14, 5, .int z_9), (r0, 14, 3, .ref yt), (r0, 14, 4, .int pz), (r0, 14, 6, .ref yb), (r0, 14, 7, .ref ye)]) [0, 1, 2, 3, 4, 5] rfl (M1 := [(ye, 191, 40, ca 1, fs_30), (yb, 190, 40, ca 1, fs_17), (yt, 101, 1500, ca 1, ft)]) [0, 1, 2] rfl (I1 := []) [] rfl
                clear hh_37
                have hd_39f := hh_40.at 5 rfl
                refine j7_iastX hx hb hK hh_40 hB hB191 1 rfl (by decide) (by decide) rfl 0 rfl (M1 := [(yb, 190, 40, ca 1, fs_17), (yt, 101, 1500, ca 1, ft)]) [1, 2] rfl rfl rfl hg_ye (x := wz_7.toInt) (rfl) (by omega) (by first | omega | (refine ⟨?_, ?_⟩ <;> (first | omega | rfl | assumption | decide | exact Or.inl rfl | exact Or.inr rfl | (simp only; omega)))) dX14_part_134 (fun H_38 locs_38 fs_41 hv_38 ho_38 hr_38 hh_38 => ?_)
                have hv_38 : jSo fs_41 (wz_7.toInt) = pz.toInt := by unfold jSo; rw [hv_38]; try exact rfl
                clear hh_40
                have hd_39n := jDY.arr hd_39 hg_r0 hg_ye (Or.inr ⟨rfl, hd_39f⟩) hr_38
                have hh_42 := hh_38.addI (jDY.ie hd_39n)
                clear hh_38
                clear hd_39 hd_39f hd_39n hr_38
                refine lv_iload_n hx hb dX14_part_135 rfl (lv_at hl 3 rfl) ?_
                refine lv_istore_n (lv' := [(3, .int pz), (0, .ref r0), (1, .ref yt), (2, .int pz), (4, .int wz_7), (5, .int r_20)]) hx hb dX14_part_136 rfl hl (by decide) rfl (fun ls hl => ?_)
                refine lv_goto (tgt := 22) hx hb dX14_part_137 (by decide) ?_
                exact L22 pz z_9 fs_17 fs_41 (kf - 1) _ _ (hh_42.sub (L1 := [(r0, 14, 5, .int z_9), (r0, 14, 3, .ref yt), (r0, 14, 4, .int pz), (r0, 14, 6, .ref yb), (r0, 14, 7, .ref ye)]) [1, 2, 3, 4, 5] rfl (M1 := [(ye, 191, 40, ca 1, fs_41), (yb, 190, 40, ca 1, fs_17), (yt, 101, 1500, ca 1, ft)]) [0, 1, 2] rfl (I1 := [(jFs, jDY dC dI ca G0 (some r0) sn)]) [0] rfl) (by refine ⟨by omega, by omega, by omega, by omega, by omega, by omega, ?_, ?_⟩; (first | exact (jPn_m (by omega) (by omega) (by omega) (by rw [hr_34_0, hqz_32, hv_27, hi_26_0]) (by omega)).trans hi_7_6 | exact (jPn_l (by omega) (by omega) (by omega) (by omega) (by omega) (by omega)).trans hi_7_6); (first | exact hi_7_7.app (jUpd.mk (n := 40) hv_14 ho_14 rfl (by omega)) (jUpd.mk (n := 40) hv_27 ho_27 rfl (by omega)) (by omega) (by omega) (by omega) (by omega) (by omega) (by omega) | exact hi_7_7.app (jUpd.mk (n := 40) hv_14 ho_14 rfl (by omega)) ((jUpd.mk (n := 40) hv_27 ho_27 rfl (by omega)).two (jUpd.mk (n := 40) hv_38 ho_38 rfl (by omega))) (by omega) (by omega) (by omega) (by omega) (by omega) (by omega))) (by omega) _ (lv_sub hl [1, 2, 3, 0] rfl)
          refine lv_if_ge (tgt := 91) hx hb dX14_part_84 (by decide) (fun c_43 => ?_) (fun c_43 => ?_)
          · skip
            have c_43' : r_20.toInt ≥ 0 := jb_ge (rfl) ((by decide)) c_43
            refine lv_iload hx hb dX14_part_91 (lv_at hl 5 rfl) ?_
            exact C93 r_20 _ _ hh_25 (⟨(by first | omega | rfl | assumption | (unfold jEn; rw [if_pos (by omega)]) | (unfold jEn; rw [if_neg (by omega)]; omega)), (by first | omega | rfl | assumption | (unfold jEn; rw [if_pos (by omega)]) | (unfold jEn; rw [if_neg (by omega)]; omega)), (by first | omega | rfl | assumption | (unfold jEn; rw [if_pos (by omega)]) | (unfold jEn; rw [if_neg (by omega)]; omega))⟩) _ (lv_sub hl [0, 1, 2, 3, 4, 5] rfl)
          · skip
            have c_43' : r_20.toInt < 0 := jb_ge_n (rfl) ((by decide)) c_43
            refine lv_iload_n hx hb dX14_part_87 rfl (lv_at hl 2 rfl) ?_
            refine lv_goto (tgt := 93) hx hb dX14_part_88 (by decide) ?_
            exact C93 pz _ _ hh_25 (⟨(by first | omega | rfl | assumption | (unfold jEn; rw [if_pos (by omega)]) | (unfold jEn; rw [if_neg (by omega)]; omega)), (by first | omega | rfl | assumption | (unfold jEn; rw [if_pos (by omega)]) | (unfold jEn; rw [if_neg (by omega)]; omega)), (by first | omega | rfl | assumption | (unfold jEn; rw [if_pos (by omega)]) | (unfold jEn; rw [if_neg (by omega)]; omega))⟩) _ (lv_sub hl [0, 1, 2, 3, 4, 5] rfl)
        refine lv_if_ge (tgt := 74) hx hb dX14_part_67 (by decide) (fun c_44 => ?_) (fun c_44 => ?_)
        · skip
          have c_44' : r_20.toInt ≥ 0 := jb_ge (rfl) ((by decide)) c_44
          first | (have hr_20_3q := hr_20_3.resolve_left (by omega); clear hr_20_3) | (have hr_20_3q := hr_20_3.resolve_right (by omega); clear hr_20_3) | skip
          refine lv_iconst (v := 0) hx hb dX14_part_74 (by decide) ?_
          exact C75 0 _ _ hh_22 (Or.inl rfl) (by first | omega | (refine ⟨?_, ?_, ?_⟩ <;> (first | omega | rfl | assumption | decide | exact Or.inl rfl | exact Or.inr rfl | (simp only; omega)))) _ (lv_sub hl [2, 3, 4, 5, 1, 0] rfl)
        · skip
          have c_44' : r_20.toInt < 0 := jb_ge_n (rfl) ((by decide)) c_44
          first | (have hr_20_3q := hr_20_3.resolve_left (by omega); clear hr_20_3) | (have hr_20_3q := hr_20_3.resolve_right (by omega); clear hr_20_3) | skip
          refine lv_iconst (v := 1) hx hb dX14_part_70 (by decide) ?_
          refine lv_goto (tgt := 75) hx hb dX14_part_71 (by decide) ?_
          exact C75 1 _ _ hh_22 (Or.inr rfl) (by first | omega | (refine ⟨?_, ?_, ?_⟩ <;> (first | omega | rfl | assumption | decide | exact Or.inl rfl | exact Or.inr rfl | (simp only; omega)))) _ (lv_sub hl [2, 3, 4, 5, 1, 0] rfl)
  exact L22 (pz.toInt - (r_6 : Int32).toInt : Int).toNat.succ r_6 0 fb fe ((pz.toInt - jGap ft pz.toInt 0).toNat + 2) _ _ (hh_5.sub (L1 := [(r0, 14, 5, .int 0), (r0, 14, 3, .ref yt), (r0, 14, 4, .int pz), (r0, 14, 6, .ref yb), (r0, 14, 7, .ref ye)]) [0, 1, 2, 3, 4] rfl (M1 := [(ye, 191, 40, ca 1, fe), (yb, 190, 40, ca 1, fb), (yt, 101, 1500, ca 1, ft)]) [2, 1, 0] rfl (I1 := [(jFs, jDY dC dI ca G0 (some r0) sn)]) [0] rfl) (by refine ⟨by omega, by omega, by omega, by omega, by omega, by omega, ?_, ?_⟩; (rw [hr_6_0, hk0]; rfl); (rw [hk0]; exact jSrt.nil _ _ _)) (by omega) _ (lv_sub hl [3, 2, 1, 0] rfl)
set_option maxHeartbeats 4000000 in
set_option maxRecDepth 20000 in
theorem uX14_nextDocumentK (l : Launch) (dC : Nat → ClassId) (dI : Nat → Nat → Nat) (ca : Nat → ClassId) (base : Nat) (B : jF) (hB : jBok B) (hAp : jAp (dC, dI)) (hB14 : ∀ n G a H, B 14 n G a H ↔ jOb (dC, dI) 14 11 (F14 n G) a H) (hB16 : ∀ n G a H, B 16 n G a H ↔ jOb (dC, dI) 16 74 (F16 n G) a H) (hB201 : ∀ n G a H, B 201 n G a H ↔ jAq (dC, dI) (ca 4) (jQs 14 0) n G a H) (hB202 : ∀ n G a H, B 202 n G a H ↔ jAq (dC, dI) (ca 4) (jQn 14 0) n G a H) (hB208 : ∀ n G a H, B 208 n G a H ↔ jAq (dC, dI) (ca 4) (jQn 14 0) n G a H) (G0 : jT) (H0 : Heap) (r0 : Nat) (dd : Nat) (dc : Int32) (co : Nat) (cs : Nat) (ol : Nat) (nw : Nat) (td : Nat) (sn ck : Nat → Int32) (fd fo : Nat → Option Nat) (fs : Nat → Int32) : Met l yX14_nextDocument (jw yX14_nextDocument cX14_nextDocument 4 (some (.object "ProofServerModel$Document"))) ({ frames := 1, cells := 0, slots := 0, locals := 22 }) (va_Pc [.ref r0] (fun U => U.heap = H0 ∧ jX B base G0 [] H0 ∧ jG dC dI ca base U ∧ jK2 dC dI ca U ∧ G0 r0 = some (16, 0) ∧ G0 dd = some (201, 3) ∧ G0 co = some (208, 2) ∧ G0 cs = some (207, 2) ∧ G0 ol = some (14, 0) ∧ G0 nw = some (14, 0) ∧ G0 td = some (14, 0) ∧ jP (dC, dI) G0 H0 [(r0, 16, 41, .ref dd), (r0, 16, 42, .int dc), (r0, 16, 60, .ref co), (r0, 16, 61, .ref cs), (r0, 16, 46, .ref ol), (r0, 16, 47, .ref nw), (r0, 16, 71, .ref td)] ∧ jMc (dC, dI) G0 H0 [(cs, 207, 2, ca 1, fs)] ∧ jIs (dC, dI) G0 H0 [(jFs, jDY dC dI ca G0 none sn), (jF9, jVl dC dI G0 9 ck), ([(201, 0)], jQc dC dI (ca 4) dd 3 fd), ([(208, 0)], jQc dC dI (ca 4) co 2 fo)] ∧ jPu sn ck fd fo fs dc.toInt ol nw td)) (jQx (S := Unit) (fun v u => jRp G0 14 0 (fun x => ∃ d : Nat, d < 3 ∧ (d : Int) < dc.toInt ∧ fd d = some x ∧ (ck x).toInt ≠ (sn x).toInt) v) (fun u t => jRt (dC, dI) B base G0 EX14_nextDocumentK H0 [] t.heap) (jA base)) 0 0 (jA base) := by
  refine Met.ofW (cc := cX14_nextDocument) (maxL := 4) (ret := (some (.object "ProofServerModel$Document"))) (by decide) rfl ?_
  intro p e s m args below meth c s₁ Bd hml hv
  obtain ⟨rfl, hH0, hX, hG, hK2, hg_r0, hg_dd, hg_co, hg_cs, hg_ol, hg_nw, hg_td, hP0, hM0, hI0, hp0⟩ := hv
  have hK := hG.1
  have hx := Bd.exec
  have hb := Bd.bytes
  have hr := Bd.returns
  have hts := atoms_spec (ws := (jw yX14_nextDocument cX14_nextDocument 4 (some (.object "ProofServerModel$Document")))) Bd.pre
  have htw : ∀ w ∈ jWl, w.before _ s = true := fun w h => hts w (List.mem_cons_of_mem _ h)
  have hown : s.vm.findClass RX14 = some m.cls := findClass_of_methodNamed Bd.named
  have hlocks := Bd.notSynchronized
  obtain ⟨Q, hQ⟩ : ∃ Q, Q = MQ below (jQx (S := Unit) (fun v u => jRp G0 14 0 (fun x => ∃ d : Nat, d < 3 ∧ (d : Int) < dc.toInt ∧ fd d = some x ∧ (ck x).toInt ≠ (sn x).toInt) v) (fun u t => jRt (dC, dI) B base G0 EX14_nextDocumentK H0 [] t.heap) (jA base)) ([.ref r0] : List Value).toArray s 0 0 (jA base) := ⟨_, rfl⟩
  rw [← hQ]
  have hl := lv_entry ([.ref r0]) (n := 4) (Nat.le_of_ble_eq_true rfl)
  rw [lg_entry_eq]
  generalize (lg_sl ([.ref r0]) ++ List.replicate (4 - (lg_sl ([.ref r0])).length) Slot.unset).toArray = ls at hl ⊢
  have hl : lv_has ls 4 [(0, .ref r0)] := hl
  generalize hR : (headSpec (jw yX14_nextDocument cX14_nextDocument 4 (some (.object "ProofServerModel$Document"))) ({ frames := 1, cells := 0, slots := 0, locals := 22 })).room = R
  subst hH0
  have hh : jSt (dC, dI) B base G0 G0 EX14_nextDocumentK s.heap 0 0 [(r0, 16, 41, .ref dd), (r0, 16, 42, .int dc), (r0, 16, 60, .ref co), (r0, 16, 61, .ref cs), (r0, 16, 46, .ref ol), (r0, 16, 47, .ref nw), (r0, 16, 71, .ref td)] [(cs, 207, 2, ca 1, fs)] [(jFs, jDY dC dI ca G0 none sn), (jF9, jVl dC dI G0 9 ck), ([(201, 0)], jQc dC dI (ca 4) dd 3 fd), ([(208, 0)], jQc dC dI (ca 4) co 2 fo)] s.heap [] := jSt.start hX hP0 hM0 hI0
  clear hX hP0
  have hk0 : (0 : Int32).toInt = 0 := by decide
  have hk1 : (1 : Int32).toInt = 1 := by decide
  have hly_14_5 := htw (u_lay RX12 TX12 5) (jWc_wsX120 _ (u_in_lay (by decide)))
  have hly_14_9 := htw (u_lay RX12 TX12 9) (jWc_wsX120 _ (u_in_lay (by decide)))
  have hly_16_41 := htw (u_lay RX14 TX14 41) (jWc_wsX140 _ (u_in_lay (by decide)))
  have hly_16_42 := htw (u_lay RX14 TX14 42) (jWc_wsX140 _ (u_in_lay (by decide)))
  have hly_16_60 := htw (u_lay RX14 TX14 60) (jWc_wsX140 _ (u_in_lay (by decide)))
  have hlk_505 := (htw (.fieldLink RX14 505 "ProofServerModel" "documentCount" "I") (jWr_57 _ (List.mem_of_getElem? (i := 5) rfl)))
  have hlk_74 := (htw (.fieldLink RX14 74 "ProofServerModel" "documents" "[LProofServerModel$Document;") (jWr_11 _ (List.mem_of_getElem? (i := 19) rfl)))
  have hlk_531 := (va_Nw.use (A := ([.ref r0] : List Value).toArray) rfl (hG.2.1 RX14 531 "ProofServerModel$Document" "checked" "I" "ProofServerModel" (List.mem_of_getElem? (i := 1744) (by decide +kernel))))
  have hlk_587 := (va_Nw.use (A := ([.ref r0] : List Value).toArray) rfl (hG.2.1 RX14 587 "ProofServerModel$Document" "sentences" "I" "ProofServerModel" (List.mem_of_getElem? (i := 1737) (by decide +kernel))))
  have hlk_129 := (htw (.fieldLink RX14 129 "ProofServerModel" "checkOf" "[LProofServerModel$Document;") (jWr_12 _ (List.mem_of_getElem? (i := 15) rfl)))
  obtain ⟨sx_1, esx_1, hsx_1⟩ := hh.sat (C := RX14) (T := TX14) (N := 74) hB16 rfl (by decide) hg_r0 (i := 42) (by decide) rfl 1 rfl
  cases esx_1
  refine lv_null hx hb dX14_nextDocument_0 ?_
  refine j7_nst_n (lv' := [(1, .null), (0, .ref r0)]) hx hb dX14_nextDocument_1 rfl hl (by decide) rfl (fun ls hl => ?_)
  refine lv_iconst (v := 0) hx hb dX14_nextDocument_2 (by decide) ?_
  refine lv_istore_n (lv' := [(2, .int 0), (1, .null), (0, .ref r0)]) hx hb dX14_nextDocument_3 rfl hl (by decide) rfl (fun ls hl => ?_)
  have L4 : ∀ (N : Nat) (v1_2 : Option Nat) (v2_2 : Int32) (H_2 : Heap) (locs_2 : List Loc), jSt (dC, dI) B base G0 G0 EX14_nextDocumentK s.heap 0 0 [(r0, 16, 41, .ref dd), (r0, 16, 42, .int dc), (r0, 16, 60, .ref co), (r0, 16, 61, .ref cs), (r0, 16, 46, .ref ol), (r0, 16, 47, .ref nw), (r0, 16, 71, .ref td)] [(cs, 207, 2, ca 1, fs)] [(jFs, jDY dC dI ca G0 none sn), (jF9, jVl dC dI G0 9 ck), ([(201, 0)], jQc dC dI (ca 4) dd 3 fd), ([(208, 0)], jQc dC dI (ca 4) co 2 fo)] H_2 locs_2 → (v1_2 = none ∨ ∃ x, v1_2 = some x ∧ G0 x = some (14, 0) ∧ ∃ d : Nat, d < 3 ∧ (d : Int) < dc.toInt ∧ fd d = some x ∧ (ck x).toInt ≠ (sn x).toInt) → (0 ≤ v2_2.toInt ∧ v2_2.toInt ≤ dc.toInt) → (dc.toInt - v2_2.toInt : Int) < N → ∀ ls : Array Slot, lv_has ls 4 [(0, .ref r0), (1, va_rf v1_2), (2, .int v2_2)] → W p l e R s m ([.ref r0] : List Value).toArray below meth c H_2 locs_2 0 0 Q (F0 m 4 ls []) := by
    intro N
    induction N with
    | zero => intro v1_2 v2_2 H_2 locs_2 hh_2 hq_v1_2 hi_2 hm; exact absurd hm (by omega)
    | succ N L4 =>
      intro v1_2 v2_2 H_2 locs_2 hh_2 hq_v1_2 hi_2 hm_2 ls hl
      obtain ⟨hi_2_0, hi_2_1⟩ := hi_2
      rcases hq_v1_2 with rfl | ⟨nv_3, rfl, hg_nv_3, hp_nv_3⟩
      · have hl : lv_has ls 4 [(0, .ref r0), (1, .null), (2, .int v2_2)] := hl
        refine lv_iload_n hx hb dX14_nextDocument_4 rfl (lv_at hl 2 rfl) ?_
        refine lv_aload_n hx hb dX14_nextDocument_5 rfl (lv_at hl 0 rfl) ?_
        refine j7_read hx hb hown hK (C := RX14) (T := TX14) (N := 74) rfl hly_16_42 hlk_505 (hh_2.at 1 rfl) dX14_nextDocument_6 ?_
        refine lv_icmp_ge (tgt := 75) hx hb dX14_nextDocument_9 (by decide) (fun c_4 => ?_) (fun c_4 => ?_)
        · skip
          have c_4' : v2_2.toInt ≥ dc.toInt := jb_ge (rfl) (rfl) c_4
          refine j7_nld_n hx hb dX14_nextDocument_75 rfl (lv_at hl 1 rfl) ?_
          rw [hQ]
          exact W.aret (v := .null) hx hb hr (Or.inl ⟨_, rfl⟩) (Or.inl rfl) (fun t ht hW => ⟨⟨.null, (), rfl, Or.inl rfl, hh_2.rt (M1 := []) [] rfl ht⟩, by rw [ht]; try exact hh_2.1.1, fun q h9 hq => by rw [ht]; try exact hh_2.1.2.1 q h9 hq⟩) hh_2.1.2.2 dX14_nextDocument_76
        · skip
          have c_4' : v2_2.toInt < dc.toInt := jb_ge_n (rfl) (rfl) c_4
          refine lv_aload_n hx hb dX14_nextDocument_12 rfl (lv_at hl 0 rfl) ?_
          refine j7_read hx hb hown hK (C := RX14) (T := TX14) (N := 74) rfl hly_16_41 hlk_74 (hh_2.at 0 rfl) dX14_nextDocument_13 ?_
          refine lv_iload_n hx hb dX14_nextDocument_16 rfl (lv_at hl 2 rfl) ?_
          refine j7_qaldI hx hb hK2 hh_2 hB201 0 rfl (by decide) hg_dd (x := v2_2.toInt) (rfl) (by omega) (hh_2.iv 2 rfl) dX14_nextDocument_17 (fun o_5 ho_5 heo_5 => ?_)
          obtain ⟨el_6, rfl, hg_el_6⟩ := ho_5
          simp only [va_rf]
          refine lv_astore_n (lv' := [(3, .ref el_6), (0, .ref r0), (1, .null), (2, .int v2_2)]) hx hb dX14_nextDocument_18 rfl hl (by decide) rfl (fun ls hl => ?_)
          obtain ⟨yb_7, ye_7, fb_7, fe_7, hg_yb_7, hg_ye_7, hP_7, hM_7, hs_7, h0_7, h4_7⟩ := jDY.at (hh_2.iv 0 rfl) hg_el_6 (fun q => by cases q)
          have hh_8 := (hh_2.more hP_7).moreM hM_7
          clear hh_2 hP_7 hM_7
          have hh_9 := hh_8.more (jVl.at (hh_8.iv 1 rfl) hg_el_6)
          clear hh_8
          refine lv_aload_n hx hb dX14_nextDocument_19 rfl (lv_at hl 0 rfl) ?_
          refine j7_readN hx hb hown hK (C := RX12) (T := TX12) (N := 11) rfl hly_14_9 hlk_531 (hh_9.at 0 rfl) dX14_nextDocument_20 ?_
          refine lv_aload_n hx hb dX14_nextDocument_23 rfl (lv_at hl 0 rfl) ?_
          refine j7_readN hx hb hown hK (C := RX12) (T := TX12) (N := 11) rfl hly_14_5 hlk_587 (hh_9.at 3 rfl) dX14_nextDocument_24 ?_
          refine lv_icmp_eq (tgt := 69) hx hb dX14_nextDocument_27 (by decide) (fun c_10 => ?_) (fun c_10 => ?_)
          · skip
            have c_10' : (ck el_6).toInt = (sn el_6).toInt := jb_eq (rfl) (rfl) c_10
            obtain ⟨z_11, ez_11⟩ : ∃ y : Int32, y = v2_2 + 1 := ⟨_, rfl⟩
            refine lv_iinc (v := z_11) (lv' := [(2, .int z_11), (3, .ref el_6), (0, .ref r0), (1, .null)]) hx hb dX14_nextDocument_69 hl (k := 3) rfl (by rw [ez_11]; rfl) (by decide) rfl (fun ls hl => ?_)
            have hz_11 : z_11.toInt = v2_2.toInt + 1 := by rw [ez_11]; exact jb_iadd2 (rfl) (by decide) (by omega)
            refine lv_goto (tgt := 4) hx hb dX14_nextDocument_72 (by decide) ?_
            exact L4 none z_11 _ _ (hh_9.sub (L1 := [(r0, 16, 41, .ref dd), (r0, 16, 42, .int dc), (r0, 16, 60, .ref co), (r0, 16, 61, .ref cs), (r0, 16, 46, .ref ol), (r0, 16, 47, .ref nw), (r0, 16, 71, .ref td)]) [4, 5, 6, 7, 8, 9, 10] rfl (M1 := [(cs, 207, 2, ca 1, fs)]) [2] rfl (I1 := [(jFs, jDY dC dI ca G0 none sn), (jF9, jVl dC dI G0 9 ck), ([(201, 0)], jQc dC dI (ca 4) dd 3 fd), ([(208, 0)], jQc dC dI (ca 4) co 2 fo)]) [0, 1, 2, 3] rfl) (Or.inl rfl) (by first | omega | (refine ⟨?_, ?_⟩ <;> (first | omega | rfl | assumption | decide | exact Or.inl rfl | exact Or.inr rfl | (simp only; omega)))) (by omega) _ (lv_sub hl [2, 3, 0] rfl)
          · skip
            have c_10' : (ck el_6).toInt ≠ (sn el_6).toInt := jb_eq_n (rfl) (rfl) c_10
            refine lv_aload_n hx hb dX14_nextDocument_30 rfl (lv_at hl 0 rfl) ?_
            refine lv_aload_n hx hb dX14_nextDocument_31 rfl (lv_at hl 1 rfl) ?_
            refine j7_read hx hb hown hK (C := RX14) (T := TX14) (N := 74) rfl hly_16_60 hlk_129 (hh_9.at 6 rfl) dX14_nextDocument_32 ?_
            refine lv_iconst (v := 0) hx hb dX14_nextDocument_35 (by decide) ?_
            refine j7_qaldI hx hb hK2 hh_9 hB208 0 rfl (by decide) hg_co (x := 0) ((by decide)) (by omega) (hh_9.iv 3 rfl) dX14_nextDocument_36 (fun o_12 ho_12 heo_12 => ?_)
            rcases ho_12 with rfl | ⟨el_13, rfl, hg_el_13⟩
            · simp only [va_rf]
              refine lv_acmp_eq (rx := (some el_6)) (ry := none) (tgt := 69) hx hb dX14_nextDocument_37 (by decide) (fun c_14 => ?_) (fun c_14 => ?_)
              · skip
                cases c_14
              · skip
                refine lv_aload_n hx hb dX14_nextDocument_40 rfl (lv_at hl 0 rfl) ?_
                refine lv_aload_n hx hb dX14_nextDocument_41 rfl (lv_at hl 1 rfl) ?_
                refine j7_read hx hb hown hK (C := RX14) (T := TX14) (N := 74) rfl hly_16_60 hlk_129 (hh_9.at 6 rfl) dX14_nextDocument_42 ?_
                refine lv_iconst (v := 1) hx hb dX14_nextDocument_45 (by decide) ?_
                refine j7_qaldI hx hb hK2 hh_9 hB208 0 rfl (by decide) hg_co (x := 1) ((by decide)) (by omega) (hh_9.iv 3 rfl) dX14_nextDocument_46 (fun o_15 ho_15 heo_15 => ?_)
                rcases ho_15 with rfl | ⟨el_16, rfl, hg_el_16⟩
                · simp only [va_rf]
                  refine lv_acmp_ne (rx := (some el_6)) (ry := none) (tgt := 53) hx hb dX14_nextDocument_47 (by decide) (fun c_17 => ?_) (fun c_17 => ?_)
                  · skip
                    refine lv_aload_n hx hb dX14_nextDocument_53 rfl (lv_at hl 1 rfl) ?_
                    refine lv_aload_n hx hb dX14_nextDocument_54 rfl (lv_at hl 0 rfl) ?_
                    refine va_calli (A0 := jA base) (H0 := s.heap) (va_runV (As := [.ref el_6]) (rest := []) ⟨hx, hb, hml, hown, hts⟩ (uX14_isWaitedFor l dC dI ca base B hB hAp hB14 hB16 hB202 G0 H_2 r0 el_6) (cwV 1 hts (jgV (jWr_90 _ (List.mem_of_getElem? (i := 0) rfl)) (jWr_90 _ (List.mem_of_getElem? (i := 1) rfl)) (jWr_90 _ (List.mem_of_getElem? (i := 2) rfl)) (jWr_1 _ (List.mem_of_getElem? (i := 5) rfl)) (jWr_90 _ (List.mem_of_getElem? (i := 3) rfl))) rfl rfl rfl (by decide +kernel) ⟨by rw [← hR]; exact Nat.le_of_ble_eq_true rfl, by rw [← hR]; exact Nat.le_of_ble_eq_true rfl⟩) ⟨fun a U g mk q => by obtain ⟨q0, q1, q2, qK, q10, q11, q12, q13, q14⟩ := q; exact ⟨q0, q1, q2, jG.calling g mk a qK, (va_K.moved (Vm.Alike.refl U.vm) q10), q11, q12, q13, q14⟩, hh_9.recv (C := RX14) (T := TX14) (N := 74) hB16 rfl (by decide) hg_r0 hK, fun U hU hW => ⟨rfl, hU, hh_9.2.1, hG.step hW hU hh_9.1, va_K.moved hW.alike hK2, hg_el_6, hg_r0, jP.nil, trivial⟩⟩ rfl rfl hl.1 rfl (lv_room (Nat.le_of_ble_eq_true rfl)) dX14_nextDocument_55 ⟨Nat.zero_le _, Nat.zero_le _⟩) hh_9.1 (fun q _ h => h) (fun q h => h) (fun r_19 u_18 t_18 H_18 locs_18 ht_18 hvm_18 hr_19 hb_18 hz_18 hk_18 hS_18 => ?_)
                    rw [ht_18] at hb_18
                    obtain ⟨hb_181, hb_182, hb_183, hb_184, hb_185⟩ := hb_18
                    have hh_18 : jSt (dC, dI) B base G0 G0 EX14_nextDocumentK s.heap 0 0 [(el_6, 14, 9, .int (ck el_6)), (el_6, 14, 6, .ref yb_7), (el_6, 14, 7, .ref ye_7), (el_6, 14, 5, .int (sn el_6)), (r0, 16, 41, .ref dd), (r0, 16, 42, .int dc), (r0, 16, 60, .ref co), (r0, 16, 61, .ref cs), (r0, 16, 46, .ref ol), (r0, 16, 47, .ref nw), (r0, 16, 71, .ref td)] [(yb_7, 190, 40, ca 1, fb_7), (ye_7, 191, 40, ca 1, fe_7), (cs, 207, 2, ca 1, fs)] [(jFs, jDY dC dI ca G0 none sn), (jF9, jVl dC dI G0 9 ck), ([(201, 0)], jQc dC dI (ca 4) dd 3 fd), ([(208, 0)], jQc dC dI (ca 4) co 2 fo)] H_18 locs_18 := ((hh_9.call hb_181 hb_182 hb_183 hb_184 hS_18 rfl (L1 := [(el_6, 14, 9, .int (ck el_6)), (el_6, 14, 6, .ref yb_7), (el_6, 14, 7, .ref ye_7), (el_6, 14, 5, .int (sn el_6)), (r0, 16, 41, .ref dd), (r0, 16, 42, .int dc), (r0, 16, 60, .ref co), (r0, 16, 61, .ref cs), (r0, 16, 46, .ref ol), (r0, 16, 47, .ref nw), (r0, 16, 71, .ref td)]) [0, 1, 2, 3, 4, 5, 6, 7, 8, 9, 10] rfl rfl (M1 := [(yb_7, 190, 40, ca 1, fb_7), (ye_7, 191, 40, ca 1, fe_7), (cs, 207, 2, ca 1, fs)]) [0, 1, 2] rfl rfl (I1 := [(jFs, jDY dC dI ca G0 none sn), (jF9, jVl dC dI G0 9 ck), ([(201, 0)], jQc dC dI (ca 4) dd 3 fd), ([(208, 0)], jQc dC dI (ca 4) co 2 fo)]) [0, 1, 2, 3] rfl rfl).more hb_185)
                    clear hh_9 ht_18 hvm_18 hz_18 hk_18 hS_18 hb_181 hb_182 hb_183 hb_184 hb_185
                    obtain ⟨hr_19b, hr_19p⟩ := hr_19
                    have hr_19' := jb_01 hr_19b
                    refine lv_if_eq (tgt := 63) hx hb dX14_nextDocument_58 (by decide) (fun c_20 => ?_) (fun c_20 => ?_)
                    · skip
                      have c_20' : r_19.toInt = 0 := jb_eq (rfl) ((by decide)) c_20
                      refine j7_nld_n hx hb dX14_nextDocument_63 rfl (lv_at hl 2 rfl) ?_
                      refine lv_ifnonnullN hx hb dX14_nextDocument_64 ?_
                      refine lv_aload_n hx hb dX14_nextDocument_67 rfl (lv_at hl 0 rfl) ?_
                      refine lv_astore_n (lv' := [(1, .ref el_6), (3, .ref el_6), (0, .ref r0), (2, .int v2_2)]) hx hb dX14_nextDocument_68 rfl hl (by decide) rfl (fun ls hl => ?_)
                      obtain ⟨z_21, ez_21⟩ : ∃ y : Int32, y = v2_2 + 1 := ⟨_, rfl⟩
                      refine lv_iinc (v := z_21) (lv' := [(2, .int z_21), (1, .ref el_6), (3, .ref el_6), (0, .ref r0)]) hx hb dX14_nextDocument_69 hl (k := 3) rfl (by rw [ez_21]; rfl) (by decide) rfl (fun ls hl => ?_)
                      have hz_21 : z_21.toInt = v2_2.toInt + 1 := by rw [ez_21]; exact jb_iadd2 (rfl) (by decide) (by omega)
                      refine lv_goto (tgt := 4) hx hb dX14_nextDocument_72 (by decide) ?_
                      exact L4 (some el_6) z_21 _ _ (hh_18.sub (L1 := [(r0, 16, 41, .ref dd), (r0, 16, 42, .int dc), (r0, 16, 60, .ref co), (r0, 16, 61, .ref cs), (r0, 16, 46, .ref ol), (r0, 16, 47, .ref nw), (r0, 16, 71, .ref td)]) [4, 5, 6, 7, 8, 9, 10] rfl (M1 := [(cs, 207, 2, ca 1, fs)]) [2] rfl (I1 := [(jFs, jDY dC dI ca G0 none sn), (jF9, jVl dC dI G0 9 ck), ([(201, 0)], jQc dC dI (ca 4) dd 3 fd), ([(208, 0)], jQc dC dI (ca 4) co 2 fo)]) [0, 1, 2, 3] rfl) (Or.inr ⟨_, rfl, hg_el_6, ⟨v2_2.toInt.toNat, by omega, by omega, heo_5.symm, by omega⟩⟩) (by first | omega | (refine ⟨?_, ?_⟩ <;> (first | omega | rfl | assumption | decide | exact Or.inl rfl | exact Or.inr rfl | (simp only; omega)))) (by omega) _ (lv_sub hl [3, 1, 0] rfl)
                    · skip
                      have c_20' : r_19.toInt ≠ 0 := jb_eq_n (rfl) ((by decide)) c_20
                      refine lv_aload_n hx hb dX14_nextDocument_61 rfl (lv_at hl 0 rfl) ?_
                      rw [hQ]
                      exact W.aret (v := .ref el_6) hx hb hr (Or.inl ⟨_, rfl⟩) (Or.inr ⟨_, rfl⟩) (fun t ht hW => ⟨⟨.ref el_6, (), rfl, Or.inr ⟨_, rfl, hg_el_6, ⟨v2_2.toInt.toNat, by omega, by omega, heo_5.symm, by omega⟩⟩, hh_18.rt (M1 := []) [] rfl ht⟩, by rw [ht]; try exact hh_18.1.1, fun q h9 hq => by rw [ht]; try exact hh_18.1.2.1 q h9 hq⟩) hh_18.1.2.2 dX14_nextDocument_62
                  · skip
                    cases c_17
                · simp only [va_rf]
                  refine lv_acmp_ne (rx := (some el_6)) (ry := (some el_16)) (tgt := 53) hx hb dX14_nextDocument_47 (by decide) (fun c_22 => ?_) (fun c_22 => ?_)
                  · skip
                    refine lv_aload_n hx hb dX14_nextDocument_53 rfl (lv_at hl 1 rfl) ?_
                    refine lv_aload_n hx hb dX14_nextDocument_54 rfl (lv_at hl 0 rfl) ?_
                    refine va_calli (A0 := jA base) (H0 := s.heap) (va_runV (As := [.ref el_6]) (rest := []) ⟨hx, hb, hml, hown, hts⟩ (uX14_isWaitedFor l dC dI ca base B hB hAp hB14 hB16 hB202 G0 H_2 r0 el_6) (cwV 1 hts (jgV (jWr_90 _ (List.mem_of_getElem? (i := 0) rfl)) (jWr_90 _ (List.mem_of_getElem? (i := 1) rfl)) (jWr_90 _ (List.mem_of_getElem? (i := 2) rfl)) (jWr_1 _ (List.mem_of_getElem? (i := 5) rfl)) (jWr_90 _ (List.mem_of_getElem? (i := 3) rfl))) rfl rfl rfl (by decide +kernel) ⟨by rw [← hR]; exact Nat.le_of_ble_eq_true rfl, by rw [← hR]; exact Nat.le_of_ble_eq_true rfl⟩) ⟨fun a U g mk q => by obtain ⟨q0, q1, q2, qK, q10, q11, q12, q13, q14⟩ := q; exact ⟨q0, q1, q2, jG.calling g mk a qK, (va_K.moved (Vm.Alike.refl U.vm) q10), q11, q12, q13, q14⟩, hh_9.recv (C := RX14) (T := TX14) (N := 74) hB16 rfl (by decide) hg_r0 hK, fun U hU hW => ⟨rfl, hU, hh_9.2.1, hG.step hW hU hh_9.1, va_K.moved hW.alike hK2, hg_el_6, hg_r0, jP.nil, trivial⟩⟩ rfl rfl hl.1 rfl (lv_room (Nat.le_of_ble_eq_true rfl)) dX14_nextDocument_55 ⟨Nat.zero_le _, Nat.zero_le _⟩) hh_9.1 (fun q _ h => h) (fun q h => h) (fun r_24 u_23 t_23 H_23 locs_23 ht_23 hvm_23 hr_24 hb_23 hz_23 hk_23 hS_23 => ?_)
                    rw [ht_23] at hb_23
                    obtain ⟨hb_231, hb_232, hb_233, hb_234, hb_235⟩ := hb_23
                    have hh_23 : jSt (dC, dI) B base G0 G0 EX14_nextDocumentK s.heap 0 0 [(el_6, 14, 9, .int (ck el_6)), (el_6, 14, 6, .ref yb_7), (el_6, 14, 7, .ref ye_7), (el_6, 14, 5, .int (sn el_6)), (r0, 16, 41, .ref dd), (r0, 16, 42, .int dc), (r0, 16, 60, .ref co), (r0, 16, 61, .ref cs), (r0, 16, 46, .ref ol), (r0, 16, 47, .ref nw), (r0, 16, 71, .ref td)] [(yb_7, 190, 40, ca 1, fb_7), (ye_7, 191, 40, ca 1, fe_7), (cs, 207, 2, ca 1, fs)] [(jFs, jDY dC dI ca G0 none sn), (jF9, jVl dC dI G0 9 ck), ([(201, 0)], jQc dC dI (ca 4) dd 3 fd), ([(208, 0)], jQc dC dI (ca 4) co 2 fo)] H_23 locs_23 := ((hh_9.call hb_231 hb_232 hb_233 hb_234 hS_23 rfl (L1 := [(el_6, 14, 9, .int (ck el_6)), (el_6, 14, 6, .ref yb_7), (el_6, 14, 7, .ref ye_7), (el_6, 14, 5, .int (sn el_6)), (r0, 16, 41, .ref dd), (r0, 16, 42, .int dc), (r0, 16, 60, .ref co), (r0, 16, 61, .ref cs), (r0, 16, 46, .ref ol), (r0, 16, 47, .ref nw), (r0, 16, 71, .ref td)]) [0, 1, 2, 3, 4, 5, 6, 7, 8, 9, 10] rfl rfl (M1 := [(yb_7, 190, 40, ca 1, fb_7), (ye_7, 191, 40, ca 1, fe_7), (cs, 207, 2, ca 1, fs)]) [0, 1, 2] rfl rfl (I1 := [(jFs, jDY dC dI ca G0 none sn), (jF9, jVl dC dI G0 9 ck), ([(201, 0)], jQc dC dI (ca 4) dd 3 fd), ([(208, 0)], jQc dC dI (ca 4) co 2 fo)]) [0, 1, 2, 3] rfl rfl).more hb_235)
                    clear hh_9 ht_23 hvm_23 hz_23 hk_23 hS_23 hb_231 hb_232 hb_233 hb_234 hb_235
                    obtain ⟨hr_24b, hr_24p⟩ := hr_24
                    have hr_24' := jb_01 hr_24b
                    refine lv_if_eq (tgt := 63) hx hb dX14_nextDocument_58 (by decide) (fun c_25 => ?_) (fun c_25 => ?_)
                    · skip
                      have c_25' : r_24.toInt = 0 := jb_eq (rfl) ((by decide)) c_25
                      refine j7_nld_n hx hb dX14_nextDocument_63 rfl (lv_at hl 2 rfl) ?_
                      refine lv_ifnonnullN hx hb dX14_nextDocument_64 ?_
                      refine lv_aload_n hx hb dX14_nextDocument_67 rfl (lv_at hl 0 rfl) ?_
                      refine lv_astore_n (lv' := [(1, .ref el_6), (3, .ref el_6), (0, .ref r0), (2, .int v2_2)]) hx hb dX14_nextDocument_68 rfl hl (by decide) rfl (fun ls hl => ?_)
                      obtain ⟨z_26, ez_26⟩ : ∃ y : Int32, y = v2_2 + 1 := ⟨_, rfl⟩
                      refine lv_iinc (v := z_26) (lv' := [(2, .int z_26), (1, .ref el_6), (3, .ref el_6), (0, .ref r0)]) hx hb dX14_nextDocument_69 hl (k := 3) rfl (by rw [ez_26]; rfl) (by decide) rfl (fun ls hl => ?_)
                      have hz_26 : z_26.toInt = v2_2.toInt + 1 := by rw [ez_26]; exact jb_iadd2 (rfl) (by decide) (by omega)
                      refine lv_goto (tgt := 4) hx hb dX14_nextDocument_72 (by decide) ?_
                      exact L4 (some el_6) z_26 _ _ (hh_23.sub (L1 := [(r0, 16, 41, .ref dd), (r0, 16, 42, .int dc), (r0, 16, 60, .ref co), (r0, 16, 61, .ref cs), (r0, 16, 46, .ref ol), (r0, 16, 47, .ref nw), (r0, 16, 71, .ref td)]) [4, 5, 6, 7, 8, 9, 10] rfl (M1 := [(cs, 207, 2, ca 1, fs)]) [2] rfl (I1 := [(jFs, jDY dC dI ca G0 none sn), (jF9, jVl dC dI G0 9 ck), ([(201, 0)], jQc dC dI (ca 4) dd 3 fd), ([(208, 0)], jQc dC dI (ca 4) co 2 fo)]) [0, 1, 2, 3] rfl) (Or.inr ⟨_, rfl, hg_el_6, ⟨v2_2.toInt.toNat, by omega, by omega, heo_5.symm, by omega⟩⟩) (by first | omega | (refine ⟨?_, ?_⟩ <;> (first | omega | rfl | assumption | decide | exact Or.inl rfl | exact Or.inr rfl | (simp only; omega)))) (by omega) _ (lv_sub hl [3, 1, 0] rfl)
                    · skip
                      have c_25' : r_24.toInt ≠ 0 := jb_eq_n (rfl) ((by decide)) c_25
                      refine lv_aload_n hx hb dX14_nextDocument_61 rfl (lv_at hl 0 rfl) ?_
                      rw [hQ]
                      exact W.aret (v := .ref el_6) hx hb hr (Or.inl ⟨_, rfl⟩) (Or.inr ⟨_, rfl⟩) (fun t ht hW => ⟨⟨.ref el_6, (), rfl, Or.inr ⟨_, rfl, hg_el_6, ⟨v2_2.toInt.toNat, by omega, by omega, heo_5.symm, by omega⟩⟩, hh_23.rt (M1 := []) [] rfl ht⟩, by rw [ht]; try exact hh_23.1.1, fun q h9 hq => by rw [ht]; try exact hh_23.1.2.1 q h9 hq⟩) hh_23.1.2.2 dX14_nextDocument_62
                  · skip
                    refine lv_goto (tgt := 69) hx hb dX14_nextDocument_50 (by decide) ?_
                    obtain ⟨z_27, ez_27⟩ : ∃ y : Int32, y = v2_2 + 1 := ⟨_, rfl⟩
                    refine lv_iinc (v := z_27) (lv' := [(2, .int z_27), (3, .ref el_6), (0, .ref r0), (1, .null)]) hx hb dX14_nextDocument_69 hl (k := 3) rfl (by rw [ez_27]; rfl) (by decide) rfl (fun ls hl => ?_)
                    have hz_27 : z_27.toInt = v2_2.toInt + 1 := by rw [ez_27]; exact jb_iadd2 (rfl) (by decide) (by omega)
                    refine lv_goto (tgt := 4) hx hb dX14_nextDocument_72 (by decide) ?_
                    exact L4 none z_27 _ _ (hh_9.sub (L1 := [(r0, 16, 41, .ref dd), (r0, 16, 42, .int dc), (r0, 16, 60, .ref co), (r0, 16, 61, .ref cs), (r0, 16, 46, .ref ol), (r0, 16, 47, .ref nw), (r0, 16, 71, .ref td)]) [4, 5, 6, 7, 8, 9, 10] rfl (M1 := [(cs, 207, 2, ca 1, fs)]) [2] rfl (I1 := [(jFs, jDY dC dI ca G0 none sn), (jF9, jVl dC dI G0 9 ck), ([(201, 0)], jQc dC dI (ca 4) dd 3 fd), ([(208, 0)], jQc dC dI (ca 4) co 2 fo)]) [0, 1, 2, 3] rfl) (Or.inl rfl) (by first | omega | (refine ⟨?_, ?_⟩ <;> (first | omega | rfl | assumption | decide | exact Or.inl rfl | exact Or.inr rfl | (simp only; omega)))) (by omega) _ (lv_sub hl [2, 3, 0] rfl)
            · simp only [va_rf]
              refine lv_acmp_eq (rx := (some el_6)) (ry := (some el_13)) (tgt := 69) hx hb dX14_nextDocument_37 (by decide) (fun c_28 => ?_) (fun c_28 => ?_)
              · skip
                obtain ⟨z_29, ez_29⟩ : ∃ y : Int32, y = v2_2 + 1 := ⟨_, rfl⟩
                refine lv_iinc (v := z_29) (lv' := [(2, .int z_29), (3, .ref el_6), (0, .ref r0), (1, .null)]) hx hb dX14_nextDocument_69 hl (k := 3) rfl (by rw [ez_29]; rfl) (by decide) rfl (fun ls hl => ?_)
                have hz_29 : z_29.toInt = v2_2.toInt + 1 := by rw [ez_29]; exact jb_iadd2 (rfl) (by decide) (by omega)
                refine lv_goto (tgt := 4) hx hb dX14_nextDocument_72 (by decide) ?_
                exact L4 none z_29 _ _ (hh_9.sub (L1 := [(r0, 16, 41, .ref dd), (r0, 16, 42, .int dc), (r0, 16, 60, .ref co), (r0, 16, 61, .ref cs), (r0, 16, 46, .ref ol), (r0, 16, 47, .ref nw), (r0, 16, 71, .ref td)]) [4, 5, 6, 7, 8, 9, 10] rfl (M1 := [(cs, 207, 2, ca 1, fs)]) [2] rfl (I1 := [(jFs, jDY dC dI ca G0 none sn), (jF9, jVl dC dI G0 9 ck), ([(201, 0)], jQc dC dI (ca 4) dd 3 fd), ([(208, 0)], jQc dC dI (ca 4) co 2 fo)]) [0, 1, 2, 3] rfl) (Or.inl rfl) (by first | omega | (refine ⟨?_, ?_⟩ <;> (first | omega | rfl | assumption | decide | exact Or.inl rfl | exact Or.inr rfl | (simp only; omega)))) (by omega) _ (lv_sub hl [2, 3, 0] rfl)
              · skip
                refine lv_aload_n hx hb dX14_nextDocument_40 rfl (lv_at hl 0 rfl) ?_
                refine lv_aload_n hx hb dX14_nextDocument_41 rfl (lv_at hl 1 rfl) ?_
                refine j7_read hx hb hown hK (C := RX14) (T := TX14) (N := 74) rfl hly_16_60 hlk_129 (hh_9.at 6 rfl) dX14_nextDocument_42 ?_
                refine lv_iconst (v := 1) hx hb dX14_nextDocument_45 (by decide) ?_
                refine j7_qaldI hx hb hK2 hh_9 hB208 0 rfl (by decide) hg_co (x := 1) ((by decide)) (by omega) (hh_9.iv 3 rfl) dX14_nextDocument_46 (fun o_30 ho_30 heo_30 => ?_)
                rcases ho_30 with rfl | ⟨el_31, rfl, hg_el_31⟩
                · simp only [va_rf]
                  refine lv_acmp_ne (rx := (some el_6)) (ry := none) (tgt := 53) hx hb dX14_nextDocument_47 (by decide) (fun c_32 => ?_) (fun c_32 => ?_)
                  · skip
                    refine lv_aload_n hx hb dX14_nextDocument_53 rfl (lv_at hl 1 rfl) ?_
                    refine lv_aload_n hx hb dX14_nextDocument_54 rfl (lv_at hl 0 rfl) ?_
                    refine va_calli (A0 := jA base) (H0 := s.heap) (va_runV (As := [.ref el_6]) (rest := []) ⟨hx, hb, hml, hown, hts⟩ (uX14_isWaitedFor l dC dI ca base B hB hAp hB14 hB16 hB202 G0 H_2 r0 el_6) (cwV 1 hts (jgV (jWr_90 _ (List.mem_of_getElem? (i := 0) rfl)) (jWr_90 _ (List.mem_of_getElem? (i := 1) rfl)) (jWr_90 _ (List.mem_of_getElem? (i := 2) rfl)) (jWr_1 _ (List.mem_of_getElem? (i := 5) rfl)) (jWr_90 _ (List.mem_of_getElem? (i := 3) rfl))) rfl rfl rfl (by decide +kernel) ⟨by rw [← hR]; exact Nat.le_of_ble_eq_true rfl, by rw [← hR]; exact Nat.le_of_ble_eq_true rfl⟩) ⟨fun a U g mk q => by obtain ⟨q0, q1, q2, qK, q10, q11, q12, q13, q14⟩ := q; exact ⟨q0, q1, q2, jG.calling g mk a qK, (va_K.moved (Vm.Alike.refl U.vm) q10), q11, q12, q13, q14⟩, hh_9.recv (C := RX14) (T := TX14) (N := 74) hB16 rfl (by decide) hg_r0 hK, fun U hU hW => ⟨rfl, hU, hh_9.2.1, hG.step hW hU hh_9.1, va_K.moved hW.alike hK2, hg_el_6, hg_r0, jP.nil, trivial⟩⟩ rfl rfl hl.1 rfl (lv_room (Nat.le_of_ble_eq_true rfl)) dX14_nextDocument_55 ⟨Nat.zero_le _, Nat.zero_le _⟩) hh_9.1 (fun q _ h => h) (fun q h => h) (fun r_34 u_33 t_33 H_33 locs_33 ht_33 hvm_33 hr_34 hb_33 hz_33 hk_33 hS_33 => ?_)
                    rw [ht_33] at hb_33
                    obtain ⟨hb_331, hb_332, hb_333, hb_334, hb_335⟩ := hb_33
                    have hh_33 : jSt (dC, dI) B base G0 G0 EX14_nextDocumentK s.heap 0 0 [(el_6, 14, 9, .int (ck el_6)), (el_6, 14, 6, .ref yb_7), (el_6, 14, 7, .ref ye_7), (el_6, 14, 5, .int (sn el_6)), (r0, 16, 41, .ref dd), (r0, 16, 42, .int dc), (r0, 16, 60, .ref co), (r0, 16, 61, .ref cs), (r0, 16, 46, .ref ol), (r0, 16, 47, .ref nw), (r0, 16, 71, .ref td)] [(yb_7, 190, 40, ca 1, fb_7), (ye_7, 191, 40, ca 1, fe_7), (cs, 207, 2, ca 1, fs)] [(jFs, jDY dC dI ca G0 none sn), (jF9, jVl dC dI G0 9 ck), ([(201, 0)], jQc dC dI (ca 4) dd 3 fd), ([(208, 0)], jQc dC dI (ca 4) co 2 fo)] H_33 locs_33 := ((hh_9.call hb_331 hb_332 hb_333 hb_334 hS_33 rfl (L1 := [(el_6, 14, 9, .int (ck el_6)), (el_6, 14, 6, .ref yb_7), (el_6, 14, 7, .ref ye_7), (el_6, 14, 5, .int (sn el_6)), (r0, 16, 41, .ref dd), (r0, 16, 42, .int dc), (r0, 16, 60, .ref co), (r0, 16, 61, .ref cs), (r0, 16, 46, .ref ol), (r0, 16, 47, .ref nw), (r0, 16, 71, .ref td)]) [0, 1, 2, 3, 4, 5, 6, 7, 8, 9, 10] rfl rfl (M1 := [(yb_7, 190, 40, ca 1, fb_7), (ye_7, 191, 40, ca 1, fe_7), (cs, 207, 2, ca 1, fs)]) [0, 1, 2] rfl rfl (I1 := [(jFs, jDY dC dI ca G0 none sn), (jF9, jVl dC dI G0 9 ck), ([(201, 0)], jQc dC dI (ca 4) dd 3 fd), ([(208, 0)], jQc dC dI (ca 4) co 2 fo)]) [0, 1, 2, 3] rfl rfl).more hb_335)
                    clear hh_9 ht_33 hvm_33 hz_33 hk_33 hS_33 hb_331 hb_332 hb_333 hb_334 hb_335
                    obtain ⟨hr_34b, hr_34p⟩ := hr_34
                    have hr_34' := jb_01 hr_34b
                    refine lv_if_eq (tgt := 63) hx hb dX14_nextDocument_58 (by decide) (fun c_35 => ?_) (fun c_35 => ?_)
                    · skip
                      have c_35' : r_34.toInt = 0 := jb_eq (rfl) ((by decide)) c_35
                      refine j7_nld_n hx hb dX14_nextDocument_63 rfl (lv_at hl 2 rfl) ?_
                      refine lv_ifnonnullN hx hb dX14_nextDocument_64 ?_
                      refine lv_aload_n hx hb dX14_nextDocument_67 rfl (lv_at hl 0 rfl) ?_
                      refine lv_astore_n (lv' := [(1, .ref el_6), (3, .ref el_6), (0, .ref r0), (2, .int v2_2)]) hx hb dX14_nextDocument_68 rfl hl (by decide) rfl (fun ls hl => ?_)
                      obtain ⟨z_36, ez_36⟩ : ∃ y : Int32, y = v2_2 + 1 := ⟨_, rfl⟩
                      refine lv_iinc (v := z_36) (lv' := [(2, .int z_36), (1, .ref el_6), (3, .ref el_6), (0, .ref r0)]) hx hb dX14_nextDocument_69 hl (k := 3) rfl (by rw [ez_36]; rfl) (by decide) rfl (fun ls hl => ?_)
                      have hz_36 : z_36.toInt = v2_2.toInt + 1 := by rw [ez_36]; exact jb_iadd2 (rfl) (by decide) (by omega)
                      refine lv_goto (tgt := 4) hx hb dX14_nextDocument_72 (by decide) ?_
                      exact L4 (some el_6) z_36 _ _ (hh_33.sub (L1 := [(r0, 16, 41, .ref dd), (r0, 16, 42, .int dc), (r0, 16, 60, .ref co), (r0, 16, 61, .ref cs), (r0, 16, 46, .ref ol), (r0, 16, 47, .ref nw), (r0, 16, 71, .ref td)]) [4, 5, 6, 7, 8, 9, 10] rfl (M1 := [(cs, 207, 2, ca 1, fs)]) [2] rfl (I1 := [(jFs, jDY dC dI ca G0 none sn), (jF9, jVl dC dI G0 9 ck), ([(201, 0)], jQc dC dI (ca 4) dd 3 fd), ([(208, 0)], jQc dC dI (ca 4) co 2 fo)]) [0, 1, 2, 3] rfl) (Or.inr ⟨_, rfl, hg_el_6, ⟨v2_2.toInt.toNat, by omega, by omega, heo_5.symm, by omega⟩⟩) (by first | omega | (refine ⟨?_, ?_⟩ <;> (first | omega | rfl | assumption | decide | exact Or.inl rfl | exact Or.inr rfl | (simp only; omega)))) (by omega) _ (lv_sub hl [3, 1, 0] rfl)
                    · skip
                      have c_35' : r_34.toInt ≠ 0 := jb_eq_n (rfl) ((by decide)) c_35
                      refine lv_aload_n hx hb dX14_nextDocument_61 rfl (lv_at hl 0 rfl) ?_
                      rw [hQ]
                      exact W.aret (v := .ref el_6) hx hb hr (Or.inl ⟨_, rfl⟩) (Or.inr ⟨_, rfl⟩) (fun t ht hW => ⟨⟨.ref el_6, (), rfl, Or.inr ⟨_, rfl, hg_el_6, ⟨v2_2.toInt.toNat, by omega, by omega, heo_5.symm, by omega⟩⟩, hh_33.rt (M1 := []) [] rfl ht⟩, by rw [ht]; try exact hh_33.1.1, fun q h9 hq => by rw [ht]; try exact hh_33.1.2.1 q h9 hq⟩) hh_33.1.2.2 dX14_nextDocument_62
                  · skip
                    cases c_32
                · simp only [va_rf]
                  refine lv_acmp_ne (rx := (some el_6)) (ry := (some el_31)) (tgt := 53) hx hb dX14_nextDocument_47 (by decide) (fun c_37 => ?_) (fun c_37 => ?_)
                  · skip
                    refine lv_aload_n hx hb dX14_nextDocument_53 rfl (lv_at hl 1 rfl) ?_
                    refine lv_aload_n hx hb dX14_nextDocument_54 rfl (lv_at hl 0 rfl) ?_
                    refine va_calli (A0 := jA base) (H0 := s.heap) (va_runV (As := [.ref el_6]) (rest := []) ⟨hx, hb, hml, hown, hts⟩ (uX14_isWaitedFor l dC dI ca base B hB hAp hB14 hB16 hB202 G0 H_2 r0 el_6) (cwV 1 hts (jgV (jWr_90 _ (List.mem_of_getElem? (i := 0) rfl)) (jWr_90 _ (List.mem_of_getElem? (i := 1) rfl)) (jWr_90 _ (List.mem_of_getElem? (i := 2) rfl)) (jWr_1 _ (List.mem_of_getElem? (i := 5) rfl)) (jWr_90 _ (List.mem_of_getElem? (i := 3) rfl))) rfl rfl rfl (by decide +kernel) ⟨by rw [← hR]; exact Nat.le_of_ble_eq_true rfl, by rw [← hR]; exact Nat.le_of_ble_eq_true rfl⟩) ⟨fun a U g mk q => by obtain ⟨q0, q1, q2, qK, q10, q11, q12, q13, q14⟩ := q; exact ⟨q0, q1, q2, jG.calling g mk a qK, (va_K.moved (Vm.Alike.refl U.vm) q10), q11, q12, q13, q14⟩, hh_9.recv (C := RX14) (T := TX14) (N := 74) hB16 rfl (by decide) hg_r0 hK, fun U hU hW => ⟨rfl, hU, hh_9.2.1, hG.step hW hU hh_9.1, va_K.moved hW.alike hK2, hg_el_6, hg_r0, jP.nil, trivial⟩⟩ rfl rfl hl.1 rfl (lv_room (Nat.le_of_ble_eq_true rfl)) dX14_nextDocument_55 ⟨Nat.zero_le _, Nat.zero_le _⟩) hh_9.1 (fun q _ h => h) (fun q h => h) (fun r_39 u_38 t_38 H_38 locs_38 ht_38 hvm_38 hr_39 hb_38 hz_38 hk_38 hS_38 => ?_)
                    rw [ht_38] at hb_38
                    obtain ⟨hb_381, hb_382, hb_383, hb_384, hb_385⟩ := hb_38
                    have hh_38 : jSt (dC, dI) B base G0 G0 EX14_nextDocumentK s.heap 0 0 [(el_6, 14, 9, .int (ck el_6)), (el_6, 14, 6, .ref yb_7), (el_6, 14, 7, .ref ye_7), (el_6, 14, 5, .int (sn el_6)), (r0, 16, 41, .ref dd), (r0, 16, 42, .int dc), (r0, 16, 60, .ref co), (r0, 16, 61, .ref cs), (r0, 16, 46, .ref ol), (r0, 16, 47, .ref nw), (r0, 16, 71, .ref td)] [(yb_7, 190, 40, ca 1, fb_7), (ye_7, 191, 40, ca 1, fe_7), (cs, 207, 2, ca 1, fs)] [(jFs, jDY dC dI ca G0 none sn), (jF9, jVl dC dI G0 9 ck), ([(201, 0)], jQc dC dI (ca 4) dd 3 fd), ([(208, 0)], jQc dC dI (ca 4) co 2 fo)] H_38 locs_38 := ((hh_9.call hb_381 hb_382 hb_383 hb_384 hS_38 rfl (L1 := [(el_6, 14, 9, .int (ck el_6)), (el_6, 14, 6, .ref yb_7), (el_6, 14, 7, .ref ye_7), (el_6, 14, 5, .int (sn el_6)), (r0, 16, 41, .ref dd), (r0, 16, 42, .int dc), (r0, 16, 60, .ref co), (r0, 16, 61, .ref cs), (r0, 16, 46, .ref ol), (r0, 16, 47, .ref nw), (r0, 16, 71, .ref td)]) [0, 1, 2, 3, 4, 5, 6, 7, 8, 9, 10] rfl rfl (M1 := [(yb_7, 190, 40, ca 1, fb_7), (ye_7, 191, 40, ca 1, fe_7), (cs, 207, 2, ca 1, fs)]) [0, 1, 2] rfl rfl (I1 := [(jFs, jDY dC dI ca G0 none sn), (jF9, jVl dC dI G0 9 ck), ([(201, 0)], jQc dC dI (ca 4) dd 3 fd), ([(208, 0)], jQc dC dI (ca 4) co 2 fo)]) [0, 1, 2, 3] rfl rfl).more hb_385)
                    clear hh_9 ht_38 hvm_38 hz_38 hk_38 hS_38 hb_381 hb_382 hb_383 hb_384 hb_385
                    obtain ⟨hr_39b, hr_39p⟩ := hr_39
                    have hr_39' := jb_01 hr_39b
                    refine lv_if_eq (tgt := 63) hx hb dX14_nextDocument_58 (by decide) (fun c_40 => ?_) (fun c_40 => ?_)
                    · skip
                      have c_40' : r_39.toInt = 0 := jb_eq (rfl) ((by decide)) c_40
                      refine j7_nld_n hx hb dX14_nextDocument_63 rfl (lv_at hl 2 rfl) ?_
                      refine lv_ifnonnullN hx hb dX14_nextDocument_64 ?_
                      refine lv_aload_n hx hb dX14_nextDocument_67 rfl (lv_at hl 0 rfl) ?_
                      refine lv_astore_n (lv' := [(1, .ref el_6), (3, .ref el_6), (0, .ref r0), (2, .int v2_2)]) hx hb dX14_nextDocument_68 rfl hl (by decide) rfl (fun ls hl => ?_)
                      obtain ⟨z_41, ez_41⟩ : ∃ y : Int32, y = v2_2 + 1 := ⟨_, rfl⟩
                      refine lv_iinc (v := z_41) (lv' := [(2, .int z_41), (1, .ref el_6), (3, .ref el_6), (0, .ref r0)]) hx hb dX14_nextDocument_69 hl (k := 3) rfl (by rw [ez_41]; rfl) (by decide) rfl (fun ls hl => ?_)
                      have hz_41 : z_41.toInt = v2_2.toInt + 1 := by rw [ez_41]; exact jb_iadd2 (rfl) (by decide) (by omega)
                      refine lv_goto (tgt := 4) hx hb dX14_nextDocument_72 (by decide) ?_
                      exact L4 (some el_6) z_41 _ _ (hh_38.sub (L1 := [(r0, 16, 41, .ref dd), (r0, 16, 42, .int dc), (r0, 16, 60, .ref co), (r0, 16, 61, .ref cs), (r0, 16, 46, .ref ol), (r0, 16, 47, .ref nw), (r0, 16, 71, .ref td)]) [4, 5, 6, 7, 8, 9, 10] rfl (M1 := [(cs, 207, 2, ca 1, fs)]) [2] rfl (I1 := [(jFs, jDY dC dI ca G0 none sn), (jF9, jVl dC dI G0 9 ck), ([(201, 0)], jQc dC dI (ca 4) dd 3 fd), ([(208, 0)], jQc dC dI (ca 4) co 2 fo)]) [0, 1, 2, 3] rfl) (Or.inr ⟨_, rfl, hg_el_6, ⟨v2_2.toInt.toNat, by omega, by omega, heo_5.symm, by omega⟩⟩) (by first | omega | (refine ⟨?_, ?_⟩ <;> (first | omega | rfl | assumption | decide | exact Or.inl rfl | exact Or.inr rfl | (simp only; omega)))) (by omega) _ (lv_sub hl [3, 1, 0] rfl)
                    · skip
                      have c_40' : r_39.toInt ≠ 0 := jb_eq_n (rfl) ((by decide)) c_40
                      refine lv_aload_n hx hb dX14_nextDocument_61 rfl (lv_at hl 0 rfl) ?_
                      rw [hQ]
                      exact W.aret (v := .ref el_6) hx hb hr (Or.inl ⟨_, rfl⟩) (Or.inr ⟨_, rfl⟩) (fun t ht hW => ⟨⟨.ref el_6, (), rfl, Or.inr ⟨_, rfl, hg_el_6, ⟨v2_2.toInt.toNat, by omega, by omega, heo_5.symm, by omega⟩⟩, hh_38.rt (M1 := []) [] rfl ht⟩, by rw [ht]; try exact hh_38.1.1, fun q h9 hq => by rw [ht]; try exact hh_38.1.2.1 q h9 hq⟩) hh_38.1.2.2 dX14_nextDocument_62
                  · skip
                    refine lv_goto (tgt := 69) hx hb dX14_nextDocument_50 (by decide) ?_
                    obtain ⟨z_42, ez_42⟩ : ∃ y : Int32, y = v2_2 + 1 := ⟨_, rfl⟩
                    refine lv_iinc (v := z_42) (lv' := [(2, .int z_42), (3, .ref el_6), (0, .ref r0), (1, .null)]) hx hb dX14_nextDocument_69 hl (k := 3) rfl (by rw [ez_42]; rfl) (by decide) rfl (fun ls hl => ?_)
                    have hz_42 : z_42.toInt = v2_2.toInt + 1 := by rw [ez_42]; exact jb_iadd2 (rfl) (by decide) (by omega)
                    refine lv_goto (tgt := 4) hx hb dX14_nextDocument_72 (by decide) ?_
                    exact L4 none z_42 _ _ (hh_9.sub (L1 := [(r0, 16, 41, .ref dd), (r0, 16, 42, .int dc), (r0, 16, 60, .ref co), (r0, 16, 61, .ref cs), (r0, 16, 46, .ref ol), (r0, 16, 47, .ref nw), (r0, 16, 71, .ref td)]) [4, 5, 6, 7, 8, 9, 10] rfl (M1 := [(cs, 207, 2, ca 1, fs)]) [2] rfl (I1 := [(jFs, jDY dC dI ca G0 none sn), (jF9, jVl dC dI G0 9 ck), ([(201, 0)], jQc dC dI (ca 4) dd 3 fd), ([(208, 0)], jQc dC dI (ca 4) co 2 fo)]) [0, 1, 2, 3] rfl) (Or.inl rfl) (by first | omega | (refine ⟨?_, ?_⟩ <;> (first | omega | rfl | assumption | decide | exact Or.inl rfl | exact Or.inr rfl | (simp only; omega)))) (by omega) _ (lv_sub hl [2, 3, 0] rfl)
      · have hl : lv_has ls 4 [(0, .ref r0), (1, .ref nv_3), (2, .int v2_2)] := hl
        refine lv_iload_n hx hb dX14_nextDocument_4 rfl (lv_at hl 2 rfl) ?_
        refine lv_aload_n hx hb dX14_nextDocument_5 rfl (lv_at hl 0 rfl) ?_
        refine j7_read hx hb hown hK (C := RX14) (T := TX14) (N := 74) rfl hly_16_42 hlk_505 (hh_2.at 1 rfl) dX14_nextDocument_6 ?_
        refine lv_icmp_ge (tgt := 75) hx hb dX14_nextDocument_9 (by decide) (fun c_43 => ?_) (fun c_43 => ?_)
        · skip
          have c_43' : v2_2.toInt ≥ dc.toInt := jb_ge (rfl) (rfl) c_43
          refine lv_aload_n hx hb dX14_nextDocument_75 rfl (lv_at hl 1 rfl) ?_
          rw [hQ]
          exact W.aret (v := .ref nv_3) hx hb hr (Or.inl ⟨_, rfl⟩) (Or.inr ⟨_, rfl⟩) (fun t ht hW => ⟨⟨.ref nv_3, (), rfl, Or.inr ⟨_, rfl, hg_nv_3, hp_nv_3⟩, hh_2.rt (M1 := []) [] rfl ht⟩, by rw [ht]; try exact hh_2.1.1, fun q h9 hq => by rw [ht]; try exact hh_2.1.2.1 q h9 hq⟩) hh_2.1.2.2 dX14_nextDocument_76
        · skip
          have c_43' : v2_2.toInt < dc.toInt := jb_ge_n (rfl) (rfl) c_43
          refine lv_aload_n hx hb dX14_nextDocument_12 rfl (lv_at hl 0 rfl) ?_
          refine j7_read hx hb hown hK (C := RX14) (T := TX14) (N := 74) rfl hly_16_41 hlk_74 (hh_2.at 0 rfl) dX14_nextDocument_13 ?_
          refine lv_iload_n hx hb dX14_nextDocument_16 rfl (lv_at hl 2 rfl) ?_
          refine j7_qaldI hx hb hK2 hh_2 hB201 0 rfl (by decide) hg_dd (x := v2_2.toInt) (rfl) (by omega) (hh_2.iv 2 rfl) dX14_nextDocument_17 (fun o_44 ho_44 heo_44 => ?_)
          obtain ⟨el_45, rfl, hg_el_45⟩ := ho_44
          simp only [va_rf]
          refine lv_astore_n (lv' := [(3, .ref el_45), (0, .ref r0), (1, .ref nv_3), (2, .int v2_2)]) hx hb dX14_nextDocument_18 rfl hl (by decide) rfl (fun ls hl => ?_)
          obtain ⟨yb_46, ye_46, fb_46, fe_46, hg_yb_46, hg_ye_46, hP_46, hM_46, hs_46, h0_46, h4_46⟩ := jDY.at (hh_2.iv 0 rfl) hg_el_45 (fun q => by cases q)
          have hh_47 := (hh_2.more hP_46).moreM hM_46
          clear hh_2 hP_46 hM_46
          have hh_48 := hh_47.more (jVl.at (hh_47.iv 1 rfl) hg_el_45)
          clear hh_47
          refine lv_aload_n hx hb dX14_nextDocument_19 rfl (lv_at hl 0 rfl) ?_
          refine j7_readN hx hb hown hK (C := RX12) (T := TX12) (N := 11) rfl hly_14_9 hlk_531 (hh_48.at 0 rfl) dX14_nextDocument_20 ?_
          refine lv_aload_n hx hb dX14_nextDocument_23 rfl (lv_at hl 0 rfl) ?_
          refine j7_readN hx hb hown hK (C := RX12) (T := TX12) (N := 11) rfl hly_14_5 hlk_587 (hh_48.at 3 rfl) dX14_nextDocument_24 ?_
          refine lv_icmp_eq (tgt := 69) hx hb dX14_nextDocument_27 (by decide) (fun c_49 => ?_) (fun c_49 => ?_)
          · skip
            have c_49' : (ck el_45).toInt = (sn el_45).toInt := jb_eq (rfl) (rfl) c_49
            obtain ⟨z_50, ez_50⟩ : ∃ y : Int32, y = v2_2 + 1 := ⟨_, rfl⟩
            refine lv_iinc (v := z_50) (lv' := [(2, .int z_50), (3, .ref el_45), (0, .ref r0), (1, .ref nv_3)]) hx hb dX14_nextDocument_69 hl (k := 3) rfl (by rw [ez_50]; rfl) (by decide) rfl (fun ls hl => ?_)
            have hz_50 : z_50.toInt = v2_2.toInt + 1 := by rw [ez_50]; exact jb_iadd2 (rfl) (by decide) (by omega)
            refine lv_goto (tgt := 4) hx hb dX14_nextDocument_72 (by decide) ?_
            exact L4 (some nv_3) z_50 _ _ (hh_48.sub (L1 := [(r0, 16, 41, .ref dd), (r0, 16, 42, .int dc), (r0, 16, 60, .ref co), (r0, 16, 61, .ref cs), (r0, 16, 46, .ref ol), (r0, 16, 47, .ref nw), (r0, 16, 71, .ref td)]) [4, 5, 6, 7, 8, 9, 10] rfl (M1 := [(cs, 207, 2, ca 1, fs)]) [2] rfl (I1 := [(jFs, jDY dC dI ca G0 none sn), (jF9, jVl dC dI G0 9 ck), ([(201, 0)], jQc dC dI (ca 4) dd 3 fd), ([(208, 0)], jQc dC dI (ca 4) co 2 fo)]) [0, 1, 2, 3] rfl) (Or.inr ⟨_, rfl, hg_nv_3, hp_nv_3⟩) (by first | omega | (refine ⟨?_, ?_⟩ <;> (first | omega | rfl | assumption | decide | exact Or.inl rfl | exact Or.inr rfl | (simp only; omega)))) (by omega) _ (lv_sub hl [2, 3, 0] rfl)
          · skip
            have c_49' : (ck el_45).toInt ≠ (sn el_45).toInt := jb_eq_n (rfl) (rfl) c_49
            refine lv_aload_n hx hb dX14_nextDocument_30 rfl (lv_at hl 0 rfl) ?_
            refine lv_aload_n hx hb dX14_nextDocument_31 rfl (lv_at hl 1 rfl) ?_
            refine j7_read hx hb hown hK (C := RX14) (T := TX14) (N := 74) rfl hly_16_60 hlk_129 (hh_48.at 6 rfl) dX14_nextDocument_32 ?_
            refine lv_iconst (v := 0) hx hb dX14_nextDocument_35 (by decide) ?_
            refine j7_qaldI hx hb hK2 hh_48 hB208 0 rfl (by decide) hg_co (x := 0) ((by decide)) (by omega) (hh_48.iv 3 rfl) dX14_nextDocument_36 (fun o_51 ho_51 heo_51 => ?_)
            rcases ho_51 with rfl | ⟨el_52, rfl, hg_el_52⟩
            · simp only [va_rf]
              refine lv_acmp_eq (rx := (some el_45)) (ry := none) (tgt := 69) hx hb dX14_nextDocument_37 (by decide) (fun c_53 => ?_) (fun c_53 => ?_)
              · skip
                cases c_53
              · skip
                refine lv_aload_n hx hb dX14_nextDocument_40 rfl (lv_at hl 0 rfl) ?_
                refine lv_aload_n hx hb dX14_nextDocument_41 rfl (lv_at hl 1 rfl) ?_
                refine j7_read hx hb hown hK (C := RX14) (T := TX14) (N := 74) rfl hly_16_60 hlk_129 (hh_48.at 6 rfl) dX14_nextDocument_42 ?_
                refine lv_iconst (v := 1) hx hb dX14_nextDocument_45 (by decide) ?_
                refine j7_qaldI hx hb hK2 hh_48 hB208 0 rfl (by decide) hg_co (x := 1) ((by decide)) (by omega) (hh_48.iv 3 rfl) dX14_nextDocument_46 (fun o_54 ho_54 heo_54 => ?_)
                rcases ho_54 with rfl | ⟨el_55, rfl, hg_el_55⟩
                · simp only [va_rf]
                  refine lv_acmp_ne (rx := (some el_45)) (ry := none) (tgt := 53) hx hb dX14_nextDocument_47 (by decide) (fun c_56 => ?_) (fun c_56 => ?_)
                  · skip
                    refine lv_aload_n hx hb dX14_nextDocument_53 rfl (lv_at hl 1 rfl) ?_
                    refine lv_aload_n hx hb dX14_nextDocument_54 rfl (lv_at hl 0 rfl) ?_
                    refine va_calli (A0 := jA base) (H0 := s.heap) (va_runV (As := [.ref el_45]) (rest := []) ⟨hx, hb, hml, hown, hts⟩ (uX14_isWaitedFor l dC dI ca base B hB hAp hB14 hB16 hB202 G0 H_2 r0 el_45) (cwV 1 hts (jgV (jWr_90 _ (List.mem_of_getElem? (i := 0) rfl)) (jWr_90 _ (List.mem_of_getElem? (i := 1) rfl)) (jWr_90 _ (List.mem_of_getElem? (i := 2) rfl)) (jWr_1 _ (List.mem_of_getElem? (i := 5) rfl)) (jWr_90 _ (List.mem_of_getElem? (i := 3) rfl))) rfl rfl rfl (by decide +kernel) ⟨by rw [← hR]; exact Nat.le_of_ble_eq_true rfl, by rw [← hR]; exact Nat.le_of_ble_eq_true rfl⟩) ⟨fun a U g mk q => by obtain ⟨q0, q1, q2, qK, q10, q11, q12, q13, q14⟩ := q; exact ⟨q0, q1, q2, jG.calling g mk a qK, (va_K.moved (Vm.Alike.refl U.vm) q10), q11, q12, q13, q14⟩, hh_48.recv (C := RX14) (T := TX14) (N := 74) hB16 rfl (by decide) hg_r0 hK, fun U hU hW => ⟨rfl, hU, hh_48.2.1, hG.step hW hU hh_48.1, va_K.moved hW.alike hK2, hg_el_45, hg_r0, jP.nil, trivial⟩⟩ rfl rfl hl.1 rfl (lv_room (Nat.le_of_ble_eq_true rfl)) dX14_nextDocument_55 ⟨Nat.zero_le _, Nat.zero_le _⟩) hh_48.1 (fun q _ h => h) (fun q h => h) (fun r_58 u_57 t_57 H_57 locs_57 ht_57 hvm_57 hr_58 hb_57 hz_57 hk_57 hS_57 => ?_)
                    rw [ht_57] at hb_57
                    obtain ⟨hb_571, hb_572, hb_573, hb_574, hb_575⟩ := hb_57
                    have hh_57 : jSt (dC, dI) B base G0 G0 EX14_nextDocumentK s.heap 0 0 [(el_45, 14, 9, .int (ck el_45)), (el_45, 14, 6, .ref yb_46), (el_45, 14, 7, .ref ye_46), (el_45, 14, 5, .int (sn el_45)), (r0, 16, 41, .ref dd), (r0, 16, 42, .int dc), (r0, 16, 60, .ref co), (r0, 16, 61, .ref cs), (r0, 16, 46, .ref ol), (r0, 16, 47, .ref nw), (r0, 16, 71, .ref td)] [(yb_46, 190, 40, ca 1, fb_46), (ye_46, 191, 40, ca 1, fe_46), (cs, 207, 2, ca 1, fs)] [(jFs, jDY dC dI ca G0 none sn), (jF9, jVl dC dI G0 9 ck), ([(201, 0)], jQc dC dI (ca 4) dd 3 fd), ([(208, 0)], jQc dC dI (ca 4) co 2 fo)] H_57 locs_57 := ((hh_48.call hb_571 hb_572 hb_573 hb_574 hS_57 rfl (L1 := [(el_45, 14, 9, .int (ck el_45)), (el_45, 14, 6, .ref yb_46), (el_45, 14, 7, .ref ye_46), (el_45, 14, 5, .int (sn el_45)), (r0, 16, 41, .ref dd), (r0, 16, 42, .int dc), (r0, 16, 60, .ref co), (r0, 16, 61, .ref cs), (r0, 16, 46, .ref ol), (r0, 16, 47, .ref nw), (r0, 16, 71, .ref td)]) [0, 1, 2, 3, 4, 5, 6, 7, 8, 9, 10] rfl rfl (M1 := [(yb_46, 190, 40, ca 1, fb_46), (ye_46, 191, 40, ca 1, fe_46), (cs, 207, 2, ca 1, fs)]) [0, 1, 2] rfl rfl (I1 := [(jFs, jDY dC dI ca G0 none sn), (jF9, jVl dC dI G0 9 ck), ([(201, 0)], jQc dC dI (ca 4) dd 3 fd), ([(208, 0)], jQc dC dI (ca 4) co 2 fo)]) [0, 1, 2, 3] rfl rfl).more hb_575)
                    clear hh_48 ht_57 hvm_57 hz_57 hk_57 hS_57 hb_571 hb_572 hb_573 hb_574 hb_575
                    obtain ⟨hr_58b, hr_58p⟩ := hr_58
                    have hr_58' := jb_01 hr_58b
                    refine lv_if_eq (tgt := 63) hx hb dX14_nextDocument_58 (by decide) (fun c_59 => ?_) (fun c_59 => ?_)
                    · skip
                      have c_59' : r_58.toInt = 0 := jb_eq (rfl) ((by decide)) c_59
                      refine lv_aload_n hx hb dX14_nextDocument_63 rfl (lv_at hl 2 rfl) ?_
                      refine lv_ifnonnull (tgt := 69) hx hb dX14_nextDocument_64 (by decide) ?_
                      obtain ⟨z_60, ez_60⟩ : ∃ y : Int32, y = v2_2 + 1 := ⟨_, rfl⟩
                      refine lv_iinc (v := z_60) (lv' := [(2, .int z_60), (3, .ref el_45), (0, .ref r0), (1, .ref nv_3)]) hx hb dX14_nextDocument_69 hl (k := 3) rfl (by rw [ez_60]; rfl) (by decide) rfl (fun ls hl => ?_)
                      have hz_60 : z_60.toInt = v2_2.toInt + 1 := by rw [ez_60]; exact jb_iadd2 (rfl) (by decide) (by omega)
                      refine lv_goto (tgt := 4) hx hb dX14_nextDocument_72 (by decide) ?_
                      exact L4 (some nv_3) z_60 _ _ (hh_57.sub (L1 := [(r0, 16, 41, .ref dd), (r0, 16, 42, .int dc), (r0, 16, 60, .ref co), (r0, 16, 61, .ref cs), (r0, 16, 46, .ref ol), (r0, 16, 47, .ref nw), (r0, 16, 71, .ref td)]) [4, 5, 6, 7, 8, 9, 10] rfl (M1 := [(cs, 207, 2, ca 1, fs)]) [2] rfl (I1 := [(jFs, jDY dC dI ca G0 none sn), (jF9, jVl dC dI G0 9 ck), ([(201, 0)], jQc dC dI (ca 4) dd 3 fd), ([(208, 0)], jQc dC dI (ca 4) co 2 fo)]) [0, 1, 2, 3] rfl) (Or.inr ⟨_, rfl, hg_nv_3, hp_nv_3⟩) (by first | omega | (refine ⟨?_, ?_⟩ <;> (first | omega | rfl | assumption | decide | exact Or.inl rfl | exact Or.inr rfl | (simp only; omega)))) (by omega) _ (lv_sub hl [2, 3, 0] rfl)
                    · skip
                      have c_59' : r_58.toInt ≠ 0 := jb_eq_n (rfl) ((by decide)) c_59
                      refine lv_aload_n hx hb dX14_nextDocument_61 rfl (lv_at hl 0 rfl) ?_
                      rw [hQ]
                      exact W.aret (v := .ref el_45) hx hb hr (Or.inl ⟨_, rfl⟩) (Or.inr ⟨_, rfl⟩) (fun t ht hW => ⟨⟨.ref el_45, (), rfl, Or.inr ⟨_, rfl, hg_el_45, ⟨v2_2.toInt.toNat, by omega, by omega, heo_44.symm, by omega⟩⟩, hh_57.rt (M1 := []) [] rfl ht⟩, by rw [ht]; try exact hh_57.1.1, fun q h9 hq => by rw [ht]; try exact hh_57.1.2.1 q h9 hq⟩) hh_57.1.2.2 dX14_nextDocument_62
                  · skip
                    cases c_56
                · simp only [va_rf]
                  refine lv_acmp_ne (rx := (some el_45)) (ry := (some el_55)) (tgt := 53) hx hb dX14_nextDocument_47 (by decide) (fun c_61 => ?_) (fun c_61 => ?_)
                  · skip
                    refine lv_aload_n hx hb dX14_nextDocument_53 rfl (lv_at hl 1 rfl) ?_
                    refine lv_aload_n hx hb dX14_nextDocument_54 rfl (lv_at hl 0 rfl) ?_
                    refine va_calli (A0 := jA base) (H0 := s.heap) (va_runV (As := [.ref el_45]) (rest := []) ⟨hx, hb, hml, hown, hts⟩ (uX14_isWaitedFor l dC dI ca base B hB hAp hB14 hB16 hB202 G0 H_2 r0 el_45) (cwV 1 hts (jgV (jWr_90 _ (List.mem_of_getElem? (i := 0) rfl)) (jWr_90 _ (List.mem_of_getElem? (i := 1) rfl)) (jWr_90 _ (List.mem_of_getElem? (i := 2) rfl)) (jWr_1 _ (List.mem_of_getElem? (i := 5) rfl)) (jWr_90 _ (List.mem_of_getElem? (i := 3) rfl))) rfl rfl rfl (by decide +kernel) ⟨by rw [← hR]; exact Nat.le_of_ble_eq_true rfl, by rw [← hR]; exact Nat.le_of_ble_eq_true rfl⟩) ⟨fun a U g mk q => by obtain ⟨q0, q1, q2, qK, q10, q11, q12, q13, q14⟩ := q; exact ⟨q0, q1, q2, jG.calling g mk a qK, (va_K.moved (Vm.Alike.refl U.vm) q10), q11, q12, q13, q14⟩, hh_48.recv (C := RX14) (T := TX14) (N := 74) hB16 rfl (by decide) hg_r0 hK, fun U hU hW => ⟨rfl, hU, hh_48.2.1, hG.step hW hU hh_48.1, va_K.moved hW.alike hK2, hg_el_45, hg_r0, jP.nil, trivial⟩⟩ rfl rfl hl.1 rfl (lv_room (Nat.le_of_ble_eq_true rfl)) dX14_nextDocument_55 ⟨Nat.zero_le _, Nat.zero_le _⟩) hh_48.1 (fun q _ h => h) (fun q h => h) (fun r_63 u_62 t_62 H_62 locs_62 ht_62 hvm_62 hr_63 hb_62 hz_62 hk_62 hS_62 => ?_)
                    rw [ht_62] at hb_62
                    obtain ⟨hb_621, hb_622, hb_623, hb_624, hb_625⟩ := hb_62
                    have hh_62 : jSt (dC, dI) B base G0 G0 EX14_nextDocumentK s.heap 0 0 [(el_45, 14, 9, .int (ck el_45)), (el_45, 14, 6, .ref yb_46), (el_45, 14, 7, .ref ye_46), (el_45, 14, 5, .int (sn el_45)), (r0, 16, 41, .ref dd), (r0, 16, 42, .int dc), (r0, 16, 60, .ref co), (r0, 16, 61, .ref cs), (r0, 16, 46, .ref ol), (r0, 16, 47, .ref nw), (r0, 16, 71, .ref td)] [(yb_46, 190, 40, ca 1, fb_46), (ye_46, 191, 40, ca 1, fe_46), (cs, 207, 2, ca 1, fs)] [(jFs, jDY dC dI ca G0 none sn), (jF9, jVl dC dI G0 9 ck), ([(201, 0)], jQc dC dI (ca 4) dd 3 fd), ([(208, 0)], jQc dC dI (ca 4) co 2 fo)] H_62 locs_62 := ((hh_48.call hb_621 hb_622 hb_623 hb_624 hS_62 rfl (L1 := [(el_45, 14, 9, .int (ck el_45)), (el_45, 14, 6, .ref yb_46), (el_45, 14, 7, .ref ye_46), (el_45, 14, 5, .int (sn el_45)), (r0, 16, 41, .ref dd), (r0, 16, 42, .int dc), (r0, 16, 60, .ref co), (r0, 16, 61, .ref cs), (r0, 16, 46, .ref ol), (r0, 16, 47, .ref nw), (r0, 16, 71, .ref td)]) [0, 1, 2, 3, 4, 5, 6, 7, 8, 9, 10] rfl rfl (M1 := [(yb_46, 190, 40, ca 1, fb_46), (ye_46, 191, 40, ca 1, fe_46), (cs, 207, 2, ca 1, fs)]) [0, 1, 2] rfl rfl (I1 := [(jFs, jDY dC dI ca G0 none sn), (jF9, jVl dC dI G0 9 ck), ([(201, 0)], jQc dC dI (ca 4) dd 3 fd), ([(208, 0)], jQc dC dI (ca 4) co 2 fo)]) [0, 1, 2, 3] rfl rfl).more hb_625)
                    clear hh_48 ht_62 hvm_62 hz_62 hk_62 hS_62 hb_621 hb_622 hb_623 hb_624 hb_625
                    obtain ⟨hr_63b, hr_63p⟩ := hr_63
                    have hr_63' := jb_01 hr_63b
                    refine lv_if_eq (tgt := 63) hx hb dX14_nextDocument_58 (by decide) (fun c_64 => ?_) (fun c_64 => ?_)
                    · skip
                      have c_64' : r_63.toInt = 0 := jb_eq (rfl) ((by decide)) c_64
                      refine lv_aload_n hx hb dX14_nextDocument_63 rfl (lv_at hl 2 rfl) ?_
                      refine lv_ifnonnull (tgt := 69) hx hb dX14_nextDocument_64 (by decide) ?_
                      obtain ⟨z_65, ez_65⟩ : ∃ y : Int32, y = v2_2 + 1 := ⟨_, rfl⟩
                      refine lv_iinc (v := z_65) (lv' := [(2, .int z_65), (3, .ref el_45), (0, .ref r0), (1, .ref nv_3)]) hx hb dX14_nextDocument_69 hl (k := 3) rfl (by rw [ez_65]; rfl) (by decide) rfl (fun ls hl => ?_)
                      have hz_65 : z_65.toInt = v2_2.toInt + 1 := by rw [ez_65]; exact jb_iadd2 (rfl) (by decide) (by omega)
                      refine lv_goto (tgt := 4) hx hb dX14_nextDocument_72 (by decide) ?_
                      exact L4 (some nv_3) z_65 _ _ (hh_62.sub (L1 := [(r0, 16, 41, .ref dd), (r0, 16, 42, .int dc), (r0, 16, 60, .ref co), (r0, 16, 61, .ref cs), (r0, 16, 46, .ref ol), (r0, 16, 47, .ref nw), (r0, 16, 71, .ref td)]) [4, 5, 6, 7, 8, 9, 10] rfl (M1 := [(cs, 207, 2, ca 1, fs)]) [2] rfl (I1 := [(jFs, jDY dC dI ca G0 none sn), (jF9, jVl dC dI G0 9 ck), ([(201, 0)], jQc dC dI (ca 4) dd 3 fd), ([(208, 0)], jQc dC dI (ca 4) co 2 fo)]) [0, 1, 2, 3] rfl) (Or.inr ⟨_, rfl, hg_nv_3, hp_nv_3⟩) (by first | omega | (refine ⟨?_, ?_⟩ <;> (first | omega | rfl | assumption | decide | exact Or.inl rfl | exact Or.inr rfl | (simp only; omega)))) (by omega) _ (lv_sub hl [2, 3, 0] rfl)
                    · skip
                      have c_64' : r_63.toInt ≠ 0 := jb_eq_n (rfl) ((by decide)) c_64
                      refine lv_aload_n hx hb dX14_nextDocument_61 rfl (lv_at hl 0 rfl) ?_
                      rw [hQ]
                      exact W.aret (v := .ref el_45) hx hb hr (Or.inl ⟨_, rfl⟩) (Or.inr ⟨_, rfl⟩) (fun t ht hW => ⟨⟨.ref el_45, (), rfl, Or.inr ⟨_, rfl, hg_el_45, ⟨v2_2.toInt.toNat, by omega, by omega, heo_44.symm, by omega⟩⟩, hh_62.rt (M1 := []) [] rfl ht⟩, by rw [ht]; try exact hh_62.1.1, fun q h9 hq => by rw [ht]; try exact hh_62.1.2.1 q h9 hq⟩) hh_62.1.2.2 dX14_nextDocument_62
                  · skip
                    refine lv_goto (tgt := 69) hx hb dX14_nextDocument_50 (by decide) ?_
                    obtain ⟨z_66, ez_66⟩ : ∃ y : Int32, y = v2_2 + 1 := ⟨_, rfl⟩
                    refine lv_iinc (v := z_66) (lv' := [(2, .int z_66), (3, .ref el_45), (0, .ref r0), (1, .ref nv_3)]) hx hb dX14_nextDocument_69 hl (k := 3) rfl (by rw [ez_66]; rfl) (by decide) rfl (fun ls hl => ?_)
                    have hz_66 : z_66.toInt = v2_2.toInt + 1 := by rw [ez_66]; exact jb_iadd2 (rfl) (by decide) (by omega)
                    refine lv_goto (tgt := 4) hx hb dX14_nextDocument_72 (by decide) ?_
                    exact L4 (some nv_3) z_66 _ _ (hh_48.sub (L1 := [(r0, 16, 41, .ref dd), (r0, 16, 42, .int dc), (r0, 16, 60, .ref co), (r0, 16, 61, .ref cs), (r0, 16, 46, .ref ol), (r0, 16, 47, .ref nw), (r0, 16, 71, .ref td)]) [4, 5, 6, 7, 8, 9, 10] rfl (M1 := [(cs, 207, 2, ca 1, fs)]) [2] rfl (I1 := [(jFs, jDY dC dI ca G0 none sn), (jF9, jVl dC dI G0 9 ck), ([(201, 0)], jQc dC dI (ca 4) dd 3 fd), ([(208, 0)], jQc dC dI (ca 4) co 2 fo)]) [0, 1, 2, 3] rfl) (Or.inr ⟨_, rfl, hg_nv_3, hp_nv_3⟩) (by first | omega | (refine ⟨?_, ?_⟩ <;> (first | omega | rfl | assumption | decide | exact Or.inl rfl | exact Or.inr rfl | (simp only; omega)))) (by omega) _ (lv_sub hl [2, 3, 0] rfl)
            · simp only [va_rf]
              refine lv_acmp_eq (rx := (some el_45)) (ry := (some el_52)) (tgt := 69) hx hb dX14_nextDocument_37 (by decide) (fun c_67 => ?_) (fun c_67 => ?_)
              · skip
                obtain ⟨z_68, ez_68⟩ : ∃ y : Int32, y = v2_2 + 1 := ⟨_, rfl⟩
                refine lv_iinc (v := z_68) (lv' := [(2, .int z_68), (3, .ref el_45), (0, .ref r0), (1, .ref nv_3)]) hx hb dX14_nextDocument_69 hl (k := 3) rfl (by rw [ez_68]; rfl) (by decide) rfl (fun ls hl => ?_)
                have hz_68 : z_68.toInt = v2_2.toInt + 1 := by rw [ez_68]; exact jb_iadd2 (rfl) (by decide) (by omega)
                refine lv_goto (tgt := 4) hx hb dX14_nextDocument_72 (by decide) ?_
                exact L4 (some nv_3) z_68 _ _ (hh_48.sub (L1 := [(r0, 16, 41, .ref dd), (r0, 16, 42, .int dc), (r0, 16, 60, .ref co), (r0, 16, 61, .ref cs), (r0, 16, 46, .ref ol), (r0, 16, 47, .ref nw), (r0, 16, 71, .ref td)]) [4, 5, 6, 7, 8, 9, 10] rfl (M1 := [(cs, 207, 2, ca 1, fs)]) [2] rfl (I1 := [(jFs, jDY dC dI ca G0 none sn), (jF9, jVl dC dI G0 9 ck), ([(201, 0)], jQc dC dI (ca 4) dd 3 fd), ([(208, 0)], jQc dC dI (ca 4) co 2 fo)]) [0, 1, 2, 3] rfl) (Or.inr ⟨_, rfl, hg_nv_3, hp_nv_3⟩) (by first | omega | (refine ⟨?_, ?_⟩ <;> (first | omega | rfl | assumption | decide | exact Or.inl rfl | exact Or.inr rfl | (simp only; omega)))) (by omega) _ (lv_sub hl [2, 3, 0] rfl)
              · skip
                refine lv_aload_n hx hb dX14_nextDocument_40 rfl (lv_at hl 0 rfl) ?_
                refine lv_aload_n hx hb dX14_nextDocument_41 rfl (lv_at hl 1 rfl) ?_
                refine j7_read hx hb hown hK (C := RX14) (T := TX14) (N := 74) rfl hly_16_60 hlk_129 (hh_48.at 6 rfl) dX14_nextDocument_42 ?_
                refine lv_iconst (v := 1) hx hb dX14_nextDocument_45 (by decide) ?_
                refine j7_qaldI hx hb hK2 hh_48 hB208 0 rfl (by decide) hg_co (x := 1) ((by decide)) (by omega) (hh_48.iv 3 rfl) dX14_nextDocument_46 (fun o_69 ho_69 heo_69 => ?_)
                rcases ho_69 with rfl | ⟨el_70, rfl, hg_el_70⟩
                · simp only [va_rf]
                  refine lv_acmp_ne (rx := (some el_45)) (ry := none) (tgt := 53) hx hb dX14_nextDocument_47 (by decide) (fun c_71 => ?_) (fun c_71 => ?_)
                  · skip
                    refine lv_aload_n hx hb dX14_nextDocument_53 rfl (lv_at hl 1 rfl) ?_
                    refine lv_aload_n hx hb dX14_nextDocument_54 rfl (lv_at hl 0 rfl) ?_
                    refine va_calli (A0 := jA base) (H0 := s.heap) (va_runV (As := [.ref el_45]) (rest := []) ⟨hx, hb, hml, hown, hts⟩ (uX14_isWaitedFor l dC dI ca base B hB hAp hB14 hB16 hB202 G0 H_2 r0 el_45) (cwV 1 hts (jgV (jWr_90 _ (List.mem_of_getElem? (i := 0) rfl)) (jWr_90 _ (List.mem_of_getElem? (i := 1) rfl)) (jWr_90 _ (List.mem_of_getElem? (i := 2) rfl)) (jWr_1 _ (List.mem_of_getElem? (i := 5) rfl)) (jWr_90 _ (List.mem_of_getElem? (i := 3) rfl))) rfl rfl rfl (by decide +kernel) ⟨by rw [← hR]; exact Nat.le_of_ble_eq_true rfl, by rw [← hR]; exact Nat.le_of_ble_eq_true rfl⟩) ⟨fun a U g mk q => by obtain ⟨q0, q1, q2, qK, q10, q11, q12, q13, q14⟩ := q; exact ⟨q0, q1, q2, jG.calling g mk a qK, (va_K.moved (Vm.Alike.refl U.vm) q10), q11, q12, q13, q14⟩, hh_48.recv (C := RX14) (T := TX14) (N := 74) hB16 rfl (by decide) hg_r0 hK, fun U hU hW => ⟨rfl, hU, hh_48.2.1, hG.step hW hU hh_48.1, va_K.moved hW.alike hK2, hg_el_45, hg_r0, jP.nil, trivial⟩⟩ rfl rfl hl.1 rfl (lv_room (Nat.le_of_ble_eq_true rfl)) dX14_nextDocument_55 ⟨Nat.zero_le _, Nat.zero_le _⟩) hh_48.1 (fun q _ h => h) (fun q h => h) (fun r_73 u_72 t_72 H_72 locs_72 ht_72 hvm_72 hr_73 hb_72 hz_72 hk_72 hS_72 => ?_)
                    rw [ht_72] at hb_72
                    obtain ⟨hb_721, hb_722, hb_723, hb_724, hb_725⟩ := hb_72
                    have hh_72 : jSt (dC, dI) B base G0 G0 EX14_nextDocumentK s.heap 0 0 [(el_45, 14, 9, .int (ck el_45)), (el_45, 14, 6, .ref yb_46), (el_45, 14, 7, .ref ye_46), (el_45, 14, 5, .int (sn el_45)), (r0, 16, 41, .ref dd), (r0, 16, 42, .int dc), (r0, 16, 60, .ref co), (r0, 16, 61, .ref cs), (r0, 16, 46, .ref ol), (r0, 16, 47, .ref nw), (r0, 16, 71, .ref td)] [(yb_46, 190, 40, ca 1, fb_46), (ye_46, 191, 40, ca 1, fe_46), (cs, 207, 2, ca 1, fs)] [(jFs, jDY dC dI ca G0 none sn), (jF9, jVl dC dI G0 9 ck), ([(201, 0)], jQc dC dI (ca 4) dd 3 fd), ([(208, 0)], jQc dC dI (ca 4) co 2 fo)] H_72 locs_72 := ((hh_48.call hb_721 hb_722 hb_723 hb_724 hS_72 rfl (L1 := [(el_45, 14, 9, .int (ck el_45)), (el_45, 14, 6, .ref yb_46), (el_45, 14, 7, .ref ye_46), (el_45, 14, 5, .int (sn el_45)), (r0, 16, 41, .ref dd), (r0, 16, 42, .int dc), (r0, 16, 60, .ref co), (r0, 16, 61, .ref cs), (r0, 16, 46, .ref ol), (r0, 16, 47, .ref nw), (r0, 16, 71, .ref td)]) [0, 1, 2, 3, 4, 5, 6, 7, 8, 9, 10] rfl rfl (M1 := [(yb_46, 190, 40, ca 1, fb_46), (ye_46, 191, 40, ca 1, fe_46), (cs, 207, 2, ca 1, fs)]) [0, 1, 2] rfl rfl (I1 := [(jFs, jDY dC dI ca G0 none sn), (jF9, jVl dC dI G0 9 ck), ([(201, 0)], jQc dC dI (ca 4) dd 3 fd), ([(208, 0)], jQc dC dI (ca 4) co 2 fo)]) [0, 1, 2, 3] rfl rfl).more hb_725)
                    clear hh_48 ht_72 hvm_72 hz_72 hk_72 hS_72 hb_721 hb_722 hb_723 hb_724 hb_725
                    obtain ⟨hr_73b, hr_73p⟩ := hr_73
                    have hr_73' := jb_01 hr_73b
                    refine lv_if_eq (tgt := 63) hx hb dX14_nextDocument_58 (by decide) (fun c_74 => ?_) (fun c_74 => ?_)
                    · skip
                      have c_74' : r_73.toInt = 0 := jb_eq (rfl) ((by decide)) c_74
                      refine lv_aload_n hx hb dX14_nextDocument_63 rfl (lv_at hl 2 rfl) ?_
                      refine lv_ifnonnull (tgt := 69) hx hb dX14_nextDocument_64 (by decide) ?_
                      obtain ⟨z_75, ez_75⟩ : ∃ y : Int32, y = v2_2 + 1 := ⟨_, rfl⟩
                      refine lv_iinc (v := z_75) (lv' := [(2, .int z_75), (3, .ref el_45), (0, .ref r0), (1, .ref nv_3)]) hx hb dX14_nextDocument_69 hl (k := 3) rfl (by rw [ez_75]; rfl) (by decide) rfl (fun ls hl => ?_)
                      have hz_75 : z_75.toInt = v2_2.toInt + 1 := by rw [ez_75]; exact jb_iadd2 (rfl) (by decide) (by omega)
                      refine lv_goto (tgt := 4) hx hb dX14_nextDocument_72 (by decide) ?_
                      exact L4 (some nv_3) z_75 _ _ (hh_72.sub (L1 := [(r0, 16, 41, .ref dd), (r0, 16, 42, .int dc), (r0, 16, 60, .ref co), (r0, 16, 61, .ref cs), (r0, 16, 46, .ref ol), (r0, 16, 47, .ref nw), (r0, 16, 71, .ref td)]) [4, 5, 6, 7, 8, 9, 10] rfl (M1 := [(cs, 207, 2, ca 1, fs)]) [2] rfl (I1 := [(jFs, jDY dC dI ca G0 none sn), (jF9, jVl dC dI G0 9 ck), ([(201, 0)], jQc dC dI (ca 4) dd 3 fd), ([(208, 0)], jQc dC dI (ca 4) co 2 fo)]) [0, 1, 2, 3] rfl) (Or.inr ⟨_, rfl, hg_nv_3, hp_nv_3⟩) (by first | omega | (refine ⟨?_, ?_⟩ <;> (first | omega | rfl | assumption | decide | exact Or.inl rfl | exact Or.inr rfl | (simp only; omega)))) (by omega) _ (lv_sub hl [2, 3, 0] rfl)
                    · skip
                      have c_74' : r_73.toInt ≠ 0 := jb_eq_n (rfl) ((by decide)) c_74
                      refine lv_aload_n hx hb dX14_nextDocument_61 rfl (lv_at hl 0 rfl) ?_
                      rw [hQ]
                      exact W.aret (v := .ref el_45) hx hb hr (Or.inl ⟨_, rfl⟩) (Or.inr ⟨_, rfl⟩) (fun t ht hW => ⟨⟨.ref el_45, (), rfl, Or.inr ⟨_, rfl, hg_el_45, ⟨v2_2.toInt.toNat, by omega, by omega, heo_44.symm, by omega⟩⟩, hh_72.rt (M1 := []) [] rfl ht⟩, by rw [ht]; try exact hh_72.1.1, fun q h9 hq => by rw [ht]; try exact hh_72.1.2.1 q h9 hq⟩) hh_72.1.2.2 dX14_nextDocument_62
                  · skip
                    cases c_71
                · simp only [va_rf]
                  refine lv_acmp_ne (rx := (some el_45)) (ry := (some el_70)) (tgt := 53) hx hb dX14_nextDocument_47 (by decide) (fun c_76 => ?_) (fun c_76 => ?_)
                  · skip
                    refine lv_aload_n hx hb dX14_nextDocument_53 rfl (lv_at hl 1 rfl) ?_
                    refine lv_aload_n hx hb dX14_nextDocument_54 rfl (lv_at hl 0 rfl) ?_
                    refine va_calli (A0 := jA base) (H0 := s.heap) (va_runV (As := [.ref el_45]) (rest := []) ⟨hx, hb, hml, hown, hts⟩ (uX14_isWaitedFor l dC dI ca base B hB hAp hB14 hB16 hB202 G0 H_2 r0 el_45) (cwV 1 hts (jgV (jWr_90 _ (List.mem_of_getElem? (i := 0) rfl)) (jWr_90 _ (List.mem_of_getElem? (i := 1) rfl)) (jWr_90 _ (List.mem_of_getElem? (i := 2) rfl)) (jWr_1 _ (List.mem_of_getElem? (i := 5) rfl)) (jWr_90 _ (List.mem_of_getElem? (i := 3) rfl))) rfl rfl rfl (by decide +kernel) ⟨by rw [← hR]; exact Nat.le_of_ble_eq_true rfl, by rw [← hR]; exact Nat.le_of_ble_eq_true rfl⟩) ⟨fun a U g mk q => by obtain ⟨q0, q1, q2, qK, q10, q11, q12, q13, q14⟩ := q; exact ⟨q0, q1, q2, jG.calling g mk a qK, (va_K.moved (Vm.Alike.refl U.vm) q10), q11, q12, q13, q14⟩, hh_48.recv (C := RX14) (T := TX14) (N := 74) hB16 rfl (by decide) hg_r0 hK, fun U hU hW => ⟨rfl, hU, hh_48.2.1, hG.step hW hU hh_48.1, va_K.moved hW.alike hK2, hg_el_45, hg_r0, jP.nil, trivial⟩⟩ rfl rfl hl.1 rfl (lv_room (Nat.le_of_ble_eq_true rfl)) dX14_nextDocument_55 ⟨Nat.zero_le _, Nat.zero_le _⟩) hh_48.1 (fun q _ h => h) (fun q h => h) (fun r_78 u_77 t_77 H_77 locs_77 ht_77 hvm_77 hr_78 hb_77 hz_77 hk_77 hS_77 => ?_)
                    rw [ht_77] at hb_77
                    obtain ⟨hb_771, hb_772, hb_773, hb_774, hb_775⟩ := hb_77
                    have hh_77 : jSt (dC, dI) B base G0 G0 EX14_nextDocumentK s.heap 0 0 [(el_45, 14, 9, .int (ck el_45)), (el_45, 14, 6, .ref yb_46), (el_45, 14, 7, .ref ye_46), (el_45, 14, 5, .int (sn el_45)), (r0, 16, 41, .ref dd), (r0, 16, 42, .int dc), (r0, 16, 60, .ref co), (r0, 16, 61, .ref cs), (r0, 16, 46, .ref ol), (r0, 16, 47, .ref nw), (r0, 16, 71, .ref td)] [(yb_46, 190, 40, ca 1, fb_46), (ye_46, 191, 40, ca 1, fe_46), (cs, 207, 2, ca 1, fs)] [(jFs, jDY dC dI ca G0 none sn), (jF9, jVl dC dI G0 9 ck), ([(201, 0)], jQc dC dI (ca 4) dd 3 fd), ([(208, 0)], jQc dC dI (ca 4) co 2 fo)] H_77 locs_77 := ((hh_48.call hb_771 hb_772 hb_773 hb_774 hS_77 rfl (L1 := [(el_45, 14, 9, .int (ck el_45)), (el_45, 14, 6, .ref yb_46), (el_45, 14, 7, .ref ye_46), (el_45, 14, 5, .int (sn el_45)), (r0, 16, 41, .ref dd), (r0, 16, 42, .int dc), (r0, 16, 60, .ref co), (r0, 16, 61, .ref cs), (r0, 16, 46, .ref ol), (r0, 16, 47, .ref nw), (r0, 16, 71, .ref td)]) [0, 1, 2, 3, 4, 5, 6, 7, 8, 9, 10] rfl rfl (M1 := [(yb_46, 190, 40, ca 1, fb_46), (ye_46, 191, 40, ca 1, fe_46), (cs, 207, 2, ca 1, fs)]) [0, 1, 2] rfl rfl (I1 := [(jFs, jDY dC dI ca G0 none sn), (jF9, jVl dC dI G0 9 ck), ([(201, 0)], jQc dC dI (ca 4) dd 3 fd), ([(208, 0)], jQc dC dI (ca 4) co 2 fo)]) [0, 1, 2, 3] rfl rfl).more hb_775)
                    clear hh_48 ht_77 hvm_77 hz_77 hk_77 hS_77 hb_771 hb_772 hb_773 hb_774 hb_775
                    obtain ⟨hr_78b, hr_78p⟩ := hr_78
                    have hr_78' := jb_01 hr_78b
                    refine lv_if_eq (tgt := 63) hx hb dX14_nextDocument_58 (by decide) (fun c_79 => ?_) (fun c_79 => ?_)
                    · skip
                      have c_79' : r_78.toInt = 0 := jb_eq (rfl) ((by decide)) c_79
                      refine lv_aload_n hx hb dX14_nextDocument_63 rfl (lv_at hl 2 rfl) ?_
                      refine lv_ifnonnull (tgt := 69) hx hb dX14_nextDocument_64 (by decide) ?_
                      obtain ⟨z_80, ez_80⟩ : ∃ y : Int32, y = v2_2 + 1 := ⟨_, rfl⟩
                      refine lv_iinc (v := z_80) (lv' := [(2, .int z_80), (3, .ref el_45), (0, .ref r0), (1, .ref nv_3)]) hx hb dX14_nextDocument_69 hl (k := 3) rfl (by rw [ez_80]; rfl) (by decide) rfl (fun ls hl => ?_)
                      have hz_80 : z_80.toInt = v2_2.toInt + 1 := by rw [ez_80]; exact jb_iadd2 (rfl) (by decide) (by omega)
                      refine lv_goto (tgt := 4) hx hb dX14_nextDocument_72 (by decide) ?_
                      exact L4 (some nv_3) z_80 _ _ (hh_77.sub (L1 := [(r0, 16, 41, .ref dd), (r0, 16, 42, .int dc), (r0, 16, 60, .ref co), (r0, 16, 61, .ref cs), (r0, 16, 46, .ref ol), (r0, 16, 47, .ref nw), (r0, 16, 71, .ref td)]) [4, 5, 6, 7, 8, 9, 10] rfl (M1 := [(cs, 207, 2, ca 1, fs)]) [2] rfl (I1 := [(jFs, jDY dC dI ca G0 none sn), (jF9, jVl dC dI G0 9 ck), ([(201, 0)], jQc dC dI (ca 4) dd 3 fd), ([(208, 0)], jQc dC dI (ca 4) co 2 fo)]) [0, 1, 2, 3] rfl) (Or.inr ⟨_, rfl, hg_nv_3, hp_nv_3⟩) (by first | omega | (refine ⟨?_, ?_⟩ <;> (first | omega | rfl | assumption | decide | exact Or.inl rfl | exact Or.inr rfl | (simp only; omega)))) (by omega) _ (lv_sub hl [2, 3, 0] rfl)
                    · skip
                      have c_79' : r_78.toInt ≠ 0 := jb_eq_n (rfl) ((by decide)) c_79
                      refine lv_aload_n hx hb dX14_nextDocument_61 rfl (lv_at hl 0 rfl) ?_
                      rw [hQ]
                      exact W.aret (v := .ref el_45) hx hb hr (Or.inl ⟨_, rfl⟩) (Or.inr ⟨_, rfl⟩) (fun t ht hW => ⟨⟨.ref el_45, (), rfl, Or.inr ⟨_, rfl, hg_el_45, ⟨v2_2.toInt.toNat, by omega, by omega, heo_44.symm, by omega⟩⟩, hh_77.rt (M1 := []) [] rfl ht⟩, by rw [ht]; try exact hh_77.1.1, fun q h9 hq => by rw [ht]; try exact hh_77.1.2.1 q h9 hq⟩) hh_77.1.2.2 dX14_nextDocument_62
                  · skip
                    refine lv_goto (tgt := 69) hx hb dX14_nextDocument_50 (by decide) ?_
                    obtain ⟨z_81, ez_81⟩ : ∃ y : Int32, y = v2_2 + 1 := ⟨_, rfl⟩
                    refine lv_iinc (v := z_81) (lv' := [(2, .int z_81), (3, .ref el_45), (0, .ref r0), (1, .ref nv_3)]) hx hb dX14_nextDocument_69 hl (k := 3) rfl (by rw [ez_81]; rfl) (by decide) rfl (fun ls hl => ?_)
                    have hz_81 : z_81.toInt = v2_2.toInt + 1 := by rw [ez_81]; exact jb_iadd2 (rfl) (by decide) (by omega)
                    refine lv_goto (tgt := 4) hx hb dX14_nextDocument_72 (by decide) ?_
                    exact L4 (some nv_3) z_81 _ _ (hh_48.sub (L1 := [(r0, 16, 41, .ref dd), (r0, 16, 42, .int dc), (r0, 16, 60, .ref co), (r0, 16, 61, .ref cs), (r0, 16, 46, .ref ol), (r0, 16, 47, .ref nw), (r0, 16, 71, .ref td)]) [4, 5, 6, 7, 8, 9, 10] rfl (M1 := [(cs, 207, 2, ca 1, fs)]) [2] rfl (I1 := [(jFs, jDY dC dI ca G0 none sn), (jF9, jVl dC dI G0 9 ck), ([(201, 0)], jQc dC dI (ca 4) dd 3 fd), ([(208, 0)], jQc dC dI (ca 4) co 2 fo)]) [0, 1, 2, 3] rfl) (Or.inr ⟨_, rfl, hg_nv_3, hp_nv_3⟩) (by first | omega | (refine ⟨?_, ?_⟩ <;> (first | omega | rfl | assumption | decide | exact Or.inl rfl | exact Or.inr rfl | (simp only; omega)))) (by omega) _ (lv_sub hl [2, 3, 0] rfl)
  exact L4 (dc.toInt - (0 : Int32).toInt : Int).toNat.succ none 0 _ _ hh (Or.inl rfl) (by first | omega | (refine ⟨?_, ?_⟩ <;> (first | omega | rfl | assumption | decide | exact Or.inl rfl | exact Or.inr rfl | (simp only; omega)))) (by omega) _ (lv_sub hl [2, 1, 0] rfl)
set_option maxHeartbeats 4000000 in
set_option maxRecDepth 20000 in
theorem uX14_sentence (l : Launch) (dC : Nat → ClassId) (dI : Nat → Nat → Nat) (ca : Nat → ClassId) (base : Nat) (B : jF) (hB : jBok B) (hAp : jAp (dC, dI)) (hB14 : ∀ n G a H, B 14 n G a H ↔ jOb (dC, dI) 14 11 (F14 n G) a H) (hB15 : ∀ n G a H, B 15 n G a H ↔ jOb (dC, dI) 15 50 (F15 n G) a H) (hB16 : ∀ n G a H, B 16 n G a H ↔ jOb (dC, dI) 16 74 (F16 n G) a H) (hB101 : ∀ n G a H, B 101 n G a H ↔ jAr (dC, dI) (ca 1) (fun j z => True) n a H) (hB155 : ∀ n G a H, B 155 n G a H ↔ jAr (dC, dI) (ca 1) (fun j z => 0 ≤ z.toInt ∧ z.toInt ≤ 11990) n a H) (hB156 : ∀ n G a H, B 156 n G a H ↔ jAr (dC, dI) (ca 1) (fun j z => 0 ≤ z.toInt ∧ z.toInt ≤ 10) n a H) (hB157 : ∀ n G a H, B 157 n G a H ↔ jAr (dC, dI) (ca 1) (fun j z => 0 ≤ z.toInt ∧ z.toInt ≤ 1599) n a H) (hB166 : ∀ n G a H, B 166 n G a H ↔ jAr (dC, dI) (ca 1) (fun j z => True) n a H) (hB167 : ∀ n G a H, B 167 n G a H ↔ jAr (dC, dI) (ca 1) (fun j z => True) n a H) (hB190 : ∀ n G a H, B 190 n G a H ↔ jAr (dC, dI) (ca 1) (fun j z => 0 ≤ z.toInt ∧ z.toInt ≤ 1500) n a H) (hB191 : ∀ n G a H, B 191 n G a H ↔ jAr (dC, dI) (ca 1) (fun j z => 0 ≤ z.toInt ∧ z.toInt ≤ 1500) n a H) (hB192 : ∀ n G a H, B 192 n G a H ↔ jAr (dC, dI) (ca 1) (fun j z => 0 ≤ z.toInt ∧ z.toInt ≤ 2) n a H) (hB193 : ∀ n G a H, B 193 n G a H ↔ jAr (dC, dI) (ca 1) (fun j z => True) n a H) (hB201 : ∀ n G a H, B 201 n G a H ↔ jAq (dC, dI) (ca 4) (jQs 14 0) n G a H) (G0 : jT) (H0 : Heap) (r0 : Nat) (a1 : Int32) (a2 : Int32) (a3 : Int32) (dd : Nat) (dc : Int32) (co : Nat) (cs : Nat) (ol : Nat) (nw : Nat) (td : Nat) (sn ck : Nat → Int32) (fd fo : Nat → Option Nat) (fs : Nat → Int32) : Met l yX14_sentence (jw yX14_sentence cX14_sentence 5 (some .int)) ({ frames := 6, cells := 0, slots := 0, locals := 136 }) (va_Pc [.ref r0, .int a1, .int a2, .int a3] (fun U => U.heap = H0 ∧ jX B base G0 [] H0 ∧ jG dC dI ca base U ∧ jK2 dC dI ca U ∧ G0 r0 = some (16, 0) ∧ G0 dd = some (201, 3) ∧ G0 co = some (208, 2) ∧ G0 cs = some (207, 2) ∧ G0 ol = some (14, 0) ∧ G0 nw = some (14, 0) ∧ G0 td = some (14, 0) ∧ jP (dC, dI) G0 H0 [(r0, 16, 41, .ref dd), (r0, 16, 42, .int dc), (r0, 16, 60, .ref co), (r0, 16, 61, .ref cs), (r0, 16, 46, .ref ol), (r0, 16, 47, .ref nw), (r0, 16, 71, .ref td)] ∧ jMc (dC, dI) G0 H0 [(cs, 207, 2, ca 1, fs)] ∧ jIs (dC, dI) G0 H0 [(jFs, jDY dC dI ca G0 none sn), (jF9, jVl dC dI G0 9 ck), ([(201, 0)], jQc dC dI (ca 4) dd 3 fd), ([(208, 0)], jQc dC dI (ca 4) co 2 fo)] ∧ jPu sn ck fd fo fs dc.toInt ol nw td)) (va_Qi (S := Unit) (fun r u => (True)) (fun u t => jRt (dC, dI) B base G0 EX14_sentence H0 [] t.heap) (jA base)) 0 0 (jA base) := by
  refine Met.ofW (cc := cX14_sentence) (maxL := 5) (ret := (some .int)) (by decide) rfl ?_
  intro p e s m args below meth c s₁ Bd hml hv
  obtain ⟨rfl, hH0, hX, hG, hK2, hg_r0, hg_dd, hg_co, hg_cs, hg_ol, hg_nw, hg_td, hP0, hM0, hI0, hp0⟩ := hv
  have hK := hG.1
  have hx := Bd.exec
  have hb := Bd.bytes
  have hr := Bd.returns
  have hts := atoms_spec (ws := (jw yX14_sentence cX14_sentence 5 (some .int))) Bd.pre
  have htw : ∀ w ∈ jWl, w.before _ s = true := fun w h => hts w (List.mem_cons_of_mem _ h)
  have hown : s.vm.findClass RX14 = some m.cls := findClass_of_methodNamed Bd.named
  have hlocks := Bd.notSynchronized
  obtain ⟨Q, hQ⟩ : ∃ Q, Q = MQ below (va_Qi (S := Unit) (fun r u => (True)) (fun u t => jRt (dC, dI) B base G0 EX14_sentence H0 [] t.heap) (jA base)) ([.ref r0, .int a1, .int a2, .int a3] : List Value).toArray s 0 0 (jA base) := ⟨_, rfl⟩
  rw [← hQ]
  have hl := lv_entry ([.ref r0, .int a1, .int a2, .int a3]) (n := 5) (Nat.le_of_ble_eq_true rfl)
  rw [lg_entry_eq]
  generalize (lg_sl ([.ref r0, .int a1, .int a2, .int a3]) ++ List.replicate (5 - (lg_sl ([.ref r0, .int a1, .int a2, .int a3])).length) Slot.unset).toArray = ls at hl ⊢
  have hl : lv_has ls 5 [(0, .ref r0), (1, .int a1), (2, .int a2), (3, .int a3)] := hl
  generalize hR : (headSpec (jw yX14_sentence cX14_sentence 5 (some .int)) ({ frames := 6, cells := 0, slots := 0, locals := 136 })).room = R
  subst hH0
  have hh : jSt (dC, dI) B base G0 G0 EX14_sentence s.heap 0 0 [(r0, 16, 41, .ref dd), (r0, 16, 42, .int dc), (r0, 16, 60, .ref co), (r0, 16, 61, .ref cs), (r0, 16, 46, .ref ol), (r0, 16, 47, .ref nw), (r0, 16, 71, .ref td)] [(cs, 207, 2, ca 1, fs)] [(jFs, jDY dC dI ca G0 none sn), (jF9, jVl dC dI G0 9 ck), ([(201, 0)], jQc dC dI (ca 4) dd 3 fd), ([(208, 0)], jQc dC dI (ca 4) co 2 fo)] s.heap [] := jSt.start hX hP0 hM0 hI0
  clear hX hP0
  have hkm1 : ((-1) : Int32).toInt = (-1) := by decide
  have hk0 : (0 : Int32).toInt = 0 := by decide
  have hk1 : (1 : Int32).toInt = 1 := by decide
  have hly_14_5 := htw (u_lay RX12 TX12 5) (jWc_wsX120 _ (u_in_lay (by decide)))
  have hly_14_6 := htw (u_lay RX12 TX12 6) (jWc_wsX120 _ (u_in_lay (by decide)))
  have hly_14_7 := htw (u_lay RX12 TX12 7) (jWc_wsX120 _ (u_in_lay (by decide)))
  have hly_14_9 := htw (u_lay RX12 TX12 9) (jWc_wsX120 _ (u_in_lay (by decide)))
  have hly_14_10 := htw (u_lay RX12 TX12 10) (jWc_wsX120 _ (u_in_lay (by decide)))
  have hly_16_41 := htw (u_lay RX14 TX14 41) (jWc_wsX140 _ (u_in_lay (by decide)))
  have hly_16_42 := htw (u_lay RX14 TX14 42) (jWc_wsX140 _ (u_in_lay (by decide)))
  have hlk_505 := (htw (.fieldLink RX14 505 "ProofServerModel" "documentCount" "I") (jWr_57 _ (List.mem_of_getElem? (i := 5) rfl)))
  have hlk_74 := (htw (.fieldLink RX14 74 "ProofServerModel" "documents" "[LProofServerModel$Document;") (jWr_11 _ (List.mem_of_getElem? (i := 19) rfl)))
  have hlk_587 := (va_Nw.use (A := ([.ref r0, .int a1, .int a2, .int a3] : List Value).toArray) rfl (hG.2.1 RX14 587 "ProofServerModel$Document" "sentences" "I" "ProofServerModel" (List.mem_of_getElem? (i := 1737) (by decide +kernel))))
  have hlk_596 := (va_Nw.use (A := ([.ref r0, .int a1, .int a2, .int a3] : List Value).toArray) rfl (hG.2.1 RX14 596 "ProofServerModel$Document" "begin" "[I" "ProofServerModel" (List.mem_of_getElem? (i := 1739) (by decide +kernel))))
  have hlk_594 := (va_Nw.use (A := ([.ref r0, .int a1, .int a2, .int a3] : List Value).toArray) rfl (hG.2.1 RX14 594 "ProofServerModel$Document" "end" "[I" "ProofServerModel" (List.mem_of_getElem? (i := 1741) (by decide +kernel))))
  have hlk_531 := (va_Nw.use (A := ([.ref r0, .int a1, .int a2, .int a3] : List Value).toArray) rfl (hG.2.1 RX14 531 "ProofServerModel$Document" "checked" "I" "ProofServerModel" (List.mem_of_getElem? (i := 1744) (by decide +kernel))))
  have hlk_751 := (va_Nw.use (A := ([.ref r0, .int a1, .int a2, .int a3] : List Value).toArray) rfl (hG.2.1 RX14 751 "ProofServerModel$Document" "fault" "[I" "ProofServerModel" (List.mem_of_getElem? (i := 1746) (by decide +kernel))))
  have hrg_a1 := jb_rng a1
  have hrg_a2 := jb_rng a2
  have hrg_a3 := jb_rng a3
  obtain ⟨sx_1, esx_1, hsx_1⟩ := hh.sat (C := RX14) (T := TX14) (N := 74) hB16 rfl (by decide) hg_r0 (i := 42) (by decide) rfl 1 rfl
  cases esx_1
  refine lv_iload_n hx hb dX14_sentence_0 rfl (lv_at hl 1 rfl) ?_
  refine lv_if_lt (tgt := 29) hx hb dX14_sentence_1 (by decide) (fun c_2 => ?_) (fun c_2 => ?_)
  · skip
    have c_2' : a1.toInt < 0 := jb_lt (rfl) ((by decide)) c_2
    refine lv_iconst (v := (-1)) hx hb dX14_sentence_29 (by decide) ?_
    rw [hQ]
    exact W.iret (v := (-1)) hx hb hr (fun t ht hW => ⟨⟨(-1), (), rfl, trivial, hh.rt (M1 := []) [] rfl ht⟩, by rw [ht]; try exact hh.1.1, fun q h9 hq => by rw [ht]; try exact hh.1.2.1 q h9 hq⟩) hh.1.2.2 dX14_sentence_30
  · skip
    have c_2' : a1.toInt ≥ 0 := jb_lt_n (rfl) ((by decide)) c_2
    refine lv_iload_n hx hb dX14_sentence_4 rfl (lv_at hl 1 rfl) ?_
    refine lv_aload_n hx hb dX14_sentence_5 rfl (lv_at hl 0 rfl) ?_
    refine j7_read hx hb hown hK (C := RX14) (T := TX14) (N := 74) rfl hly_16_42 hlk_505 (hh.at 1 rfl) dX14_sentence_6 ?_
    refine lv_icmp_ge (tgt := 29) hx hb dX14_sentence_9 (by decide) (fun c_3 => ?_) (fun c_3 => ?_)
    · skip
      have c_3' : a1.toInt ≥ dc.toInt := jb_ge (rfl) (rfl) c_3
      refine lv_iconst (v := (-1)) hx hb dX14_sentence_29 (by decide) ?_
      rw [hQ]
      exact W.iret (v := (-1)) hx hb hr (fun t ht hW => ⟨⟨(-1), (), rfl, trivial, hh.rt (M1 := []) [] rfl ht⟩, by rw [ht]; try exact hh.1.1, fun q h9 hq => by rw [ht]; try exact hh.1.2.1 q h9 hq⟩) hh.1.2.2 dX14_sentence_30
    · skip
      have c_3' : a1.toInt < dc.toInt := jb_ge_n (rfl) (rfl) c_3
      refine lv_iload_n hx hb dX14_sentence_12 rfl (lv_at hl 2 rfl) ?_
      refine lv_if_lt (tgt := 29) hx hb dX14_sentence_13 (by decide) (fun c_4 => ?_) (fun c_4 => ?_)
      · skip
        have c_4' : a2.toInt < 0 := jb_lt (rfl) ((by decide)) c_4
        refine lv_iconst (v := (-1)) hx hb dX14_sentence_29 (by decide) ?_
        rw [hQ]
        exact W.iret (v := (-1)) hx hb hr (fun t ht hW => ⟨⟨(-1), (), rfl, trivial, hh.rt (M1 := []) [] rfl ht⟩, by rw [ht]; try exact hh.1.1, fun q h9 hq => by rw [ht]; try exact hh.1.2.1 q h9 hq⟩) hh.1.2.2 dX14_sentence_30
      · skip
        have c_4' : a2.toInt ≥ 0 := jb_lt_n (rfl) ((by decide)) c_4
        refine lv_iload_n hx hb dX14_sentence_16 rfl (lv_at hl 2 rfl) ?_
        refine lv_aload_n hx hb dX14_sentence_17 rfl (lv_at hl 0 rfl) ?_
        refine j7_read hx hb hown hK (C := RX14) (T := TX14) (N := 74) rfl hly_16_41 hlk_74 (hh.at 0 rfl) dX14_sentence_18 ?_
        refine lv_iload_n hx hb dX14_sentence_21 rfl (lv_at hl 1 rfl) ?_
        refine j7_qaldI hx hb hK2 hh hB201 0 rfl (by decide) hg_dd (x := a1.toInt) (rfl) (by omega) (hh.iv 2 rfl) dX14_sentence_22 (fun o_5 ho_5 heo_5 => ?_)
        obtain ⟨el_6, rfl, hg_el_6⟩ := ho_5
        simp only [va_rf]
        obtain ⟨yb_7, ye_7, fb_7, fe_7, hg_yb_7, hg_ye_7, hP_7, hM_7, hs_7, h0_7, h4_7⟩ := jDY.at (hh.iv 0 rfl) hg_el_6 (fun q => by cases q)
        have hh_8 := (hh.more hP_7).moreM hM_7
        clear hh hP_7 hM_7
        have hh_9 := hh_8.more (jVl.at (hh_8.iv 1 rfl) hg_el_6)
        clear hh_8
        refine j7_readN hx hb hown hK (C := RX12) (T := TX12) (N := 11) rfl hly_14_5 hlk_587 (hh_9.at 3 rfl) dX14_sentence_23 ?_
        refine lv_icmp_lt (tgt := 31) hx hb dX14_sentence_26 (by decide) (fun c_10 => ?_) (fun c_10 => ?_)
        · skip
          have c_10' : a2.toInt < (sn el_6).toInt := jb_lt (rfl) (rfl) c_10
          refine lv_aload_n hx hb dX14_sentence_31 rfl (lv_at hl 0 rfl) ?_
          refine j7_read hx hb hown hK (C := RX14) (T := TX14) (N := 74) rfl hly_16_41 hlk_74 (hh_9.at 4 rfl) dX14_sentence_32 ?_
          refine lv_iload_n hx hb dX14_sentence_35 rfl (lv_at hl 1 rfl) ?_
          refine j7_qaldI hx hb hK2 hh_9 hB201 0 rfl (by decide) hg_dd (x := a1.toInt) (rfl) (by omega) (hh_9.iv 2 rfl) dX14_sentence_36 (fun o_11 ho_11 heo_11 => ?_)
          obtain ⟨el_12, rfl, hg_el_12⟩ := ho_11
          simp only [va_rf]
          obtain rfl : el_6 = el_12 := (Option.some.inj (heo_11.trans heo_5.symm)).symm
          refine lv_astore (lv' := [(4, .ref el_6), (0, .ref r0), (1, .int a1), (2, .int a2), (3, .int a3)]) hx hb dX14_sentence_37 hl (by decide) rfl (fun ls hl => ?_)
          refine lv_iload_n hx hb dX14_sentence_39 rfl (lv_at hl 4 rfl) ?_
          rcases (by omega : (a3.toInt < 0 ∨ 4 < a3.toInt) ∨ a3.toInt = 0 ∨ a3.toInt = 1 ∨ a3.toInt = 2 ∨ a3.toInt = 3 ∨ a3.toInt = 4) with c_13 | c_13 | c_13 | c_13 | c_13 | c_13
          · refine lv_tableOut (tgt := 136) hx hb dX14_sentence_40 c_13 (by decide) ?_
            refine lv_iconst (v := (-1)) hx hb dX14_sentence_136 (by decide) ?_
            rw [hQ]
            exact W.iret (v := (-1)) hx hb hr (fun t ht hW => ⟨⟨(-1), (), rfl, trivial, hh_9.rt (M1 := []) [] rfl ht⟩, by rw [ht]; try exact hh_9.1.1, fun q h9 hq => by rw [ht]; try exact hh_9.1.2.1 q h9 hq⟩) hh_9.1.2.2 dX14_sentence_137
          · refine lv_tableIn (off := 36) (tgt := 76) hx hb dX14_sentence_40 (by omega) (by omega) (by rw [c_13]; rfl) (by decide) ?_
            refine lv_aload hx hb dX14_sentence_76 (lv_at hl 0 rfl) ?_
            refine j7_readN hx hb hown hK (C := RX12) (T := TX12) (N := 11) rfl hly_14_6 hlk_596 (hh_9.at 1 rfl) dX14_sentence_78 ?_
            refine lv_iload_n hx hb dX14_sentence_81 rfl (lv_at hl 3 rfl) ?_
            refine j7_ialdM hx hb hK hh_9 hB190 1 rfl (by decide) hg_yb_7 (x := a2.toInt) (rfl) (by omega) (j := 0) rfl dX14_sentence_82 (fun z_14 ez_14 (hz_14 : 0 ≤ z_14.toInt ∧ z_14.toInt ≤ 1500) => ?_)
            have hqz_14 : z_14.toInt = jSo fb_7 (a2.toInt) := by unfold jSo; rw [ez_14]
            rw [hQ]
            exact W.iret (v := z_14) hx hb hr (fun t ht hW => ⟨⟨z_14, (), rfl, trivial, hh_9.rt (M1 := []) [] rfl ht⟩, by rw [ht]; try exact hh_9.1.1, fun q h9 hq => by rw [ht]; try exact hh_9.1.2.1 q h9 hq⟩) hh_9.1.2.2 dX14_sentence_83
          · refine lv_tableIn (off := 44) (tgt := 84) hx hb dX14_sentence_40 (by omega) (by omega) (by rw [c_13]; rfl) (by decide) ?_
            refine lv_aload hx hb dX14_sentence_84 (lv_at hl 0 rfl) ?_
            refine j7_readN hx hb hown hK (C := RX12) (T := TX12) (N := 11) rfl hly_14_7 hlk_594 (hh_9.at 2 rfl) dX14_sentence_86 ?_
            refine lv_iload_n hx hb dX14_sentence_89 rfl (lv_at hl 3 rfl) ?_
            refine j7_ialdM hx hb hK hh_9 hB191 1 rfl (by decide) hg_ye_7 (x := a2.toInt) (rfl) (by omega) (j := 1) rfl dX14_sentence_90 (fun z_15 ez_15 (hz_15 : 0 ≤ z_15.toInt ∧ z_15.toInt ≤ 1500) => ?_)
            have hqz_15 : z_15.toInt = jSo fe_7 (a2.toInt) := by unfold jSo; rw [ez_15]
            rw [hQ]
            exact W.iret (v := z_15) hx hb hr (fun t ht hW => ⟨⟨z_15, (), rfl, trivial, hh_9.rt (M1 := []) [] rfl ht⟩, by rw [ht]; try exact hh_9.1.1, fun q h9 hq => by rw [ht]; try exact hh_9.1.2.1 q h9 hq⟩) hh_9.1.2.2 dX14_sentence_91
          · refine lv_tableIn (off := 52) (tgt := 92) hx hb dX14_sentence_40 (by omega) (by omega) (by rw [c_13]; rfl) (by decide) ?_
            refine lv_iload_n hx hb dX14_sentence_92 rfl (lv_at hl 3 rfl) ?_
            refine lv_aload hx hb dX14_sentence_93 (lv_at hl 0 rfl) ?_
            refine j7_readN hx hb hown hK (C := RX12) (T := TX12) (N := 11) rfl hly_14_9 hlk_531 (hh_9.at 0 rfl) dX14_sentence_95 ?_
            refine lv_icmp_ge (tgt := 105) hx hb dX14_sentence_98 (by decide) (fun c_16 => ?_) (fun c_16 => ?_)
            · skip
              have c_16' : a2.toInt ≥ (ck el_6).toInt := jb_ge (rfl) (rfl) c_16
              refine lv_iconst (v := 0) hx hb dX14_sentence_105 (by decide) ?_
              rw [hQ]
              exact W.iret (v := 0) hx hb hr (fun t ht hW => ⟨⟨0, (), rfl, trivial, hh_9.rt (M1 := []) [] rfl ht⟩, by rw [ht]; try exact hh_9.1.1, fun q h9 hq => by rw [ht]; try exact hh_9.1.2.1 q h9 hq⟩) hh_9.1.2.2 dX14_sentence_106
            · skip
              have c_16' : a2.toInt < (ck el_6).toInt := jb_ge_n (rfl) (rfl) c_16
              refine lv_iconst (v := 1) hx hb dX14_sentence_101 (by decide) ?_
              refine lv_goto (tgt := 106) hx hb dX14_sentence_102 (by decide) ?_
              rw [hQ]
              exact W.iret (v := 1) hx hb hr (fun t ht hW => ⟨⟨1, (), rfl, trivial, hh_9.rt (M1 := []) [] rfl ht⟩, by rw [ht]; try exact hh_9.1.1, fun q h9 hq => by rw [ht]; try exact hh_9.1.2.1 q h9 hq⟩) hh_9.1.2.2 dX14_sentence_106
          · refine lv_tableIn (off := 67) (tgt := 107) hx hb dX14_sentence_40 (by omega) (by omega) (by rw [c_13]; rfl) (by decide) ?_
            refine lv_iload_n hx hb dX14_sentence_107 rfl (lv_at hl 3 rfl) ?_
            refine lv_aload hx hb dX14_sentence_108 (lv_at hl 0 rfl) ?_
            refine j7_readN hx hb hown hK (C := RX12) (T := TX12) (N := 11) rfl hly_14_9 hlk_531 (hh_9.at 0 rfl) dX14_sentence_110 ?_
            refine lv_icmp_ge (tgt := 126) hx hb dX14_sentence_113 (by decide) (fun c_17 => ?_) (fun c_17 => ?_)
            · skip
              have c_17' : a2.toInt ≥ (ck el_6).toInt := jb_ge (rfl) (rfl) c_17
              refine lv_iconst (v := (-1)) hx hb dX14_sentence_126 (by decide) ?_
              rw [hQ]
              exact W.iret (v := (-1)) hx hb hr (fun t ht hW => ⟨⟨(-1), (), rfl, trivial, hh_9.rt (M1 := []) [] rfl ht⟩, by rw [ht]; try exact hh_9.1.1, fun q h9 hq => by rw [ht]; try exact hh_9.1.2.1 q h9 hq⟩) hh_9.1.2.2 dX14_sentence_127
            · skip
              have c_17' : a2.toInt < (ck el_6).toInt := jb_ge_n (rfl) (rfl) c_17
              refine lv_aload hx hb dX14_sentence_116 (lv_at hl 0 rfl) ?_
              obtain ⟨v_18, hv_18, hh_19⟩ := hh_9.pin (C := RX12) (T := TX12) (N := 11) hB14 rfl (by decide) hg_el_6 (i := 10) (by decide) rfl
              clear hh_9
              obtain ⟨fault_20, rfl, hg_fault_20⟩ := hv_18
              refine j7_readN hx hb hown hK (C := RX12) (T := TX12) (N := 11) rfl hly_14_10 hlk_751 (hh_19.at 0 rfl) dX14_sentence_118 ?_
              refine lv_iload_n hx hb dX14_sentence_121 rfl (lv_at hl 3 rfl) ?_
              refine j7_iald hx hb hK hh_19 hB193 1 rfl (by decide) hg_fault_20 (x := a2.toInt) (rfl) (by omega) dX14_sentence_122 (fun z_21 (hz_21 : True) => ?_)
              refine lv_goto (tgt := 127) hx hb dX14_sentence_123 (by decide) ?_
              rw [hQ]
              exact W.iret (v := z_21) hx hb hr (fun t ht hW => ⟨⟨z_21, (), rfl, trivial, hh_19.rt (M1 := []) [] rfl ht⟩, by rw [ht]; try exact hh_19.1.1, fun q h9 hq => by rw [ht]; try exact hh_19.1.2.1 q h9 hq⟩) hh_19.1.2.2 dX14_sentence_127
          · refine lv_tableIn (off := 88) (tgt := 128) hx hb dX14_sentence_40 (by omega) (by omega) (by rw [c_13]; rfl) (by decide) ?_
            refine lv_aload_n hx hb dX14_sentence_128 rfl (lv_at hl 1 rfl) ?_
            refine lv_aload hx hb dX14_sentence_129 (lv_at hl 0 rfl) ?_
            refine lv_iload_n hx hb dX14_sentence_131 rfl (lv_at hl 3 rfl) ?_
            refine va_calli (A0 := jA base) (H0 := s.heap) (va_runV (As := [.ref el_6, .int a2]) (rest := []) ⟨hx, hb, hml, hown, hts⟩ (uX14_costOf l dC dI ca base B hB hAp hB14 hB15 hB16 hB101 hB155 hB156 hB157 hB166 hB167 hB190 hB191 hB192 G0 s.heap r0 el_6 a2 yb_7 ye_7 (sn el_6).toInt fb_7 fe_7) (cwV 2 hts (jgV (jWr_90 _ (List.mem_of_getElem? (i := 23) rfl)) (jWr_91 _ (List.mem_of_getElem? (i := 0) rfl)) (jWr_91 _ (List.mem_of_getElem? (i := 1) rfl)) (jWr_1 _ (List.mem_of_getElem? (i := 5) rfl)) (jWr_91 _ (List.mem_of_getElem? (i := 2) rfl))) rfl rfl rfl (by decide +kernel) ⟨by rw [← hR]; exact Nat.le_of_ble_eq_true rfl, by rw [← hR]; exact Nat.le_of_ble_eq_true rfl⟩) ⟨fun a U g mk q => by obtain ⟨q0, q1, q2, qK, q10, q11, q12, q13, q14, q15, q16⟩ := q; exact ⟨q0, q1, q2, jG.calling g mk a qK, q10, q11, q12, q13, q14, q15, q16⟩, hh_9.recv (C := RX14) (T := TX14) (N := 74) hB16 rfl (by decide) hg_r0 hK, fun U hU hW => ⟨rfl, hU, hh_9.2.1, hG.step hW hU hh_9.1, hg_el_6, hg_r0, hg_yb_7, hg_ye_7, (hh_9.2.2.1.sub (L1 := [(el_6, 14, 6, .ref yb_7), (el_6, 14, 7, .ref ye_7)]) [1, 2] rfl), (hh_9.2.2.2.2.2.2.2.1.sub (L1 := [(yb_7, 190, 40, ca 1, fb_7), (ye_7, 191, 40, ca 1, fe_7)]) [0, 1] rfl), by first | omega | (refine ⟨?_, ?_, ?_, ?_⟩ <;> (first | omega | rfl | assumption | decide | exact Or.inl rfl | exact Or.inr rfl | (simp only; omega)))⟩⟩ rfl rfl hl.1 rfl (lv_room (Nat.le_of_ble_eq_true rfl)) dX14_sentence_132 ⟨Nat.zero_le _, Nat.zero_le _⟩) hh_9.1 (fun q _ h => h) (fun q h => h) (fun r_23 u_22 t_22 H_22 locs_22 ht_22 hvm_22 hr_23 hb_22 hz_22 hk_22 hS_22 => ?_)
            rw [ht_22] at hb_22
            obtain ⟨hb_221, hb_222, hb_223, hb_224, hb_225⟩ := hb_22
            have hh_22 : jSt (dC, dI) B base G0 G0 EX14_sentence s.heap 0 0 [(el_6, 14, 9, .int (ck el_6)), (el_6, 14, 6, .ref yb_7), (el_6, 14, 7, .ref ye_7), (el_6, 14, 5, .int (sn el_6)), (r0, 16, 41, .ref dd), (r0, 16, 42, .int dc), (r0, 16, 60, .ref co), (r0, 16, 61, .ref cs), (r0, 16, 46, .ref ol), (r0, 16, 47, .ref nw), (r0, 16, 71, .ref td)] [(yb_7, 190, 40, ca 1, fb_7), (ye_7, 191, 40, ca 1, fe_7), (cs, 207, 2, ca 1, fs)] [(jFs, jDY dC dI ca G0 none sn), (jF9, jVl dC dI G0 9 ck), ([(201, 0)], jQc dC dI (ca 4) dd 3 fd), ([(208, 0)], jQc dC dI (ca 4) co 2 fo)] H_22 locs_22 := ((hh_9.call hb_221 hb_222 hb_223 hb_224 hS_22 rfl (L1 := [(el_6, 14, 9, .int (ck el_6)), (el_6, 14, 6, .ref yb_7), (el_6, 14, 7, .ref ye_7), (el_6, 14, 5, .int (sn el_6)), (r0, 16, 41, .ref dd), (r0, 16, 42, .int dc), (r0, 16, 60, .ref co), (r0, 16, 61, .ref cs), (r0, 16, 46, .ref ol), (r0, 16, 47, .ref nw), (r0, 16, 71, .ref td)]) [0, 1, 2, 3, 4, 5, 6, 7, 8, 9, 10] rfl rfl (M1 := [(yb_7, 190, 40, ca 1, fb_7), (ye_7, 191, 40, ca 1, fe_7), (cs, 207, 2, ca 1, fs)]) [0, 1, 2] rfl rfl (I1 := [(jFs, jDY dC dI ca G0 none sn), (jF9, jVl dC dI G0 9 ck), ([(201, 0)], jQc dC dI (ca 4) dd 3 fd), ([(208, 0)], jQc dC dI (ca 4) co 2 fo)]) [0, 1, 2, 3] rfl rfl).more hb_225)
            clear hh_9 ht_22 hvm_22 hz_22 hk_22 hS_22 hb_221 hb_222 hb_223 hb_224 hb_225
            rw [hQ]
            exact W.iret (v := r_23) hx hb hr (fun t ht hW => ⟨⟨r_23, (), rfl, trivial, hh_22.rt (M1 := []) [] rfl ht⟩, by rw [ht]; try exact hh_22.1.1, fun q h9 hq => by rw [ht]; try exact hh_22.1.2.1 q h9 hq⟩) hh_22.1.2.2 dX14_sentence_135
        · skip
          have c_10' : a2.toInt ≥ (sn el_6).toInt := jb_lt_n (rfl) (rfl) c_10
          refine lv_iconst (v := (-1)) hx hb dX14_sentence_29 (by decide) ?_
          rw [hQ]
          exact W.iret (v := (-1)) hx hb hr (fun t ht hW => ⟨⟨(-1), (), rfl, trivial, hh_9.rt (M1 := []) [] rfl ht⟩, by rw [ht]; try exact hh_9.1.1, fun q h9 hq => by rw [ht]; try exact hh_9.1.2.1 q h9 hq⟩) hh_9.1.2.2 dX14_sentence_30
