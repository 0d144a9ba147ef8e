theorem dX14_same_0 : decode cX14_same 0 = .ok (.aload_n 0, 1) := by decide +kernel
theorem dX14_same_1 : decode cX14_same 1 = .ok (.getfield 84, 3) := by decide +kernel
theorem dX14_same_4 : decode cX14_same 4 = .ok (.aload_n 1, 1) := by decide +kernel
theorem dX14_same_5 : decode cX14_same 5 = .ok (.getfield 526, 3) := by decide +kernel
theorem dX14_same_8 : decode cX14_same 8 = .ok (.putfield 526, 3) := by decide +kernel
theorem dX14_same_11 : decode cX14_same 11 = .ok (.iconst 0, 1) := by decide +kernel
theorem dX14_same_12 : decode cX14_same 12 = .ok (.istore_n 2, 1) := by decide +kernel
theorem dX14_same_13 : decode cX14_same 13 = .ok (.iload_n 2, 1) := by decide +kernel
theorem dX14_same_14 : decode cX14_same 14 = .ok (.aload_n 1, 1) := by decide +kernel
theorem dX14_same_15 : decode cX14_same 15 = .ok (.getfield 526, 3) := by decide +kernel
theorem dX14_same_18 : decode cX14_same 18 = .ok (.if_icmp .ge 24, 3) := by decide +kernel
theorem dX14_same_21 : decode cX14_same 21 = .ok (.aload_n 0, 1) := by decide +kernel
theorem dX14_same_22 : decode cX14_same 22 = .ok (.getfield 84, 3) := by decide +kernel
theorem dX14_same_25 : decode cX14_same 25 = .ok (.getfield 529, 3) := by decide +kernel
theorem dX14_same_28 : decode cX14_same 28 = .ok (.iload_n 2, 1) := by decide +kernel
theorem dX14_same_29 : decode cX14_same 29 = .ok (.aload_n 1, 1) := by decide +kernel
theorem dX14_same_30 : decode cX14_same 30 = .ok (.getfield 529, 3) := by decide +kernel
theorem dX14_same_33 : decode cX14_same 33 = .ok (.iload_n 2, 1) := by decide +kernel
theorem dX14_same_34 : decode cX14_same 34 = .ok (.iaload, 1) := by decide +kernel
theorem dX14_same_35 : decode cX14_same 35 = .ok (.iastore, 1) := by decide +kernel
theorem dX14_same_36 : decode cX14_same 36 = .ok (.iinc 2 1, 3) := by decide +kernel
theorem dX14_same_39 : decode cX14_same 39 = .ok (.goto (-26), 3) := by decide +kernel
theorem dX14_same_42 : decode cX14_same 42 = .ok (.aload_n 0, 1) := by decide +kernel
theorem dX14_same_43 : decode cX14_same 43 = .ok (.getfield 84, 3) := by decide +kernel
theorem dX14_same_46 : decode cX14_same 46 = .ok (.invokestatic 534, 3) := by decide +kernel
theorem dX14_same_49 : decode cX14_same 49 = .ok (.aload_n 0, 1) := by decide +kernel
theorem dX14_same_50 : decode cX14_same 50 = .ok (.getfield 88, 3) := by decide +kernel
theorem dX14_same_53 : decode cX14_same 53 = .ok (.aload_n 0, 1) := by decide +kernel
theorem dX14_same_54 : decode cX14_same 54 = .ok (.getfield 550, 3) := by decide +kernel
theorem dX14_same_57 : decode cX14_same 57 = .ok (.putfield 526, 3) := by decide +kernel
theorem dX14_same_60 : decode cX14_same 60 = .ok (.iconst 0, 1) := by decide +kernel
theorem dX14_same_61 : decode cX14_same 61 = .ok (.istore_n 2, 1) := by decide +kernel
theorem dX14_same_62 : decode cX14_same 62 = .ok (.iload_n 2, 1) := by decide +kernel
theorem dX14_same_63 : decode cX14_same 63 = .ok (.aload_n 0, 1) := by decide +kernel
theorem dX14_same_64 : decode cX14_same 64 = .ok (.getfield 550, 3) := by decide +kernel
theorem dX14_same_67 : decode cX14_same 67 = .ok (.if_icmp .ge 24, 3) := by decide +kernel
theorem dX14_same_70 : decode cX14_same 70 = .ok (.aload_n 0, 1) := by decide +kernel
theorem dX14_same_71 : decode cX14_same 71 = .ok (.getfield 88, 3) := by decide +kernel
theorem dX14_same_74 : decode cX14_same 74 = .ok (.getfield 529, 3) := by decide +kernel
theorem dX14_same_77 : decode cX14_same 77 = .ok (.iload_n 2, 1) := by decide +kernel
theorem dX14_same_78 : decode cX14_same 78 = .ok (.aload_n 0, 1) := by decide +kernel
theorem dX14_same_79 : decode cX14_same 79 = .ok (.getfield 78, 3) := by decide +kernel
theorem dX14_same_82 : decode cX14_same 82 = .ok (.iload_n 2, 1) := by decide +kernel
theorem dX14_same_83 : decode cX14_same 83 = .ok (.iaload, 1) := by decide +kernel
theorem dX14_same_84 : decode cX14_same 84 = .ok (.iastore, 1) := by decide +kernel
theorem dX14_same_85 : decode cX14_same 85 = .ok (.iinc 2 1, 3) := by decide +kernel
theorem dX14_same_88 : decode cX14_same 88 = .ok (.goto (-26), 3) := by decide +kernel
theorem dX14_same_91 : decode cX14_same 91 = .ok (.aload_n 0, 1) := by decide +kernel
theorem dX14_same_92 : decode cX14_same 92 = .ok (.getfield 88, 3) := by decide +kernel
theorem dX14_same_95 : decode cX14_same 95 = .ok (.invokestatic 534, 3) := by decide +kernel
theorem dX14_same_98 : decode cX14_same 98 = .ok (.iconst 0, 1) := by decide +kernel
theorem dX14_same_99 : decode cX14_same 99 = .ok (.istore_n 2, 1) := by decide +kernel
theorem dX14_same_100 : decode cX14_same 100 = .ok (.iload_n 2, 1) := by decide +kernel
theorem dX14_same_101 : decode cX14_same 101 = .ok (.aload_n 0, 1) := by decide +kernel
theorem dX14_same_102 : decode cX14_same 102 = .ok (.getfield 84, 3) := by decide +kernel
theorem dX14_same_105 : decode cX14_same 105 = .ok (.getfield 587, 3) := by decide +kernel
theorem dX14_same_108 : decode cX14_same 108 = .ok (.if_icmp .ge 36, 3) := by decide +kernel
theorem dX14_same_111 : decode cX14_same 111 = .ok (.iload_n 2, 1) := by decide +kernel
theorem dX14_same_112 : decode cX14_same 112 = .ok (.aload_n 0, 1) := by decide +kernel
theorem dX14_same_113 : decode cX14_same 113 = .ok (.getfield 88, 3) := by decide +kernel
theorem dX14_same_116 : decode cX14_same 116 = .ok (.getfield 587, 3) := by decide +kernel
theorem dX14_same_119 : decode cX14_same 119 = .ok (.if_icmp .ge 25, 3) := by decide +kernel
theorem dX14_same_122 : decode cX14_same 122 = .ok (.aload_n 0, 1) := by decide +kernel
theorem dX14_same_123 : decode cX14_same 123 = .ok (.getfield 84, 3) := by decide +kernel
theorem dX14_same_126 : decode cX14_same 126 = .ok (.iload_n 2, 1) := by decide +kernel
theorem dX14_same_127 : decode cX14_same 127 = .ok (.aload_n 0, 1) := by decide +kernel
theorem dX14_same_128 : decode cX14_same 128 = .ok (.getfield 88, 3) := by decide +kernel
theorem dX14_same_131 : decode cX14_same 131 = .ok (.iload_n 2, 1) := by decide +kernel
theorem dX14_same_132 : decode cX14_same 132 = .ok (.invokestatic 590, 3) := by decide +kernel
theorem dX14_same_135 : decode cX14_same 135 = .ok (.ifCond .eq 9, 3) := by decide +kernel
theorem dX14_same_138 : decode cX14_same 138 = .ok (.iinc 2 1, 3) := by decide +kernel
theorem dX14_same_141 : decode cX14_same 141 = .ok (.goto (-41), 3) := by decide +kernel
theorem dX14_same_144 : decode cX14_same 144 = .ok (.iload_n 2, 1) := by decide +kernel
theorem dX14_same_145 : decode cX14_same 145 = .ok (.ireturn, 1) := by decide +kernel
def EX14_same : List (Nat × Nat) := [(14, 4), (14, 5), (101, 0), (190, 0), (191, 0), (192, 0)]
set_option maxHeartbeats 4000000 in
set_option maxRecDepth 20000 in
theorem uX14_same (l : Launch) (dC : Nat → ClassId) (dI : Nat → Nat → Nat) (ca : Nat → ClassId) (base : Nat) (B : jF) (hB : jBok B) (hAp : jAp (dC, dI)) (hB14 : ∀ n G a H, B 14 n G a H ↔ jOb (dC, dI) 14 11 (F14 n G) a H) (hB16 : ∀ n G a H, B 16 n G a H ↔ jOb (dC, dI) 16 74 (F16 n G) a H) (hB101 : ∀ n G a H, B 101 n G a H ↔ jAr (dC, dI) (ca 1) (fun j z => True) n a H) (hB190 : ∀ n G a H, B 190 n G a H ↔ jAr (dC, dI) (ca 1) (fun j z => 0 ≤ z.toInt ∧ z.toInt ≤ 1500) n a H) (hB191 : ∀ n G a H, B 191 n G a H ↔ jAr (dC, dI) (ca 1) (fun j z => 0 ≤ z.toInt ∧ z.toInt ≤ 1500) n a H) (hB192 : ∀ n G a H, B 192 n G a H ↔ jAr (dC, dI) (ca 1) (fun j z => 0 ≤ z.toInt ∧ z.toInt ≤ 2) n a H) (G0 : jT) (H0 : Heap) (r0 : Nat) (r1 : Nat) (dd : Nat) (dc : Int32) (co : Nat) (cs : Nat) (ol : Nat) (nw : Nat) (td : Nat) (yg : Nat) (pu : Int32) (sn ck : Nat → Int32) (fd fo : Nat → Option Nat) (fg : Nat → Int32) (fs : Nat → Int32) : Met l yX14_same (jw yX14_same cX14_same 3 (some .int)) ({ frames := 4, cells := 0, slots := 0, locals := 94 }) (va_Pc [.ref r0, .ref r1] (fun U => U.heap = H0 ∧ jX B base G0 [] H0 ∧ jG dC dI ca base U ∧ G0 r1 = some (14, 0) ∧ G0 r0 = some (16, 0) ∧ G0 dd = some (201, 3) ∧ G0 co = some (208, 2) ∧ G0 cs = some (207, 2) ∧ G0 ol = some (14, 0) ∧ G0 nw = some (14, 0) ∧ G0 td = some (14, 0) ∧ G0 yg = some (101, 3100) ∧ jP (dC, dI) G0 H0 [(r0, 16, 41, .ref dd), (r0, 16, 42, .int dc), (r0, 16, 60, .ref co), (r0, 16, 61, .ref cs), (r0, 16, 46, .ref ol), (r0, 16, 47, .ref nw), (r0, 16, 71, .ref td), (r0, 16, 43, .ref yg), (r0, 16, 44, .int pu)] ∧ jMc (dC, dI) G0 H0 [(yg, 101, 3100, ca 1, fg), (cs, 207, 2, ca 1, fs)] ∧ jIs (dC, dI) G0 H0 [(jFs, jDY dC dI ca G0 none sn), (jF9, jVl dC dI G0 9 ck), ([(201, 0)], jQc dC dI (ca 4) dd 3 fd), ([(208, 0)], jQc dC dI (ca 4) co 2 fo)] ∧ jPu sn ck fd fo fs dc.toInt ol nw td ∧ 0 ≤ pu.toInt ∧ pu.toInt ≤ 1500)) (va_Qi (S := (Nat → Int32)) (fun r u => (0 ≤ r.toInt ∧ r.toInt ≤ jPar fg pu.toInt ∧ u = fg)) (fun u t => (jRt (dC, dI) B base G0 EX14_same H0 [] t.heap ∧ jMc (dC, dI) G0 t.heap [(yg, 101, 3100, ca 1, u)]) ∧ jDV dC dI ca G0 r0 dd co cs ol nw td t.heap) (jA base)) 0 0 (jA base) := by
  refine Met.ofW (cc := cX14_same) (maxL := 3) (ret := (some .int)) (by decide) rfl ?_
  intro p e s m args below meth c s₁ Bd hml hv
  obtain ⟨rfl, hH0, hX, hG, hg_r1, hg_r0, hg_dd, hg_co, hg_cs, hg_ol, hg_nw, hg_td, hg_yg, hP0, hM0, hI0, hp0, hp1, hp2⟩ := hv
  have hK := hG.1
  have hx := Bd.exec
  have hb := Bd.bytes
  have hr := Bd.returns
  have hts := atoms_spec (ws := (jw yX14_same cX14_same 3 (some .int))) Bd.pre
  have htw : ∀ w ∈ jWl, w.before _ s = true := fun w h => hts w (List.mem_cons_of_mem _ h)
  have hown : s.vm.findClass RX14 = some m.cls := findClass_of_methodNamed Bd.named
  have hlocks := Bd.notSynchronized
  obtain ⟨Q, hQ⟩ : ∃ Q, Q = MQ below (va_Qi (S := (Nat → Int32)) (fun r u => (0 ≤ r.toInt ∧ r.toInt ≤ jPar fg pu.toInt ∧ u = fg)) (fun u t => (jRt (dC, dI) B base G0 EX14_same H0 [] t.heap ∧ jMc (dC, dI) G0 t.heap [(yg, 101, 3100, ca 1, u)]) ∧ jDV dC dI ca G0 r0 dd co cs ol nw td t.heap) (jA base)) ([.ref r0, .ref r1] : List Value).toArray s 0 0 (jA base) := ⟨_, rfl⟩
  rw [← hQ]
  have hl := lv_entry ([.ref r0, .ref r1]) (n := 3) (Nat.le_of_ble_eq_true rfl)
  rw [lg_entry_eq]
  generalize (lg_sl ([.ref r0, .ref r1]) ++ List.replicate (3 - (lg_sl ([.ref r0, .ref r1])).length) Slot.unset).toArray = ls at hl ⊢
  have hl : lv_has ls 3 [(0, .ref r0), (1, .ref r1)] := hl
  generalize hR : (headSpec (jw yX14_same cX14_same 3 (some .int)) ({ frames := 4, cells := 0, slots := 0, locals := 94 })).room = R
  subst hH0
  have hh : jSt (dC, dI) B base G0 G0 EX14_same s.heap 0 0 [(r0, 16, 41, .ref dd), (r0, 16, 42, .int dc), (r0, 16, 60, .ref co), (r0, 16, 61, .ref cs), (r0, 16, 46, .ref ol), (r0, 16, 47, .ref nw), (r0, 16, 71, .ref td), (r0, 16, 43, .ref yg), (r0, 16, 44, .int pu)] [(yg, 101, 3100, ca 1, fg), (cs, 207, 2, ca 1, fs)] [(jFs, jDY dC dI ca G0 none sn), (jF9, jVl dC dI G0 9 ck), ([(201, 0)], jQc dC dI (ca 4) dd 3 fd), ([(208, 0)], jQc dC dI (ca 4) co 2 fo)] s.heap [] := jSt.start hX hP0 hM0 hI0
  clear hX hP0
  have hk0 : (0 : Int32).toInt = 0 := by decide
  have hk1 : (1 : Int32).toInt = 1 := by decide
  have hly_14_3 := htw (u_lay RX12 TX12 3) (jWc_wsX120 _ (u_in_lay (by decide)))
  have hly_14_4 := htw (u_lay RX12 TX12 4) (jWc_wsX120 _ (u_in_lay (by decide)))
  have hly_14_5 := htw (u_lay RX12 TX12 5) (jWc_wsX120 _ (u_in_lay (by decide)))
  have hly_16_43 := htw (u_lay RX14 TX14 43) (jWc_wsX140 _ (u_in_lay (by decide)))
  have hly_16_44 := htw (u_lay RX14 TX14 44) (jWc_wsX140 _ (u_in_lay (by decide)))
  have hly_16_46 := htw (u_lay RX14 TX14 46) (jWc_wsX140 _ (u_in_lay (by decide)))
  have hly_16_47 := htw (u_lay RX14 TX14 47) (jWc_wsX140 _ (u_in_lay (by decide)))
  have hlk_84 := (htw (.fieldLink RX14 84 "ProofServerModel" "old" "LProofServerModel$Document;") (jWr_11 _ (List.mem_of_getElem? (i := 22) rfl)))
  have hlk_526 := (va_Nw.use (A := ([.ref r0, .ref r1] : List Value).toArray) rfl (hG.2.1 RX14 526 "ProofServerModel$Document" "units" "I" "ProofServerModel" (List.mem_of_getElem? (i := 1736) (by decide +kernel))))
  have hlk_529 := (va_Nw.use (A := ([.ref r0, .ref r1] : List Value).toArray) rfl (hG.2.1 RX14 529 "ProofServerModel$Document" "text" "[I" "ProofServerModel" (List.mem_of_getElem? (i := 1735) (by decide +kernel))))
  have hlk_88 := (htw (.fieldLink RX14 88 "ProofServerModel" "now" "LProofServerModel$Document;") (jWr_11 _ (List.mem_of_getElem? (i := 23) rfl)))
  have hlk_550 := (htw (.fieldLink RX14 550 "ProofServerModel" "changedUnits" "I") (jWr_72 _ (List.mem_of_getElem? (i := 22) rfl)))
  have hlk_78 := (htw (.fieldLink RX14 78 "ProofServerModel" "changed" "[I") (jWr_11 _ (List.mem_of_getElem? (i := 20) rfl)))
  have hlk_587 := (va_Nw.use (A := ([.ref r0, .ref r1] : List Value).toArray) rfl (hG.2.1 RX14 587 "ProofServerModel$Document" "sentences" "I" "ProofServerModel" (List.mem_of_getElem? (i := 1737) (by decide +kernel))))
  refine lv_aload_n hx hb dX14_same_0 rfl (lv_at hl 0 rfl) ?_
  refine j7_read hx hb hown hK (C := RX14) (T := TX14) (N := 74) rfl hly_16_46 hlk_84 (hh.at 4 rfl) dX14_same_1 ?_
  refine lv_aload_n hx hb dX14_same_4 rfl (lv_at hl 1 rfl) ?_
  obtain ⟨v_1, hv_1, hh_2⟩ := hh.pin (C := RX12) (T := TX12) (N := 11) hB14 rfl (by decide) hg_r1 (i := 4) (by decide) rfl
  clear hh
  obtain ⟨units_3, rfl, hlounits_3, hhiunits_3⟩ := hv_1
  refine j7_readN hx hb hown hK (C := RX12) (T := TX12) (N := 11) rfl hly_14_4 hlk_526 (hh_2.at 0 rfl) dX14_same_5 ?_
  refine j7_putN hx hb hown hK hh_2 hB hAp hB14 (C := RX12) (T := TX12) (N := 11) rfl (by decide) hg_ol (i := 4) (by decide) hly_14_4 rfl hlk_526 rfl (ty := .int) (v := .int units_3) (by decide +kernel) rfl rfl (⟨_, rfl, by omega, by omega⟩) rfl (L1 := [(r0, 16, 41, .ref dd), (r0, 16, 42, .int dc), (r0, 16, 60, .ref co), (r0, 16, 61, .ref cs), (r0, 16, 46, .ref ol), (r0, 16, 47, .ref nw), (r0, 16, 71, .ref td), (r0, 16, 43, .ref yg), (r0, 16, 44, .int pu)]) [1, 2, 3, 4, 5, 6, 7, 8, 9] rfl rfl rfl dX14_same_8 (fun H_4 locs_4 hh_4 => ?_)
  clear hh_2
  refine lv_iconst (v := 0) hx hb dX14_same_11 (by decide) ?_
  refine lv_istore_n (lv' := [(2, .int 0), (0, .ref r0), (1, .ref r1)]) hx hb dX14_same_12 rfl hl (by decide) rfl (fun ls hl => ?_)
  have L13 : ∀ (N : Nat) (v2_5 : Int32) (H_5 : Heap) (locs_5 : List Loc), jSt (dC, dI) B base G0 G0 EX14_same s.heap 0 0 [(ol, 14, 4, .int units_3), (r0, 16, 41, .ref dd), (r0, 16, 42, .int dc), (r0, 16, 60, .ref co), (r0, 16, 61, .ref cs), (r0, 16, 46, .ref ol), (r0, 16, 47, .ref nw), (r0, 16, 71, .ref td), (r0, 16, 43, .ref yg), (r0, 16, 44, .int pu)] [(yg, 101, 3100, ca 1, fg), (cs, 207, 2, ca 1, fs)] [(jFs, jDY dC dI ca G0 none sn), (jF9, jVl dC dI G0 9 ck), ([(201, 0)], jQc dC dI (ca 4) dd 3 fd), ([(208, 0)], jQc dC dI (ca 4) co 2 fo)] H_5 locs_5 → (0 ≤ v2_5.toInt ∧ v2_5.toInt ≤ 1500) → (1500 - v2_5.toInt : Int) < N → ∀ ls : Array Slot, lv_has ls 3 [(0, .ref r0), (1, .ref r1), (2, .int v2_5)] → W p l e R s m ([.ref r0, .ref r1] : List Value).toArray below meth c H_5 locs_5 0 0 Q (F0 m 13 ls []) := by
    intro N
    induction N with
    | zero => intro v2_5 H_5 locs_5 hh_5  hi_5 hm; exact absurd hm (by omega)
    | succ N L13 =>
      intro v2_5 H_5 locs_5 hh_5  hi_5 hm_5 ls hl
      obtain ⟨hi_5_0, hi_5_1⟩ := hi_5
      refine lv_iload_n hx hb dX14_same_13 rfl (lv_at hl 2 rfl) ?_
      refine lv_aload_n hx hb dX14_same_14 rfl (lv_at hl 1 rfl) ?_
      obtain ⟨v_6, hv_6, hh_7⟩ := hh_5.pin (C := RX12) (T := TX12) (N := 11) hB14 rfl (by decide) hg_r1 (i := 4) (by decide) rfl
      clear hh_5
      obtain ⟨units_8, rfl, hlounits_8, hhiunits_8⟩ := hv_6
      refine j7_readN hx hb hown hK (C := RX12) (T := TX12) (N := 11) rfl hly_14_4 hlk_526 (hh_7.at 0 rfl) dX14_same_15 ?_
      refine lv_icmp_ge (tgt := 42) hx hb dX14_same_18 (by decide) (fun c_9 => ?_) (fun c_9 => ?_)
      · skip
        have c_9' : v2_5.toInt ≥ units_8.toInt := jb_ge (rfl) (rfl) c_9
        refine lv_aload_n hx hb dX14_same_42 rfl (lv_at hl 0 rfl) ?_
        refine j7_read hx hb hown hK (C := RX14) (T := TX14) (N := 74) rfl hly_16_46 hlk_84 (hh_7.at 6 rfl) dX14_same_43 ?_
        have hd_10 := jDY.less (hh_7.iv 0 rfl) ol
        have hh_11 := hh_7.sub (L1 := [(r1, 14, 4, .int units_8), (ol, 14, 4, .int units_3), (r0, 16, 41, .ref dd), (r0, 16, 42, .int dc), (r0, 16, 60, .ref co), (r0, 16, 61, .ref cs), (r0, 16, 46, .ref ol), (r0, 16, 47, .ref nw), (r0, 16, 71, .ref td), (r0, 16, 43, .ref yg), (r0, 16, 44, .int pu)]) [0, 1, 2, 3, 4, 5, 6, 7, 8, 9, 10] rfl (M1 := [(yg, 101, 3100, ca 1, fg), (cs, 207, 2, ca 1, fs)]) [0, 1] rfl (I1 := [(jF9, jVl dC dI G0 9 ck), ([(201, 0)], jQc dC dI (ca 4) dd 3 fd), ([(208, 0)], jQc dC dI (ca 4) co 2 fo)]) [1, 2, 3] rfl
        clear hh_7
        have hh_12 := hh_11.addI (jDY.ie hd_10)
        clear hh_11
        obtain ⟨v_15, hv_15, hh_16⟩ := hh_12.pin (C := RX12) (T := TX12) (N := 11) hB14 rfl (by decide) hg_ol (i := 3) (by decide) rfl
        obtain ⟨text_17, rfl, hg_text_17⟩ := hv_15
        obtain ⟨v_18, hv_18, hh_19⟩ := hh_16.pin (C := RX12) (T := TX12) (N := 11) hB14 rfl (by decide) hg_ol (i := 6) (by decide) rfl
        obtain ⟨begin_20, rfl, hg_begin_20⟩ := hv_18
        obtain ⟨v_21, hv_21, hh_22⟩ := hh_19.pin (C := RX12) (T := TX12) (N := 11) hB14 rfl (by decide) hg_ol (i := 7) (by decide) rfl
        obtain ⟨end_23, rfl, hg_end_23⟩ := hv_21
        obtain ⟨f_ft_24, hh_24⟩ := hh_22.cpin hB101 (by decide) (by decide) hg_text_17
        clear hh_22
        obtain ⟨f_fb_25, hh_25⟩ := hh_24.cpin hB190 (by decide) (by decide) hg_begin_20
        clear hh_24
        obtain ⟨f_fe_26, hh_26⟩ := hh_25.cpin hB191 (by decide) (by decide) hg_end_23
        clear hh_25
        refine va_callv (A0 := jA base) (H0 := s.heap) (va_runS (As := [.ref ol]) (rest := []) ⟨hx, hb, hml, hown, hts⟩ (uX14_partD l dC dI ca base B hB hAp hB14 hB101 hB190 hB191 hB192 G0 H_5 ol text_17 units_3 begin_20 end_23 sn f_ft_24 f_fb_25 f_fe_26) (va_cwS 1 hts (jgS (jWr_57 _ (List.mem_of_getElem? (i := 10) rfl)) (jWr_57 _ (List.mem_of_getElem? (i := 11) rfl)) (jWr_1 _ (List.mem_of_getElem? (i := 5) rfl)) (jWr_57 _ (List.mem_of_getElem? (i := 12) rfl))) rfl rfl rfl (by decide +kernel) ⟨by rw [← hR]; exact Nat.le_of_ble_eq_true rfl, by rw [← hR]; exact Nat.le_of_ble_eq_true rfl⟩) ⟨fun a U g mk q => by obtain ⟨q0, q1, q2, qK, q10, q11, q12, q13, q14, q15, q16, q17⟩ := q; exact ⟨q0, q1, q2, jG.calling g mk a qK, q10, q11, q12, q13, q14, q15, q16, q17⟩, fun U hU hW => ⟨rfl, hU, hh_26.2.1, hG.step hW hU hh_26.1, hg_ol, hg_text_17, hg_begin_20, hg_end_23, (hh_26.2.2.1.sub (L1 := [(ol, 14, 3, .ref text_17), (ol, 14, 4, .int units_3), (ol, 14, 6, .ref begin_20), (ol, 14, 7, .ref end_23)]) [2, 4, 1, 0] rfl), (hh_26.2.2.2.2.2.2.2.1.sub (L1 := [(text_17, 101, 1500, ca 1, f_ft_24), (begin_20, 190, 40, ca 1, f_fb_25), (end_23, 191, 40, ca 1, f_fe_26)]) [2, 1, 0] rfl), (hh_26.2.2.2.2.2.2.2.2.sub (L1 := [(jFs, jDY dC dI ca G0 (some ol) sn)]) [0] rfl), by first | omega | (refine ⟨?_, ?_⟩ <;> (first | omega | rfl | assumption | decide | exact Or.inl rfl | exact Or.inr rfl | (simp only; omega)))⟩⟩ rfl rfl hl.1 rfl (lv_room (Nat.le_of_ble_eq_true rfl)) dX14_same_46 ⟨Nat.zero_le _, Nat.zero_le _⟩) hh_26.1 (fun q _ h => h) (fun q h => h) (fun u_13 t_13 H_13 locs_13 ht_13 hvm_13 hr_14 hb_13 hz_13 hk_13 hS_13 => ?_)
        obtain ⟨qs_13, gb_13, ge_13⟩ := u_13
        rw [ht_13] at hb_13
        obtain ⟨hb_13, hbV_13⟩ := hb_13
        obtain ⟨⟨hb_131, hb_132, hb_133, hb_134, hb_135⟩, hb_136⟩ := hb_13
        have hh_13 : jSt (dC, dI) B base G0 G0 EX14_same s.heap 0 0 [(ol, 14, 5, .int qs_13), (ol, 14, 7, .ref end_23), (ol, 14, 6, .ref begin_20), (ol, 14, 3, .ref text_17), (r1, 14, 4, .int units_8), (ol, 14, 4, .int units_3), (r0, 16, 41, .ref dd), (r0, 16, 42, .int dc), (r0, 16, 60, .ref co), (r0, 16, 61, .ref cs), (r0, 16, 46, .ref ol), (r0, 16, 47, .ref nw), (r0, 16, 71, .ref td), (r0, 16, 43, .ref yg), (r0, 16, 44, .int pu)] [(begin_20, 190, 40, ca 1, gb_13), (end_23, 191, 40, ca 1, ge_13), (text_17, 101, 1500, ca 1, f_ft_24), (yg, 101, 3100, ca 1, fg), (cs, 207, 2, ca 1, fs)] [(jFs, jDY dC dI ca G0 (some ol) sn), (jF9, jVl dC dI G0 9 ck), ([(201, 0)], jQc dC dI (ca 4) dd 3 fd), ([(208, 0)], jQc dC dI (ca 4) co 2 fo)] H_13 locs_13 := (((hh_26.call hb_131 hb_132 hb_133 hb_134 hS_13 rfl (L1 := [(ol, 14, 7, .ref end_23), (ol, 14, 6, .ref begin_20), (ol, 14, 3, .ref text_17), (r1, 14, 4, .int units_8), (ol, 14, 4, .int units_3), (r0, 16, 41, .ref dd), (r0, 16, 42, .int dc), (r0, 16, 60, .ref co), (r0, 16, 61, .ref cs), (r0, 16, 46, .ref ol), (r0, 16, 47, .ref nw), (r0, 16, 71, .ref td), (r0, 16, 43, .ref yg), (r0, 16, 44, .int pu)]) [0, 1, 2, 3, 4, 5, 6, 7, 8, 9, 10, 11, 12, 13] rfl rfl (M1 := [(text_17, 101, 1500, ca 1, f_ft_24), (yg, 101, 3100, ca 1, fg), (cs, 207, 2, ca 1, fs)]) [2, 3, 4] rfl rfl (I1 := [(jF9, jVl dC dI G0 9 ck), ([(201, 0)], jQc dC dI (ca 4) dd 3 fd), ([(208, 0)], jQc dC dI (ca 4) co 2 fo)]) [1, 2, 3] rfl rfl).more hb_135).moreM hb_136).addIs hbV_13
        clear hh_26 ht_13 hvm_13 hz_13 hk_13 hS_13 hb_131 hb_132 hb_133 hb_134 hb_135
        clear hb_136
        clear hbV_13
        try simp only at hr_14
        obtain ⟨hr_14_0, hr_14_1, hr_14_2, hr_14_3⟩ := hr_14
        have hd_27 := jDY.full (hh_13.iv 0 rfl) hg_ol hg_begin_20 hg_end_23 (hh_13.2.2.1.sub (L1 := [(ol, 14, 6, .ref begin_20), (ol, 14, 7, .ref end_23), (ol, 14, 5, .int qs_13)]) [2, 1, 0] rfl) (hh_13.2.2.2.2.2.2.2.1.sub (L1 := [(begin_20, 190, 40, ca 1, gb_13), (end_23, 191, 40, ca 1, ge_13)]) [0, 1] rfl) (hr_14_3.up (by omega)) (by omega) (by omega)
        have hh_28 := hh_13.sub (L1 := [(ol, 14, 5, .int qs_13), (ol, 14, 7, .ref end_23), (ol, 14, 6, .ref begin_20), (ol, 14, 3, .ref text_17), (r1, 14, 4, .int units_8), (ol, 14, 4, .int units_3), (r0, 16, 41, .ref dd), (r0, 16, 42, .int dc), (r0, 16, 60, .ref co), (r0, 16, 61, .ref cs), (r0, 16, 46, .ref ol), (r0, 16, 47, .ref nw), (r0, 16, 71, .ref td), (r0, 16, 43, .ref yg), (r0, 16, 44, .int pu)]) [0, 1, 2, 3, 4, 5, 6, 7, 8, 9, 10, 11, 12, 13, 14] rfl (M1 := [(begin_20, 190, 40, ca 1, gb_13), (end_23, 191, 40, ca 1, ge_13), (text_17, 101, 1500, ca 1, f_ft_24), (yg, 101, 3100, ca 1, fg), (cs, 207, 2, ca 1, fs)]) [0, 1, 2, 3, 4] rfl (I1 := [(jF9, jVl dC dI G0 9 ck), ([(201, 0)], jQc dC dI (ca 4) dd 3 fd), ([(208, 0)], jQc dC dI (ca 4) co 2 fo)]) [1, 2, 3] rfl
        clear hh_13
        have hh_29 := hh_28.addI (jDY.ie hd_27)
        clear hh_28
        refine lv_aload_n hx hb dX14_same_49 rfl (lv_at hl 0 rfl) ?_
        refine j7_read hx hb hown hK (C := RX14) (T := TX14) (N := 74) rfl hly_16_47 hlk_88 (hh_29.at 11 rfl) dX14_same_50 ?_
        refine lv_aload_n hx hb dX14_same_53 rfl (lv_at hl 0 rfl) ?_
        refine j7_read hx hb hown hK (C := RX14) (T := TX14) (N := 74) rfl hly_16_44 hlk_550 (hh_29.at 14 rfl) dX14_same_54 ?_
        refine j7_putN hx hb hown hK hh_29 hB hAp hB14 (C := RX12) (T := TX12) (N := 11) rfl (by decide) hg_nw (i := 4) (by decide) hly_14_4 rfl hlk_526 rfl (ty := .int) (v := .int pu) (by decide +kernel) rfl rfl (⟨_, rfl, by omega, by omega⟩) rfl (L1 := [(ol, 14, 5, .int qs_13), (ol, 14, 7, .ref end_23), (ol, 14, 6, .ref begin_20), (ol, 14, 3, .ref text_17), (r0, 16, 41, .ref dd), (r0, 16, 42, .int dc), (r0, 16, 60, .ref co), (r0, 16, 61, .ref cs), (r0, 16, 46, .ref ol), (r0, 16, 47, .ref nw), (r0, 16, 71, .ref td), (r0, 16, 43, .ref yg), (r0, 16, 44, .int pu)]) [0, 1, 2, 3, 6, 7, 8, 9, 10, 11, 12, 13, 14] rfl rfl rfl dX14_same_57 (fun H_30 locs_30 hh_30 => ?_)
        clear hh_29
        obtain ⟨v_31, hv_31, hh_32⟩ := hh_30.pin (C := RX12) (T := TX12) (N := 11) hB14 rfl (by decide) hg_nw (i := 3) (by decide) rfl
        obtain ⟨text_33, rfl, hg_text_33⟩ := hv_31
        obtain ⟨f_text_34, hh_34⟩ := hh_32.cpin hB101 (by decide) (by decide) hg_text_33
        clear hh_32
        refine lv_iconst (v := 0) hx hb dX14_same_60 (by decide) ?_
        refine lv_istore_n (lv' := [(2, .int 0), (0, .ref r0), (1, .ref r1)]) hx hb dX14_same_61 rfl hl (by decide) rfl (fun ls hl => ?_)
        have L62 : ∀ (N : Nat) (v2_35 : Int32) (fv_35 : Nat → Int32) (H_35 : Heap) (locs_35 : List Loc), jSt (dC, dI) B base G0 G0 EX14_same s.heap 0 0 [(nw, 14, 3, .ref text_33), (nw, 14, 4, .int pu), (ol, 14, 5, .int qs_13), (ol, 14, 7, .ref end_23), (ol, 14, 6, .ref begin_20), (r0, 16, 41, .ref dd), (r0, 16, 42, .int dc), (r0, 16, 60, .ref co), (r0, 16, 61, .ref cs), (r0, 16, 46, .ref ol), (r0, 16, 47, .ref nw), (r0, 16, 71, .ref td), (r0, 16, 43, .ref yg), (r0, 16, 44, .int pu)] [(text_33, 101, 1500, ca 1, fv_35), (begin_20, 190, 40, ca 1, gb_13), (end_23, 191, 40, ca 1, ge_13), (yg, 101, 3100, ca 1, fg), (cs, 207, 2, ca 1, fs)] [(jFs, jDY dC dI ca G0 none (jUn sn ol qs_13)), (jF9, jVl dC dI G0 9 ck), ([(201, 0)], jQc dC dI (ca 4) dd 3 fd), ([(208, 0)], jQc dC dI (ca 4) co 2 fo)] H_35 locs_35 → (0 ≤ v2_35.toInt ∧ v2_35.toInt ≤ pu.toInt ∧ jEqU fv_35 fg v2_35.toInt) → (pu.toInt - v2_35.toInt : Int) < N → ∀ ls : Array Slot, lv_has ls 3 [(0, .ref r0), (1, .ref r1), (2, .int v2_35)] → W p l e R s m ([.ref r0, .ref r1] : List Value).toArray below meth c H_35 locs_35 0 0 Q (F0 m 62 ls []) := by
          intro N
          induction N with
          | zero => intro v2_35 fv_35 H_35 locs_35 hh_35  hi_35 hm; exact absurd hm (by omega)
          | succ N L62 =>
            intro v2_35 fv_35 H_35 locs_35 hh_35  hi_35 hm_35 ls hl
            obtain ⟨hi_35_0, hi_35_1, hi_35_2⟩ := hi_35
            refine lv_iload_n hx hb dX14_same_62 rfl (lv_at hl 2 rfl) ?_
            refine lv_aload_n hx hb dX14_same_63 rfl (lv_at hl 0 rfl) ?_
            refine j7_read hx hb hown hK (C := RX14) (T := TX14) (N := 74) rfl hly_16_44 hlk_550 (hh_35.at 13 rfl) dX14_same_64 ?_
            refine lv_icmp_ge (tgt := 91) hx hb dX14_same_67 (by decide) (fun c_36 => ?_) (fun c_36 => ?_)
            · skip
              have c_36' : v2_35.toInt ≥ pu.toInt := jb_ge (rfl) (rfl) c_36
              refine lv_aload_n hx hb dX14_same_91 rfl (lv_at hl 0 rfl) ?_
              refine j7_read hx hb hown hK (C := RX14) (T := TX14) (N := 74) rfl hly_16_47 hlk_88 (hh_35.at 10 rfl) dX14_same_92 ?_
              have hd_37 := jDY.less (hh_35.iv 0 rfl) nw
              have hh_38 := hh_35.sub (L1 := [(nw, 14, 3, .ref text_33), (nw, 14, 4, .int pu), (ol, 14, 5, .int qs_13), (ol, 14, 7, .ref end_23), (ol, 14, 6, .ref begin_20), (r0, 16, 41, .ref dd), (r0, 16, 42, .int dc), (r0, 16, 60, .ref co), (r0, 16, 61, .ref cs), (r0, 16, 46, .ref ol), (r0, 16, 47, .ref nw), (r0, 16, 71, .ref td), (r0, 16, 43, .ref yg), (r0, 16, 44, .int pu)]) [0, 1, 2, 3, 4, 5, 6, 7, 8, 9, 10, 11, 12, 13] rfl (M1 := [(text_33, 101, 1500, ca 1, fv_35), (begin_20, 190, 40, ca 1, gb_13), (end_23, 191, 40, ca 1, ge_13), (yg, 101, 3100, ca 1, fg), (cs, 207, 2, ca 1, fs)]) [0, 1, 2, 3, 4] rfl (I1 := [(jF9, jVl dC dI G0 9 ck), ([(201, 0)], jQc dC dI (ca 4) dd 3 fd), ([(208, 0)], jQc dC dI (ca 4) co 2 fo)]) [1, 2, 3] rfl
              clear hh_35
              have hh_39 := hh_38.addI (jDY.ie hd_37)
              clear hh_38
              obtain ⟨v_42, hv_42, hh_43⟩ := hh_39.pin (C := RX12) (T := TX12) (N := 11) hB14 rfl (by decide) hg_nw (i := 6) (by decide) rfl
              obtain ⟨begin_44, rfl, hg_begin_44⟩ := hv_42
              obtain ⟨v_45, hv_45, hh_46⟩ := hh_43.pin (C := RX12) (T := TX12) (N := 11) hB14 rfl (by decide) hg_nw (i := 7) (by decide) rfl
              obtain ⟨end_47, rfl, hg_end_47⟩ := hv_45
              obtain ⟨f_fb_48, hh_48⟩ := hh_46.cpin hB190 (by decide) (by decide) hg_begin_44
              clear hh_46
              obtain ⟨f_fe_49, hh_49⟩ := hh_48.cpin hB191 (by decide) (by decide) hg_end_47
              clear hh_48
              refine va_callv (A0 := jA base) (H0 := s.heap) (va_runS (As := [.ref nw]) (rest := []) ⟨hx, hb, hml, hown, hts⟩ (uX14_partD l dC dI ca base B hB hAp hB14 hB101 hB190 hB191 hB192 G0 H_35 nw text_33 pu begin_44 end_47 (jUn sn ol qs_13) fv_35 f_fb_48 f_fe_49) (va_cwS 1 hts (jgS (jWr_57 _ (List.mem_of_getElem? (i := 10) rfl)) (jWr_57 _ (List.mem_of_getElem? (i := 11) rfl)) (jWr_1 _ (List.mem_of_getElem? (i := 5) rfl)) (jWr_57 _ (List.mem_of_getElem? (i := 12) rfl))) rfl rfl rfl (by decide +kernel) ⟨by rw [← hR]; exact Nat.le_of_ble_eq_true rfl, by rw [← hR]; exact Nat.le_of_ble_eq_true rfl⟩) ⟨fun a U g mk q => by obtain ⟨q0, q1, q2, qK, q10, q11, q12, q13, q14, q15, q16, q17⟩ := q; exact ⟨q0, q1, q2, jG.calling g mk a qK, q10, q11, q12, q13, q14, q15, q16, q17⟩, fun U hU hW => ⟨rfl, hU, hh_49.2.1, hG.step hW hU hh_49.1, hg_nw, hg_text_33, hg_begin_44, hg_end_47, (hh_49.2.2.1.sub (L1 := [(nw, 14, 3, .ref text_33), (nw, 14, 4, .int pu), (nw, 14, 6, .ref begin_44), (nw, 14, 7, .ref end_47)]) [2, 3, 1, 0] rfl), (hh_49.2.2.2.2.2.2.2.1.sub (L1 := [(text_33, 101, 1500, ca 1, fv_35), (begin_44, 190, 40, ca 1, f_fb_48), (end_47, 191, 40, ca 1, f_fe_49)]) [2, 1, 0] rfl), (hh_49.2.2.2.2.2.2.2.2.sub (L1 := [(jFs, jDY dC dI ca G0 (some nw) (jUn sn ol qs_13))]) [0] rfl), by first | omega | (refine ⟨?_, ?_⟩ <;> (first | omega | rfl | assumption | decide | exact Or.inl rfl | exact Or.inr rfl | (simp only; omega)))⟩⟩ rfl rfl hl.1 rfl (lv_room (Nat.le_of_ble_eq_true rfl)) dX14_same_95 ⟨Nat.zero_le _, Nat.zero_le _⟩) hh_49.1 (fun q _ h => h) (fun q h => h) (fun u_40 t_40 H_40 locs_40 ht_40 hvm_40 hr_41 hb_40 hz_40 hk_40 hS_40 => ?_)
              obtain ⟨qs_40, gb_40, ge_40⟩ := u_40
              rw [ht_40] at hb_40
              obtain ⟨hb_40, hbV_40⟩ := hb_40
              obtain ⟨⟨hb_401, hb_402, hb_403, hb_404, hb_405⟩, hb_406⟩ := hb_40
              have hh_40 : jSt (dC, dI) B base G0 G0 EX14_same s.heap 0 0 [(nw, 14, 5, .int qs_40), (nw, 14, 7, .ref end_47), (nw, 14, 6, .ref begin_44), (nw, 14, 3, .ref text_33), (nw, 14, 4, .int pu), (ol, 14, 7, .ref end_23), (ol, 14, 6, .ref begin_20), (r0, 16, 41, .ref dd), (r0, 16, 42, .int dc), (r0, 16, 60, .ref co), (r0, 16, 61, .ref cs), (r0, 16, 46, .ref ol), (r0, 16, 47, .ref nw), (r0, 16, 71, .ref td), (r0, 16, 43, .ref yg), (r0, 16, 44, .int pu)] [(begin_44, 190, 40, ca 1, gb_40), (end_47, 191, 40, ca 1, ge_40), (text_33, 101, 1500, ca 1, fv_35), (yg, 101, 3100, ca 1, fg), (cs, 207, 2, ca 1, fs)] [(jFs, jDY dC dI ca G0 (some nw) (jUn sn ol qs_13)), (jF9, jVl dC dI G0 9 ck), ([(201, 0)], jQc dC dI (ca 4) dd 3 fd), ([(208, 0)], jQc dC dI (ca 4) co 2 fo)] H_40 locs_40 := (((hh_49.call hb_401 hb_402 hb_403 hb_404 hS_40 rfl (L1 := [(nw, 14, 7, .ref end_47), (nw, 14, 6, .ref begin_44), (nw, 14, 3, .ref text_33), (nw, 14, 4, .int pu), (ol, 14, 7, .ref end_23), (ol, 14, 6, .ref begin_20), (r0, 16, 41, .ref dd), (r0, 16, 42, .int dc), (r0, 16, 60, .ref co), (r0, 16, 61, .ref cs), (r0, 16, 46, .ref ol), (r0, 16, 47, .ref nw), (r0, 16, 71, .ref td), (r0, 16, 43, .ref yg), (r0, 16, 44, .int pu)]) [0, 1, 2, 3, 5, 6, 7, 8, 9, 10, 11, 12, 13, 14, 15] rfl rfl (M1 := [(text_33, 101, 1500, ca 1, fv_35), (yg, 101, 3100, ca 1, fg), (cs, 207, 2, ca 1, fs)]) [2, 5, 6] rfl rfl (I1 := [(jF9, jVl dC dI G0 9 ck), ([(201, 0)], jQc dC dI (ca 4) dd 3 fd), ([(208, 0)], jQc dC dI (ca 4) co 2 fo)]) [1, 2, 3] rfl rfl).more hb_405).moreM hb_406).addIs hbV_40
              clear hh_49 ht_40 hvm_40 hz_40 hk_40 hS_40 hb_401 hb_402 hb_403 hb_404 hb_405
              clear hb_406
              clear hbV_40
              try simp only at hr_41
              obtain ⟨hr_41_0, hr_41_1, hr_41_2, hr_41_3⟩ := hr_41
              have hd_50 := jDY.full (hh_40.iv 0 rfl) hg_nw hg_begin_44 hg_end_47 (hh_40.2.2.1.sub (L1 := [(nw, 14, 6, .ref begin_44), (nw, 14, 7, .ref end_47), (nw, 14, 5, .int qs_40)]) [2, 1, 0] rfl) (hh_40.2.2.2.2.2.2.2.1.sub (L1 := [(begin_44, 190, 40, ca 1, gb_40), (end_47, 191, 40, ca 1, ge_40)]) [0, 1] rfl) (hr_41_3.up (by omega)) (by omega) (by omega)
              have hh_51 := hh_40.sub (L1 := [(nw, 14, 5, .int qs_40), (nw, 14, 7, .ref end_47), (nw, 14, 6, .ref begin_44), (nw, 14, 3, .ref text_33), (nw, 14, 4, .int pu), (ol, 14, 7, .ref end_23), (ol, 14, 6, .ref begin_20), (r0, 16, 41, .ref dd), (r0, 16, 42, .int dc), (r0, 16, 60, .ref co), (r0, 16, 61, .ref cs), (r0, 16, 46, .ref ol), (r0, 16, 47, .ref nw), (r0, 16, 71, .ref td), (r0, 16, 43, .ref yg), (r0, 16, 44, .int pu)]) [0, 1, 2, 3, 4, 5, 6, 7, 8, 9, 10, 11, 12, 13, 14, 15] rfl (M1 := [(begin_44, 190, 40, ca 1, gb_40), (end_47, 191, 40, ca 1, ge_40), (text_33, 101, 1500, ca 1, fv_35), (yg, 101, 3100, ca 1, fg), (cs, 207, 2, ca 1, fs)]) [0, 1, 2, 3, 4] rfl (I1 := [(jF9, jVl dC dI G0 9 ck), ([(201, 0)], jQc dC dI (ca 4) dd 3 fd), ([(208, 0)], jQc dC dI (ca 4) co 2 fo)]) [1, 2, 3] rfl
              clear hh_40
              have hh_52 := hh_51.addI (jDY.ie hd_50)
              clear hh_51
              refine lv_iconst (v := 0) hx hb dX14_same_98 (by decide) ?_
              refine lv_istore_n (lv' := [(2, .int 0), (0, .ref r0), (1, .ref r1)]) hx hb dX14_same_99 rfl hl (by decide) rfl (fun ls hl => ?_)
              have L100 : ∀ (N : Nat) (v2_53 : Int32) (H_53 : Heap) (locs_53 : List Loc), jSt (dC, dI) B base G0 G0 EX14_same s.heap 0 0 [(nw, 14, 5, .int qs_40), (nw, 14, 7, .ref end_47), (nw, 14, 6, .ref begin_44), (nw, 14, 3, .ref text_33), (nw, 14, 4, .int pu), (ol, 14, 7, .ref end_23), (ol, 14, 6, .ref begin_20), (r0, 16, 41, .ref dd), (r0, 16, 42, .int dc), (r0, 16, 60, .ref co), (r0, 16, 61, .ref cs), (r0, 16, 46, .ref ol), (r0, 16, 47, .ref nw), (r0, 16, 71, .ref td), (r0, 16, 43, .ref yg), (r0, 16, 44, .int pu)] [(begin_44, 190, 40, ca 1, gb_40), (end_47, 191, 40, ca 1, ge_40), (text_33, 101, 1500, ca 1, fv_35), (yg, 101, 3100, ca 1, fg), (cs, 207, 2, ca 1, fs)] [(jFs, jDY dC dI ca G0 none (jUn (jUn sn ol qs_13) nw qs_40)), (jF9, jVl dC dI G0 9 ck), ([(201, 0)], jQc dC dI (ca 4) dd 3 fd), ([(208, 0)], jQc dC dI (ca 4) co 2 fo)] H_53 locs_53 → (0 ≤ v2_53.toInt ∧ v2_53.toInt ≤ 40 ∧ v2_53.toInt ≤ qs_40.toInt) → (40 - v2_53.toInt : Int) < N → ∀ ls : Array Slot, lv_has ls 3 [(0, .ref r0), (1, .ref r1), (2, .int v2_53)] → W p l e R s m ([.ref r0, .ref r1] : List Value).toArray below meth c H_53 locs_53 0 0 Q (F0 m 100 ls []) := by
                intro N
                induction N with
                | zero => intro v2_53 H_53 locs_53 hh_53  hi_53 hm; exact absurd hm (by omega)
                | succ N L100 =>
                  intro v2_53 H_53 locs_53 hh_53  hi_53 hm_53 ls hl
                  obtain ⟨hi_53_0, hi_53_1, hi_53_2⟩ := hi_53
                  refine lv_iload_n hx hb dX14_same_100 rfl (lv_at hl 2 rfl) ?_
                  refine lv_aload_n hx hb dX14_same_101 rfl (lv_at hl 0 rfl) ?_
                  refine j7_read hx hb hown hK (C := RX14) (T := TX14) (N := 74) rfl hly_16_46 hlk_84 (hh_53.at 11 rfl) dX14_same_102 ?_
                  obtain ⟨v_54, hv_54, hh_55⟩ := hh_53.pin (C := RX12) (T := TX12) (N := 11) hB14 rfl (by decide) hg_ol (i := 5) (by decide) rfl
                  clear hh_53
                  obtain ⟨sentences_56, rfl, hlosentences_56, hhisentences_56⟩ := hv_54
                  refine j7_readN hx hb hown hK (C := RX12) (T := TX12) (N := 11) rfl hly_14_5 hlk_587 (hh_55.at 0 rfl) dX14_same_105 ?_
                  refine lv_icmp_ge (tgt := 144) hx hb dX14_same_108 (by decide) (fun c_57 => ?_) (fun c_57 => ?_)
                  · skip
                    have c_57' : v2_53.toInt ≥ sentences_56.toInt := jb_ge (rfl) (rfl) c_57
                    refine lv_iload_n hx hb dX14_same_144 rfl (lv_at hl 2 rfl) ?_
                    rw [hQ]
                    exact W.iret (v := v2_53) hx hb hr (fun t ht hW => ⟨⟨v2_53, fg, rfl, by (try dsimp only); refine ⟨by omega, ?_, rfl⟩; have h9 := hr_41_0; have h8 := jPar_cg (n := pu.toInt) (by omega) (jEqU.up hi_35_2 (by omega)); omega, ⟨⟨hh_55.rt (M1 := []) [] rfl ht, by rw [ht]; exact hh_55.2.2.2.2.2.2.2.1.sub [3] rfl⟩, by rw [ht]; exact ⟨(jUn (jUn sn ol qs_13) nw qs_40), ck, fs, fd, fo, dc, hh_55.2.2.1.sub (L1 := [(r0, 16, 41, .ref dd), (r0, 16, 42, .int dc), (r0, 16, 60, .ref co), (r0, 16, 61, .ref cs), (r0, 16, 46, .ref ol), (r0, 16, 47, .ref nw), (r0, 16, 71, .ref td)]) [8, 9, 10, 11, 12, 13, 14] rfl, hh_55.2.2.2.2.2.2.2.1.sub (L1 := [(cs, 207, 2, ca 1, fs)]) [4] rfl, hh_55.2.2.2.2.2.2.2.2.sub (L1 := [(jFs, jDY dC dI ca G0 none (jUn (jUn sn ol qs_13) nw qs_40)), (jF9, jVl dC dI G0 9 ck), ([(201, 0)], jQc dC dI (ca 4) dd 3 fd), ([(208, 0)], jQc dC dI (ca 4) co 2 fo)]) [0, 1, 2, 3] rfl, (hp0.num (Or.inl rfl)).num (Or.inr (Or.inl rfl))⟩⟩⟩, by rw [ht]; try exact hh_55.1.1, fun q h9 hq => by rw [ht]; try exact hh_55.1.2.1 q h9 hq⟩) hh_55.1.2.2 dX14_same_145
                  · skip
                    have c_57' : v2_53.toInt < sentences_56.toInt := jb_ge_n (rfl) (rfl) c_57
                    refine lv_iload_n hx hb dX14_same_111 rfl (lv_at hl 2 rfl) ?_
                    refine lv_aload_n hx hb dX14_same_112 rfl (lv_at hl 0 rfl) ?_
                    refine j7_read hx hb hown hK (C := RX14) (T := TX14) (N := 74) rfl hly_16_47 hlk_88 (hh_55.at 13 rfl) dX14_same_113 ?_
                    refine j7_readN hx hb hown hK (C := RX12) (T := TX12) (N := 11) rfl hly_14_5 hlk_587 (hh_55.at 1 rfl) dX14_same_116 ?_
                    refine lv_icmp_ge (tgt := 144) hx hb dX14_same_119 (by decide) (fun c_58 => ?_) (fun c_58 => ?_)
                    · skip
                      have c_58' : v2_53.toInt ≥ qs_40.toInt := jb_ge (rfl) (rfl) c_58
                      refine lv_iload_n hx hb dX14_same_144 rfl (lv_at hl 2 rfl) ?_
                      rw [hQ]
                      exact W.iret (v := v2_53) hx hb hr (fun t ht hW => ⟨⟨v2_53, fg, rfl, by (try dsimp only); refine ⟨by omega, ?_, rfl⟩; have h9 := hr_41_0; have h8 := jPar_cg (n := pu.toInt) (by omega) (jEqU.up hi_35_2 (by omega)); omega, ⟨⟨hh_55.rt (M1 := []) [] rfl ht, by rw [ht]; exact hh_55.2.2.2.2.2.2.2.1.sub [3] rfl⟩, by rw [ht]; exact ⟨(jUn (jUn sn ol qs_13) nw qs_40), ck, fs, fd, fo, dc, hh_55.2.2.1.sub (L1 := [(r0, 16, 41, .ref dd), (r0, 16, 42, .int dc), (r0, 16, 60, .ref co), (r0, 16, 61, .ref cs), (r0, 16, 46, .ref ol), (r0, 16, 47, .ref nw), (r0, 16, 71, .ref td)]) [8, 9, 10, 11, 12, 13, 14] rfl, hh_55.2.2.2.2.2.2.2.1.sub (L1 := [(cs, 207, 2, ca 1, fs)]) [4] rfl, hh_55.2.2.2.2.2.2.2.2.sub (L1 := [(jFs, jDY dC dI ca G0 none (jUn (jUn sn ol qs_13) nw qs_40)), (jF9, jVl dC dI G0 9 ck), ([(201, 0)], jQc dC dI (ca 4) dd 3 fd), ([(208, 0)], jQc dC dI (ca 4) co 2 fo)]) [0, 1, 2, 3] rfl, (hp0.num (Or.inl rfl)).num (Or.inr (Or.inl rfl))⟩⟩⟩, by rw [ht]; try exact hh_55.1.1, fun q h9 hq => by rw [ht]; try exact hh_55.1.2.1 q h9 hq⟩) hh_55.1.2.2 dX14_same_145
                    · skip
                      have c_58' : v2_53.toInt < qs_40.toInt := jb_ge_n (rfl) (rfl) c_58
                      refine lv_aload_n hx hb dX14_same_122 rfl (lv_at hl 0 rfl) ?_
                      refine j7_read hx hb hown hK (C := RX14) (T := TX14) (N := 74) rfl hly_16_46 hlk_84 (hh_55.at 12 rfl) dX14_same_123 ?_
                      refine lv_iload_n hx hb dX14_same_126 rfl (lv_at hl 2 rfl) ?_
                      refine lv_aload_n hx hb dX14_same_127 rfl (lv_at hl 0 rfl) ?_
                      refine j7_read hx hb hown hK (C := RX14) (T := TX14) (N := 74) rfl hly_16_47 hlk_88 (hh_55.at 13 rfl) dX14_same_128 ?_
                      refine lv_iload_n hx hb dX14_same_131 rfl (lv_at hl 2 rfl) ?_
                      obtain ⟨f_fb_61, hh_61⟩ := hh_55.cpin hB190 (by decide) (by decide) hg_begin_20
                      clear hh_55
                      obtain ⟨f_fe_62, hh_62⟩ := hh_61.cpin hB191 (by decide) (by decide) hg_end_23
                      clear hh_61
                      refine va_calli (A0 := jA base) (H0 := s.heap) (va_runS (As := [.ref ol, .int v2_53, .ref nw, .int v2_53]) (rest := []) ⟨hx, hb, hml, hown, hts⟩ (uX14_isSame l dC dI ca base B hB hAp hB14 hB101 hB190 hB191 hB192 G0 H_53 ol v2_53 nw v2_53 begin_20 end_23 begin_44 end_47 f_fb_61 f_fe_62 gb_40 ge_40) (va_cwS 4 hts (jgS (jWr_74 _ (List.mem_of_getElem? (i := 7) rfl)) (jWr_74 _ (List.mem_of_getElem? (i := 8) rfl)) (jWr_1 _ (List.mem_of_getElem? (i := 5) rfl)) (jWr_74 _ (List.mem_of_getElem? (i := 9) rfl))) rfl rfl rfl (by decide +kernel) ⟨by rw [← hR]; exact Nat.le_of_ble_eq_true rfl, by rw [← hR]; exact Nat.le_of_ble_eq_true rfl⟩) ⟨fun a U g mk q => by obtain ⟨q0, q1, q2, qK, q10, q11, q12, q13, q14, q15, q16, q17, q18⟩ := q; exact ⟨q0, q1, q2, jG.calling g mk a qK, q10, q11, q12, q13, q14, q15, q16, q17, q18⟩, fun U hU hW => ⟨rfl, hU, hh_62.2.1, hG.step hW hU hh_62.1, hg_ol, hg_nw, hg_begin_20, hg_end_23, hg_begin_44, hg_end_47, (hh_62.2.2.1.sub (L1 := [(ol, 14, 6, .ref begin_20), (ol, 14, 7, .ref end_23), (nw, 14, 6, .ref begin_44), (nw, 14, 7, .ref end_47)]) [7, 6, 3, 2] rfl), (hh_62.2.2.2.2.2.2.2.1.sub (L1 := [(begin_20, 190, 40, ca 1, f_fb_61), (end_23, 191, 40, ca 1, f_fe_62), (begin_44, 190, 40, ca 1, gb_40), (end_47, 191, 40, ca 1, ge_40)]) [1, 0, 2, 3] rfl), by first | omega | (refine ⟨?_, ?_, ?_, ?_⟩ <;> (first | omega | rfl | assumption | decide | exact Or.inl rfl | exact Or.inr rfl | (simp only; omega)))⟩⟩ rfl rfl hl.1 rfl (lv_room (Nat.le_of_ble_eq_true rfl)) dX14_same_132 ⟨Nat.zero_le _, Nat.zero_le _⟩) hh_62.1 (fun q _ h => h) (fun q h => h) (fun r_60 u_59 t_59 H_59 locs_59 ht_59 hvm_59 hr_60 hb_59 hz_59 hk_59 hS_59 => ?_)
                      rw [ht_59] at hb_59
                      obtain ⟨hb_591, hb_592, hb_593, hb_594, hb_595⟩ := hb_59
                      have hh_59 : jSt (dC, dI) B base G0 G0 EX14_same s.heap 0 0 [(ol, 14, 5, .int sentences_56), (nw, 14, 5, .int qs_40), (nw, 14, 7, .ref end_47), (nw, 14, 6, .ref begin_44), (nw, 14, 3, .ref text_33), (nw, 14, 4, .int pu), (ol, 14, 7, .ref end_23), (ol, 14, 6, .ref begin_20), (r0, 16, 41, .ref dd), (r0, 16, 42, .int dc), (r0, 16, 60, .ref co), (r0, 16, 61, .ref cs), (r0, 16, 46, .ref ol), (r0, 16, 47, .ref nw), (r0, 16, 71, .ref td), (r0, 16, 43, .ref yg), (r0, 16, 44, .int pu)] [(end_23, 191, 40, ca 1, f_fe_62), (begin_20, 190, 40, ca 1, f_fb_61), (begin_44, 190, 40, ca 1, gb_40), (end_47, 191, 40, ca 1, ge_40), (text_33, 101, 1500, ca 1, fv_35), (yg, 101, 3100, ca 1, fg), (cs, 207, 2, ca 1, fs)] [(jFs, jDY dC dI ca G0 none (jUn (jUn sn ol qs_13) nw qs_40)), (jF9, jVl dC dI G0 9 ck), ([(201, 0)], jQc dC dI (ca 4) dd 3 fd), ([(208, 0)], jQc dC dI (ca 4) co 2 fo)] H_59 locs_59 := ((hh_62.call hb_591 hb_592 hb_593 hb_594 hS_59 rfl (L1 := [(ol, 14, 5, .int sentences_56), (nw, 14, 5, .int qs_40), (nw, 14, 7, .ref end_47), (nw, 14, 6, .ref begin_44), (nw, 14, 3, .ref text_33), (nw, 14, 4, .int pu), (ol, 14, 7, .ref end_23), (ol, 14, 6, .ref begin_20), (r0, 16, 41, .ref dd), (r0, 16, 42, .int dc), (r0, 16, 60, .ref co), (r0, 16, 61, .ref cs), (r0, 16, 46, .ref ol), (r0, 16, 47, .ref nw), (r0, 16, 71, .ref td), (r0, 16, 43, .ref yg), (r0, 16, 44, .int pu)]) [0, 1, 2, 3, 4, 5, 6, 7, 8, 9, 10, 11, 12, 13, 14, 15, 16] rfl rfl (M1 := [(end_23, 191, 40, ca 1, f_fe_62), (begin_20, 190, 40, ca 1, f_fb_61), (begin_44, 190, 40, ca 1, gb_40), (end_47, 191, 40, ca 1, ge_40), (text_33, 101, 1500, ca 1, fv_35), (yg, 101, 3100, ca 1, fg), (cs, 207, 2, ca 1, fs)]) [0, 1, 2, 3, 4, 5, 6] rfl rfl (I1 := [(jFs, jDY dC dI ca G0 none (jUn (jUn sn ol qs_13) nw qs_40)), (jF9, jVl dC dI G0 9 ck), ([(201, 0)], jQc dC dI (ca 4) dd 3 fd), ([(208, 0)], jQc dC dI (ca 4) co 2 fo)]) [0, 1, 2, 3] rfl rfl).more hb_595)
                      clear hh_62 ht_59 hvm_59 hz_59 hk_59 hS_59 hb_591 hb_592 hb_593 hb_594 hb_595
                      obtain ⟨hr_60b, hr_60p⟩ := hr_60
                      have hr_60' := jb_01 hr_60b
                      refine lv_if_eq (tgt := 144) hx hb dX14_same_135 (by decide) (fun c_63 => ?_) (fun c_63 => ?_)
                      · skip
                        have c_63' : r_60.toInt = 0 := jb_eq (rfl) ((by decide)) c_63
                        refine lv_iload_n hx hb dX14_same_144 rfl (lv_at hl 2 rfl) ?_
                        rw [hQ]
                        exact W.iret (v := v2_53) hx hb hr (fun t ht hW => ⟨⟨v2_53, fg, rfl, by (try dsimp only); refine ⟨by omega, ?_, rfl⟩; have h9 := hr_41_0; have h8 := jPar_cg (n := pu.toInt) (by omega) (jEqU.up hi_35_2 (by omega)); omega, ⟨⟨hh_59.rt (M1 := []) [] rfl ht, by rw [ht]; exact hh_59.2.2.2.2.2.2.2.1.sub [5] rfl⟩, by rw [ht]; exact ⟨(jUn (jUn sn ol qs_13) nw qs_40), ck, fs, fd, fo, dc, hh_59.2.2.1.sub (L1 := [(r0, 16, 41, .ref dd), (r0, 16, 42, .int dc), (r0, 16, 60, .ref co), (r0, 16, 61, .ref cs), (r0, 16, 46, .ref ol), (r0, 16, 47, .ref nw), (r0, 16, 71, .ref td)]) [8, 9, 10, 11, 12, 13, 14] rfl, hh_59.2.2.2.2.2.2.2.1.sub (L1 := [(cs, 207, 2, ca 1, fs)]) [6] rfl, hh_59.2.2.2.2.2.2.2.2.sub (L1 := [(jFs, jDY dC dI ca G0 none (jUn (jUn sn ol qs_13) nw qs_40)), (jF9, jVl dC dI G0 9 ck), ([(201, 0)], jQc dC dI (ca 4) dd 3 fd), ([(208, 0)], jQc dC dI (ca 4) co 2 fo)]) [0, 1, 2, 3] rfl, (hp0.num (Or.inl rfl)).num (Or.inr (Or.inl rfl))⟩⟩⟩, by rw [ht]; try exact hh_59.1.1, fun q h9 hq => by rw [ht]; try exact hh_59.1.2.1 q h9 hq⟩) hh_59.1.2.2 dX14_same_145
                      · skip
                        have c_63' : r_60.toInt ≠ 0 := jb_eq_n (rfl) ((by decide)) c_63
                        obtain ⟨z_64, ez_64⟩ : ∃ y : Int32, y = v2_53 + 1 := ⟨_, rfl⟩
                        refine lv_iinc (v := z_64) (lv' := [(2, .int z_64), (0, .ref r0), (1, .ref r1)]) hx hb dX14_same_138 hl (k := 2) rfl (by rw [ez_64]; rfl) (by decide) rfl (fun ls hl => ?_)
                        have hz_64 : z_64.toInt = v2_53.toInt + 1 := by rw [ez_64]; exact jb_iadd2 (rfl) (by decide) (by omega)
                        refine lv_goto (tgt := 100) hx hb dX14_same_141 (by decide) ?_
                        exact L100 z_64 _ _ (hh_59.sub (L1 := [(nw, 14, 5, .int qs_40), (nw, 14, 7, .ref end_47), (nw, 14, 6, .ref begin_44), (nw, 14, 3, .ref text_33), (nw, 14, 4, .int pu), (ol, 14, 7, .ref end_23), (ol, 14, 6, .ref begin_20), (r0, 16, 41, .ref dd), (r0, 16, 42, .int dc), (r0, 16, 60, .ref co), (r0, 16, 61, .ref cs), (r0, 16, 46, .ref ol), (r0, 16, 47, .ref nw), (r0, 16, 71, .ref td), (r0, 16, 43, .ref yg), (r0, 16, 44, .int pu)]) [1, 2, 3, 4, 5, 6, 7, 8, 9, 10, 11, 12, 13, 14, 15, 16] rfl (M1 := [(begin_44, 190, 40, ca 1, gb_40), (end_47, 191, 40, ca 1, ge_40), (text_33, 101, 1500, ca 1, fv_35), (yg, 101, 3100, ca 1, fg), (cs, 207, 2, ca 1, fs)]) [2, 3, 4, 5, 6] rfl (I1 := [(jFs, jDY dC dI ca G0 none (jUn (jUn sn ol qs_13) nw qs_40)), (jF9, jVl dC dI G0 9 ck), ([(201, 0)], jQc dC dI (ca 4) dd 3 fd), ([(208, 0)], jQc dC dI (ca 4) co 2 fo)]) [0, 1, 2, 3] rfl) (by first | omega | (refine ⟨?_, ?_, ?_⟩ <;> (first | omega | rfl | assumption | decide | exact Or.inl rfl | exact Or.inr rfl | (simp only; omega)))) (by omega) _ (lv_sub hl [1, 2, 0] rfl)
              exact L100 (40 - (0 : Int32).toInt : Int).toNat.succ 0 _ _ hh_52 (by first | omega | (refine ⟨?_, ?_, ?_⟩ <;> (first | omega | rfl | assumption | decide | exact Or.inl rfl | exact Or.inr rfl | (simp only; omega)))) (by omega) _ (lv_sub hl [1, 2, 0] rfl)
            · skip
              have c_36' : v2_35.toInt < pu.toInt := jb_ge_n (rfl) (rfl) c_36
              refine lv_aload_n hx hb dX14_same_70 rfl (lv_at hl 0 rfl) ?_
              refine j7_read hx hb hown hK (C := RX14) (T := TX14) (N := 74) rfl hly_16_47 hlk_88 (hh_35.at 10 rfl) dX14_same_71 ?_
              refine j7_readN hx hb hown hK (C := RX12) (T := TX12) (N := 11) rfl hly_14_3 hlk_529 (hh_35.at 0 rfl) dX14_same_74 ?_
              refine lv_iload_n hx hb dX14_same_77 rfl (lv_at hl 2 rfl) ?_
              refine lv_aload_n hx hb dX14_same_78 rfl (lv_at hl 0 rfl) ?_
              refine j7_read hx hb hown hK (C := RX14) (T := TX14) (N := 74) rfl hly_16_43 hlk_78 (hh_35.at 12 rfl) dX14_same_79 ?_
              refine lv_iload_n hx hb dX14_same_82 rfl (lv_at hl 2 rfl) ?_
              refine j7_ialdM hx hb hK hh_35 hB101 1 rfl (by decide) hg_yg (x := v2_35.toInt) (rfl) (by omega) (j := 3) rfl dX14_same_83 (fun z_65 ez_65 (hz_65 : True) => ?_)
              have hqz_65 : z_65.toInt = jSo fg (v2_35.toInt) := by unfold jSo; rw [ez_65]
              have hc_66 := (hh_35.2.2.2.2.2.2.2.1 _ (List.mem_of_getElem? (i := 0) rfl)).2.2.2
              have hh_68 := hh_35.sub (L1 := [(nw, 14, 3, .ref text_33), (nw, 14, 4, .int pu), (ol, 14, 5, .int qs_13), (ol, 14, 7, .ref end_23), (ol, 14, 6, .ref begin_20), (r0, 16, 41, .ref dd), (r0, 16, 42, .int dc), (r0, 16, 60, .ref co), (r0, 16, 61, .ref cs), (r0, 16, 46, .ref ol), (r0, 16, 47, .ref nw), (r0, 16, 71, .ref td), (r0, 16, 43, .ref yg), (r0, 16, 44, .int pu)]) [0, 1, 2, 3, 4, 5, 6, 7, 8, 9, 10, 11, 12, 13] rfl (M1 := [(begin_20, 190, 40, ca 1, gb_13), (end_23, 191, 40, ca 1, ge_13), (yg, 101, 3100, ca 1, fg), (cs, 207, 2, ca 1, fs)]) [1, 2, 3, 4] rfl (I1 := [(jFs, jDY dC dI ca G0 none (jUn sn ol qs_13)), (jF9, jVl dC dI G0 9 ck), ([(201, 0)], jQc dC dI (ca 4) dd 3 fd), ([(208, 0)], jQc dC dI (ca 4) co 2 fo)]) [0, 1, 2, 3] rfl
              clear hh_35
              refine j7_iastL hx hb hK hh_68 hB hB101 1 rfl (by decide) (by decide) rfl rfl rfl hg_text_33 (x := v2_35.toInt) (rfl) (by omega) (trivial) dX14_same_84 (fun H_66 locs_66 fs_67 hv_66 ho_66 hh_66 => ?_)
              have hv_66 : jSo fs_67 (v2_35.toInt) = z_65.toInt := by unfold jSo; rw [hv_66]; try exact rfl
              have ho_66 := ho_66 fv_35 hc_66
              clear hc_66
              clear hh_68
              obtain ⟨z_69, ez_69⟩ : ∃ y : Int32, y = v2_35 + 1 := ⟨_, rfl⟩
              refine lv_iinc (v := z_69) (lv' := [(2, .int z_69), (0, .ref r0), (1, .ref r1)]) hx hb dX14_same_85 hl (k := 2) rfl (by rw [ez_69]; rfl) (by decide) rfl (fun ls hl => ?_)
              have hz_69 : z_69.toInt = v2_35.toInt + 1 := by rw [ez_69]; exact jb_iadd2 (rfl) (by decide) (by omega)
              refine lv_goto (tgt := 62) hx hb dX14_same_88 (by decide) ?_
              exact L62 z_69 fs_67 _ _ hh_66 (by refine ⟨by omega, by omega, ?_⟩; exact hi_35_2.snoc (k := 1500) (by omega) (by omega) (by rw [hv_66, hqz_65]) (fun j h1 h2 => ho_66 j (by omega) h2) (by omega)) (by omega) _ (lv_sub hl [1, 2, 0] rfl)
        exact L62 (pu.toInt - (0 : Int32).toInt : Int).toNat.succ 0 f_text_34 _ _ (hh_34.sub (L1 := [(nw, 14, 3, .ref text_33), (nw, 14, 4, .int pu), (ol, 14, 5, .int qs_13), (ol, 14, 7, .ref end_23), (ol, 14, 6, .ref begin_20), (r0, 16, 41, .ref dd), (r0, 16, 42, .int dc), (r0, 16, 60, .ref co), (r0, 16, 61, .ref cs), (r0, 16, 46, .ref ol), (r0, 16, 47, .ref nw), (r0, 16, 71, .ref td), (r0, 16, 43, .ref yg), (r0, 16, 44, .int pu)]) [0, 1, 2, 3, 4, 6, 7, 8, 9, 10, 11, 12, 13, 14] rfl (M1 := [(text_33, 101, 1500, ca 1, f_text_34), (begin_20, 190, 40, ca 1, gb_13), (end_23, 191, 40, ca 1, ge_13), (yg, 101, 3100, ca 1, fg), (cs, 207, 2, ca 1, fs)]) [0, 1, 2, 4, 5] rfl (I1 := [(jFs, jDY dC dI ca G0 none (jUn sn ol qs_13)), (jF9, jVl dC dI G0 9 ck), ([(201, 0)], jQc dC dI (ca 4) dd 3 fd), ([(208, 0)], jQc dC dI (ca 4) co 2 fo)]) [0, 1, 2, 3] rfl) (by refine ⟨by omega, by omega, ?_⟩; rw [hk0]; exact jEqU.nil _ _) (by omega) _ (lv_sub hl [1, 2, 0] rfl)
      · skip
        have c_9' : v2_5.toInt < units_8.toInt := jb_ge_n (rfl) (rfl) c_9
        refine lv_aload_n hx hb dX14_same_21 rfl (lv_at hl 0 rfl) ?_
        refine j7_read hx hb hown hK (C := RX14) (T := TX14) (N := 74) rfl hly_16_46 hlk_84 (hh_7.at 6 rfl) dX14_same_22 ?_
        obtain ⟨v_70, hv_70, hh_71⟩ := hh_7.pin (C := RX12) (T := TX12) (N := 11) hB14 rfl (by decide) hg_ol (i := 3) (by decide) rfl
        clear hh_7
        obtain ⟨text_72, rfl, hg_text_72⟩ := hv_70
        refine j7_readN hx hb hown hK (C := RX12) (T := TX12) (N := 11) rfl hly_14_3 hlk_529 (hh_71.at 0 rfl) dX14_same_25 ?_
        refine lv_iload_n hx hb dX14_same_28 rfl (lv_at hl 2 rfl) ?_
        refine lv_aload_n hx hb dX14_same_29 rfl (lv_at hl 1 rfl) ?_
        obtain ⟨v_73, hv_73, hh_74⟩ := hh_71.pin (C := RX12) (T := TX12) (N := 11) hB14 rfl (by decide) hg_r1 (i := 3) (by decide) rfl
        clear hh_71
        obtain ⟨text_75, rfl, hg_text_75⟩ := hv_73
        refine j7_readN hx hb hown hK (C := RX12) (T := TX12) (N := 11) rfl hly_14_3 hlk_529 (hh_74.at 0 rfl) dX14_same_30 ?_
        refine lv_iload_n hx hb dX14_same_33 rfl (lv_at hl 2 rfl) ?_
        refine j7_iald hx hb hK hh_74 hB101 1 rfl (by decide) hg_text_75 (x := v2_5.toInt) (rfl) (by omega) dX14_same_34 (fun z_76 (hz_76 : True) => ?_)
        refine j7_iastL hx hb hK hh_74 hB hB101 1 rfl (by decide) (by decide) rfl rfl rfl hg_text_72 (x := v2_5.toInt) (rfl) (by omega) (trivial) dX14_same_35 (fun H_77 locs_77 fs_78 hv_77 ho_77 hh_77 => ?_)
        have hv_77 : jSo fs_78 (v2_5.toInt) = z_76.toInt := by unfold jSo; rw [hv_77]; try exact rfl
        clear hh_74
        obtain ⟨z_79, ez_79⟩ : ∃ y : Int32, y = v2_5 + 1 := ⟨_, rfl⟩
        refine lv_iinc (v := z_79) (lv' := [(2, .int z_79), (0, .ref r0), (1, .ref r1)]) hx hb dX14_same_36 hl (k := 2) rfl (by rw [ez_79]; rfl) (by decide) rfl (fun ls hl => ?_)
        have hz_79 : z_79.toInt = v2_5.toInt + 1 := by rw [ez_79]; exact jb_iadd2 (rfl) (by decide) (by omega)
        refine lv_goto (tgt := 13) hx hb dX14_same_39 (by decide) ?_
        exact L13 z_79 _ _ (hh_77.sub (L1 := [(ol, 14, 4, .int units_3), (r0, 16, 41, .ref dd), (r0, 16, 42, .int dc), (r0, 16, 60, .ref co), (r0, 16, 61, .ref cs), (r0, 16, 46, .ref ol), (r0, 16, 47, .ref nw), (r0, 16, 71, .ref td), (r0, 16, 43, .ref yg), (r0, 16, 44, .int pu)]) [3, 4, 5, 6, 7, 8, 9, 10, 11, 12] rfl (M1 := [(yg, 101, 3100, ca 1, fg), (cs, 207, 2, ca 1, fs)]) [1, 2] rfl (I1 := [(jFs, jDY dC dI ca G0 none sn), (jF9, jVl dC dI G0 9 ck), ([(201, 0)], jQc dC dI (ca 4) dd 3 fd), ([(208, 0)], jQc dC dI (ca 4) co 2 fo)]) [0, 1, 2, 3] rfl) (by first | omega | (refine ⟨?_, ?_⟩ <;> (first | omega | rfl | assumption | decide | exact Or.inl rfl | exact Or.inr rfl | (simp only; omega)))) (by omega) _ (lv_sub hl [1, 2, 0] rfl)
  exact L13 (1500 - (0 : Int32).toInt : Int).toNat.succ 0 _ _ hh_4 (by first | omega | (refine ⟨?_, ?_⟩ <;> (first | omega | rfl | assumption | decide | exact Or.inl rfl | exact Or.inr rfl | (simp only; omega)))) (by omega) _ (lv_sub hl [1, 2, 0] rfl)
