section
theorem dX11_begin_0 : decode cX11_begin 0 = .ok (.aload_n 1, 1) := by decide +kernel
theorem dX11_begin_1 : decode cX11_begin 1 = .ok (.getfield 171, 3) := by decide +kernel
theorem dX11_begin_4 : decode cX11_begin 4 = .ok (.istore_n 2, 1) := by decide +kernel
theorem dX11_begin_5 : decode cX11_begin 5 = .ok (.iload_n 2, 1) := by decide +kernel
theorem dX11_begin_6 : decode cX11_begin 6 = .ok (.ifCond .lt 9, 3) := by decide +kernel
theorem dX11_begin_9 : decode cX11_begin 9 = .ok (.iload_n 2, 1) := by decide +kernel
theorem dX11_begin_10 : decode cX11_begin 10 = .ok (.bipush 40, 2) := by decide +kernel
theorem dX11_begin_12 : decode cX11_begin 12 = .ok (.if_icmp .lt 4, 3) := by decide +kernel
theorem dX11_begin_16 : decode cX11_begin 16 = .ok (.aload_n 1, 1) := by decide +kernel
theorem dX11_begin_17 : decode cX11_begin 17 = .ok (.iload_n 2, 1) := by decide +kernel
theorem dX11_begin_18 : decode cX11_begin 18 = .ok (.aload_n 0, 1) := by decide +kernel
theorem dX11_begin_19 : decode cX11_begin 19 = .ok (.getfield 41, 3) := by decide +kernel
theorem dX11_begin_22 : decode cX11_begin 22 = .ok (.getfield 217, 3) := by decide +kernel
theorem dX11_begin_25 : decode cX11_begin 25 = .ok (.invokevirtual 221, 3) := by decide +kernel
theorem dX11_begin_28 : decode cX11_begin 28 = .ok (.astore_n 3, 1) := by decide +kernel
theorem dX11_begin_29 : decode cX11_begin 29 = .ok (.aload_n 1, 1) := by decide +kernel
theorem dX11_begin_30 : decode cX11_begin 30 = .ok (.aconst_null, 1) := by decide +kernel
theorem dX11_begin_31 : decode cX11_begin 31 = .ok (.putfield 580, 3) := by decide +kernel
theorem dX11_begin_34 : decode cX11_begin 34 = .ok (.iconst 0, 1) := by decide +kernel
theorem dX11_begin_35 : decode cX11_begin 35 = .ok (.istore 4, 2) := by decide +kernel
theorem dX11_begin_37 : decode cX11_begin 37 = .ok (.iload 4, 2) := by decide +kernel
theorem dX11_begin_39 : decode cX11_begin 39 = .ok (.aload_n 0, 1) := by decide +kernel
theorem dX11_begin_40 : decode cX11_begin 40 = .ok (.getfield 68, 3) := by decide +kernel
theorem dX11_begin_43 : decode cX11_begin 43 = .ok (.invokeinterface 142 1, 5) := by decide +kernel
theorem dX11_begin_48 : decode cX11_begin 48 = .ok (.if_icmp .ge 63, 3) := by decide +kernel
theorem dX11_begin_51 : decode cX11_begin 51 = .ok (.aload_n 1, 1) := by decide +kernel
theorem dX11_begin_52 : decode cX11_begin 52 = .ok (.getfield 580, 3) := by decide +kernel
theorem dX11_begin_55 : decode cX11_begin 55 = .ok (.ifnonnull 56, 3) := by decide +kernel
theorem dX11_begin_58 : decode cX11_begin 58 = .ok (.aload_n 0, 1) := by decide +kernel
theorem dX11_begin_59 : decode cX11_begin 59 = .ok (.getfield 68, 3) := by decide +kernel
theorem dX11_begin_62 : decode cX11_begin 62 = .ok (.iload 4, 2) := by decide +kernel
theorem dX11_begin_64 : decode cX11_begin 64 = .ok (.invokeinterface 249 2, 5) := by decide +kernel
theorem dX11_begin_69 : decode cX11_begin 69 = .ok (.checkcast 189, 3) := by decide +kernel
theorem dX11_begin_72 : decode cX11_begin 72 = .ok (.astore 5, 2) := by decide +kernel
theorem dX11_begin_74 : decode cX11_begin 74 = .ok (.aload_n 1, 1) := by decide +kernel
theorem dX11_begin_75 : decode cX11_begin 75 = .ok (.iload_n 2, 1) := by decide +kernel
theorem dX11_begin_76 : decode cX11_begin 76 = .ok (.aload 5, 2) := by decide +kernel
theorem dX11_begin_78 : decode cX11_begin 78 = .ok (.getfield 596, 3) := by decide +kernel
theorem dX11_begin_81 : decode cX11_begin 81 = .ok (.invokevirtual 599, 3) := by decide +kernel
theorem dX11_begin_84 : decode cX11_begin 84 = .ok (.ifCond .eq 21, 3) := by decide +kernel
theorem dX11_begin_87 : decode cX11_begin 87 = .ok (.aload 5, 2) := by decide +kernel
theorem dX11_begin_89 : decode cX11_begin 89 = .ok (.getfield 602, 3) := by decide +kernel
theorem dX11_begin_92 : decode cX11_begin 92 = .ok (.aload_n 3, 1) := by decide +kernel
theorem dX11_begin_93 : decode cX11_begin 93 = .ok (.invokestatic 605, 3) := by decide +kernel
theorem dX11_begin_96 : decode cX11_begin 96 = .ok (.ifCond .eq 9, 3) := by decide +kernel
theorem dX11_begin_99 : decode cX11_begin 99 = .ok (.aload_n 1, 1) := by decide +kernel
theorem dX11_begin_100 : decode cX11_begin 100 = .ok (.aload 5, 2) := by decide +kernel
theorem dX11_begin_102 : decode cX11_begin 102 = .ok (.putfield 580, 3) := by decide +kernel
theorem dX11_begin_105 : decode cX11_begin 105 = .ok (.iinc 4 1, 3) := by decide +kernel
theorem dX11_begin_108 : decode cX11_begin 108 = .ok (.goto (-71), 3) := by decide +kernel
theorem dX11_begin_111 : decode cX11_begin 111 = .ok (.aload_n 1, 1) := by decide +kernel
theorem dX11_begin_112 : decode cX11_begin 112 = .ok (.getfield 580, 3) := by decide +kernel
theorem dX11_begin_115 : decode cX11_begin 115 = .ok (.ifnull 22, 3) := by decide +kernel
theorem dX11_begin_118 : decode cX11_begin 118 = .ok (.aload_n 1, 1) := by decide +kernel
theorem dX11_begin_119 : decode cX11_begin 119 = .ok (.aload_n 1, 1) := by decide +kernel
theorem dX11_begin_120 : decode cX11_begin 120 = .ok (.getfield 580, 3) := by decide +kernel
theorem dX11_begin_123 : decode cX11_begin 123 = .ok (.getfield 596, 3) := by decide +kernel
theorem dX11_begin_126 : decode cX11_begin 126 = .ok (.putfield 567, 3) := by decide +kernel
theorem dX11_begin_129 : decode cX11_begin 129 = .ok (.aload_n 1, 1) := by decide +kernel
theorem dX11_begin_130 : decode cX11_begin 130 = .ok (.iconst 1, 1) := by decide +kernel
theorem dX11_begin_131 : decode cX11_begin 131 = .ok (.putfield 577, 3) := by decide +kernel
theorem dX11_begin_134 : decode cX11_begin 134 = .ok (.goto 36, 3) := by decide +kernel
theorem dX11_begin_137 : decode cX11_begin 137 = .ok (.aload_n 1, 1) := by decide +kernel
theorem dX11_begin_138 : decode cX11_begin 138 = .ok (.aload_n 1, 1) := by decide +kernel
theorem dX11_begin_139 : decode cX11_begin 139 = .ok (.getfield 174, 3) := by decide +kernel
theorem dX11_begin_142 : decode cX11_begin 142 = .ok (.aload_n 1, 1) := by decide +kernel
theorem dX11_begin_143 : decode cX11_begin 143 = .ok (.getfield 182, 3) := by decide +kernel
theorem dX11_begin_146 : decode cX11_begin 146 = .ok (.iload_n 2, 1) := by decide +kernel
theorem dX11_begin_147 : decode cX11_begin 147 = .ok (.iaload, 1) := by decide +kernel
theorem dX11_begin_148 : decode cX11_begin 148 = .ok (.aload_n 1, 1) := by decide +kernel
theorem dX11_begin_149 : decode cX11_begin 149 = .ok (.getfield 185, 3) := by decide +kernel
theorem dX11_begin_152 : decode cX11_begin 152 = .ok (.iload_n 2, 1) := by decide +kernel
theorem dX11_begin_153 : decode cX11_begin 153 = .ok (.iaload, 1) := by decide +kernel
theorem dX11_begin_154 : decode cX11_begin 154 = .ok (.invokestatic 211, 3) := by decide +kernel
theorem dX11_begin_157 : decode cX11_begin 157 = .ok (.putfield 567, 3) := by decide +kernel
theorem dX11_begin_160 : decode cX11_begin 160 = .ok (.aload_n 1, 1) := by decide +kernel
theorem dX11_begin_161 : decode cX11_begin 161 = .ok (.aload_n 1, 1) := by decide +kernel
theorem dX11_begin_162 : decode cX11_begin 162 = .ok (.getfield 193, 3) := by decide +kernel
theorem dX11_begin_165 : decode cX11_begin 165 = .ok (.iload_n 2, 1) := by decide +kernel
theorem dX11_begin_166 : decode cX11_begin 166 = .ok (.iaload, 1) := by decide +kernel
theorem dX11_begin_167 : decode cX11_begin 167 = .ok (.putfield 577, 3) := by decide +kernel
theorem dX11_begin_170 : decode cX11_begin 170 = .ok (.return_, 1) := by decide +kernel
def EX11_nextToCheckE : List (Nat × Nat) := []
def EX11_beginE : List (Nat × Nat) := [(3, 11), (3, 12), (3, 13), (101, 0)]
set_option maxHeartbeats 4000000 in
set_option maxRecDepth 20000 in
theorem uX11_nextToCheckE (l : Launch) (dC : Nat → ClassId) (dI : Nat → Nat → Nat) (ca : Nat → ClassId) (base : Nat) (B : jF) (hB : jBok B) (hAp : jAp (dC, dI)) (hB1 : ∀ n G a H, B 1 n G a H ↔ jOb (dC, dI) 1 3 (F1 n G) a H) (hB3 : ∀ n G a H, B 3 n G a H ↔ jOb (dC, dI) 3 17 (F3 n G) a H) (hB10 : ∀ n G a H, B 10 n G a H ↔ jOb (dC, dI) 10 5 (F10 n G) a H) (hB13 : ∀ n G a H, B 13 n G a H ↔ jOb (dC, dI) 13 19 (F13 n G) a H) (hB101 : ∀ n G a H, B 101 n G a H ↔ jAr (dC, dI) (ca 1) (fun j z => True) n a H) (hB221 : ∀ n G a H, B 221 n G a H ↔ jAq (dC, dI) (ca 9) (jQn 3 0) n G a H) (hB222 : ∀ n G a H, B 222 n G a H ↔ jAq (dC, dI) (ca 9) (jQn 10 0) n G a H) (G0 : jT) (H0 : Heap) (r0 : Nat) (ph : Nat) (sn : Nat → Int32) (ck : Nat → Int32) (vn : Nat → Value) (wl : jWl9) : Met l yX11_nextToCheck (jw yX11_nextToCheck cX11_nextToCheck 4 (some (.object "ProofServer$Document"))) ({ frames := 4, cells := 0, slots := 0, locals := 86 }) (va_Pc [.ref r0] (fun U => U.heap = H0 ∧ jX B base G0 [] H0 ∧ jG dC dI ca base U ∧ jK7 dC dI ca base U ∧ G0 r0 = some (13, 0) ∧ jP (dC, dI) G0 H0 [] ∧ jIs (dC, dI) G0 H0 [(jFl, jLs dC dI ca G0 3 none wl), (jFdo, jDcx dC dI ca G0 ph sn ck vn)] ∧ True)) (jQx (S := Unit) (fun v u => jRp G0 3 0 (fun x => (ck x).toInt < (sn x).toInt ∧ vn x = .null) v) (fun u t => (jRt (dC, dI) B base G0 EX11_nextToCheckE H0 [] t.heap) ∧ jIs (dC, dI) G0 t.heap [(jFl, jLs dC dI ca G0 3 none wl), (jFdo, jDcx dC dI ca G0 ph sn ck vn)]) (jA base)) 0 0 (jA base) := by
  refine Met.ofW (cc := cX11_nextToCheck) (maxL := 4) (ret := (some (.object "ProofServer$Document"))) (by decide) rfl ?_
  intro p e s m args below meth c s₁ Bd hml hv
  obtain ⟨rfl, hH0, hX, hG, hK7, hg_r0, hP0, hI0, hp0⟩ := hv
  have hK := hG.1
  have hx := Bd.exec
  have hb := Bd.bytes
  have hr := Bd.returns
  have hts := atoms_spec (ws := (jw yX11_nextToCheck cX11_nextToCheck 4 (some (.object "ProofServer$Document")))) Bd.pre
  have htw : ∀ w ∈ jWl, w.before _ s = true := fun w h => hts w (List.mem_cons_of_mem _ h)
  have hown : s.vm.findClass RX11 = some m.cls := findClass_of_methodNamed Bd.named
  have hlocks := Bd.notSynchronized
  obtain ⟨Q, hQ⟩ : ∃ Q, Q = MQ below (jQx (S := Unit) (fun v u => jRp G0 3 0 (fun x => (ck x).toInt < (sn x).toInt ∧ vn x = .null) v) (fun u t => (jRt (dC, dI) B base G0 EX11_nextToCheckE H0 [] t.heap) ∧ jIs (dC, dI) G0 t.heap [(jFl, jLs dC dI ca G0 3 none wl), (jFdo, jDcx dC dI ca G0 ph sn ck vn)]) (jA base)) ([.ref r0] : List Value).toArray s 0 0 (jA base) := ⟨_, rfl⟩
  rw [← hQ]
  have hl := lv_entry ([.ref r0]) (n := 4) (Nat.le_of_ble_eq_true rfl)
  rw [lg_entry_eq]
  generalize (lg_sl ([.ref r0]) ++ List.replicate (4 - (lg_sl ([.ref r0])).length) Slot.unset).toArray = ls at hl ⊢
  have hl : lv_has ls 4 [(0, .ref r0)] := hl
  generalize hR : (headSpec (jw yX11_nextToCheck cX11_nextToCheck 4 (some (.object "ProofServer$Document"))) ({ frames := 4, cells := 0, slots := 0, locals := 86 })).room = R
  subst hH0
  have hh : jSt (dC, dI) B base G0 G0 EX11_nextToCheckE s.heap 0 0 [] [] [(jFl, jLs dC dI ca G0 3 none wl), (jFdo, jDcx dC dI ca G0 ph sn ck vn)] s.heap [] := jSt.start hX hP0 jMc.nil hI0
  clear hX hP0
  have hk0 : (0 : Int32).toInt = 0 := by decide
  have hk1 : (1 : Int32).toInt = 1 := by decide
  have hly_3_4 := htw (u_lay RX1 TX1 4) (jWc_wsX10 _ (u_in_lay (by decide)))
  have hly_3_10 := htw (u_lay RX1 TX1 10) (jWc_wsX10 _ (u_in_lay (by decide)))
  have hly_3_11 := htw (u_lay RX1 TX1 11) (jWc_wsX10 _ (u_in_lay (by decide)))
  have hly_13_7 := htw (u_lay RX11 TX11 7) (jWc_wsX110 _ (u_in_lay (by decide)))
  have hlk_61 := (htw (.fieldLink RX11 61 "ProofServer" "open" "Ljava/util/List;") (jWr_2 _ (List.mem_of_getElem? (i := 14) rfl)))
  have hlk_567 := (htw (.fieldLink RX11 567 "ProofServer$Document" "checking" "[I") (jWr_43 _ (List.mem_of_getElem? (i := 7) rfl)))
  have hlk_171 := (htw (.fieldLink RX11 171 "ProofServer$Document" "checked" "I") (jWr_35 _ (List.mem_of_getElem? (i := 17) rfl)))
  have hlk_168 := (htw (.fieldLink RX11 168 "ProofServer$Document" "sentences" "I") (jWr_35 _ (List.mem_of_getElem? (i := 4) rfl)))
  refine lv_null hx hb dX11_nextToCheck_0 ?_
  refine j7_nst_n (lv' := [(1, .null), (0, .ref r0)]) hx hb dX11_nextToCheck_1 rfl hl (by decide) rfl (fun ls hl => ?_)
  refine lv_iconst (v := 0) hx hb dX11_nextToCheck_2 (by decide) ?_
  refine lv_istore_n (lv' := [(2, .int 0), (1, .null), (0, .ref r0)]) hx hb dX11_nextToCheck_3 rfl hl (by decide) rfl (fun ls hl => ?_)
  have L4 : ∀ (N : Nat) (v1_1 : Option Nat) (v2_1 : Int32) (H_1 : Heap) (locs_1 : List Loc), jSt (dC, dI) B base G0 G0 EX11_nextToCheckE s.heap 0 0 [] [] [(jFl, jLs dC dI ca G0 3 none wl), (jFdo, jDcx dC dI ca G0 ph sn ck vn)] H_1 locs_1 → (v1_1 = none ∨ ∃ x, v1_1 = some x ∧ G0 x = some (3, 0) ∧ (ck x).toInt < (sn x).toInt ∧ vn x = .null) → (0 ≤ v2_1.toInt ∧ v2_1.toInt ≤ 40) → (41 - v2_1.toInt : Int) < N → ∀ ls : Array Slot, lv_has ls 4 [(0, .ref r0), (1, va_rf v1_1), (2, .int v2_1)] → W p l e R s m ([.ref r0] : List Value).toArray below meth c H_1 locs_1 0 0 Q (F0 m 4 ls []) := by
    intro N
    induction N with
    | zero => intro v1_1 v2_1 H_1 locs_1 hh_1 hq_v1_1 hi_1 hm; exact absurd hm (by omega)
    | succ N L4 =>
      intro v1_1 v2_1 H_1 locs_1 hh_1 hq_v1_1 hi_1 hm_1 ls hl
      obtain ⟨hi_1_0, hi_1_1⟩ := hi_1
      rcases hq_v1_1 with rfl | ⟨nv_2, rfl, hg_nv_2, hp_nv_2⟩
      · have hl : lv_has ls 4 [(0, .ref r0), (1, .null), (2, .int v2_1)] := hl
        refine lv_iload_n hx hb dX11_nextToCheck_4 rfl (lv_at hl 2 rfl) ?_
        refine lv_aload_n hx hb dX11_nextToCheck_5 rfl (lv_at hl 0 rfl) ?_
        obtain ⟨v_3, hv_3, hh_4⟩ := hh_1.pin (C := RX11) (T := TX11) (N := 19) hB13 rfl (by decide) hg_r0 (i := 7) (by decide) rfl
        clear hh_1
        obtain ⟨open_5, rfl, hg_open_5⟩ := hv_3
        refine j7_read hx hb hown hK (C := RX11) (T := TX11) (N := 19) rfl hly_13_7 hlk_61 (hh_4.at 0 rfl) dX11_nextToCheck_6 ?_
        obtain ⟨v_8, hv_8, hh_9⟩ := hh_4.pin (C := RJx4a65c) (T := TJx4a65c) (N := 3) hB1 rfl (by decide) hg_open_5 (i := 2) (by decide) rfl
        obtain ⟨size_10, rfl, hlosize_10, hhisize_10⟩ := hv_8
        refine va_callFi (A0 := jA base) (H0 := s.heap) (va_runF (hK.1 1 _ rfl).2 (As := []) (rest := [.int v2_1]) ⟨hx, hb, hml, hown, hts⟩ (uJx4a65c_size_8abf5 l dC dI ca base B hB hAp hB1 G0 H_1 open_5 1 size_10) (va_cwF 0 hts (jgF (jWr_27 _ (List.mem_of_getElem? (i := 22) rfl)) (jWr_27 _ (List.mem_of_getElem? (i := 23) rfl)) (jWr_28 _ (List.mem_of_getElem? (i := 0) rfl)) (jWr_2 _ (List.mem_of_getElem? (i := 13) rfl)) (jWr_28 _ (List.mem_of_getElem? (i := 1) rfl))) rfl rfl rfl hK7.2.2.2.2.2.1.1 ⟨by decide, by decide, by decide +kernel⟩ ⟨by rw [← hR]; exact Nat.le_of_ble_eq_true rfl, by rw [← hR]; exact Nat.le_of_ble_eq_true rfl⟩) ⟨fun a U g mk q => by obtain ⟨q0, q1, q2, qK, q10, q11, q12⟩ := q; exact ⟨q0, q1, q2, jG.calling g mk a qK, q10, q11, q12⟩, hh_9.recv (C := RJx4a65c) (T := TJx4a65c) (N := 3) hB1 rfl (by decide) hg_open_5 hK, fun U hU hW => ⟨rfl, hU, hh_9.2.1, hG.step hW hU hh_9.1, hg_open_5, (hh_9.2.2.1.sub (L1 := [(open_5, 1, 2, .int size_10)]) [0] rfl), trivial⟩⟩ rfl rfl hl.1 rfl (lv_room (Nat.le_of_ble_eq_true rfl)) dX11_nextToCheck_9 ⟨Nat.zero_le _, Nat.zero_le _⟩) hh_9.1 (fun q _ h => h) (fun q h => h) (fun r_7 u_6 t_6 H_6 locs_6 ht_6 hvm_6 hr_7 hb_6 hz_6 hk_6 hS_6 => ?_)
        rw [ht_6] at hb_6
        obtain ⟨hb_61, hb_62, hb_63, hb_64, hb_65⟩ := hb_6
        have hh_6 : jSt (dC, dI) B base G0 G0 EX11_nextToCheckE s.heap 0 0 [(open_5, 1, 2, .int size_10), (r0, 13, 7, .ref open_5)] [] [(jFl, jLs dC dI ca G0 3 none wl), (jFdo, jDcx dC dI ca G0 ph sn ck vn)] H_6 locs_6 := ((hh_9.call hb_61 hb_62 hb_63 hb_64 hS_6 rfl (L1 := [(open_5, 1, 2, .int size_10), (r0, 13, 7, .ref open_5)]) [0, 1] rfl rfl (M1 := []) [] rfl rfl (I1 := [(jFl, jLs dC dI ca G0 3 none wl), (jFdo, jDcx dC dI ca G0 ph sn ck vn)]) [0, 1] rfl rfl).more hb_65)
        clear hh_9 ht_6 hvm_6 hz_6 hk_6 hS_6 hb_61 hb_62 hb_63 hb_64 hb_65
        refine lv_icmp_ge (tgt := 71) hx hb dX11_nextToCheck_14 (by decide) (fun c_11 => ?_) (fun c_11 => ?_)
        · skip
          have c_11' : v2_1.toInt ≥ r_7.toInt := jb_ge (rfl) (rfl) c_11
          refine j7_nld_n hx hb dX11_nextToCheck_71 rfl (lv_at hl 1 rfl) ?_
          rw [hQ]
          exact W.aret (v := .null) hx hb hr (Or.inl ⟨_, rfl⟩) (Or.inl rfl) (fun t ht hW => ⟨⟨.null, (), rfl, Or.inl rfl, ⟨hh_6.rt (M1 := []) [] rfl ht, by rw [ht]; exact hh_6.2.2.2.2.2.2.2.2.sub (L1 := [(jFl, jLs dC dI ca G0 3 none wl), (jFdo, jDcx dC dI ca G0 ph sn ck vn)]) [0, 1] rfl⟩⟩, by rw [ht]; try exact hh_6.1.1, fun q h9 hq => by rw [ht]; try exact hh_6.1.2.1 q h9 hq⟩) hh_6.1.2.2 dX11_nextToCheck_72
        · skip
          have c_11' : v2_1.toInt < r_7.toInt := jb_ge_n (rfl) (rfl) c_11
          refine lv_aload_n hx hb dX11_nextToCheck_17 rfl (lv_at hl 0 rfl) ?_
          refine j7_read hx hb hown hK (C := RX11) (T := TX11) (N := 19) rfl hly_13_7 hlk_61 (hh_6.at 1 rfl) dX11_nextToCheck_18 ?_
          refine lv_iload_n hx hb dX11_nextToCheck_21 rfl (lv_at hl 2 rfl) ?_
          refine j_callFx (A0 := jA base) (H0 := s.heap) (va_runF (hK.1 1 _ rfl).2 (As := [.int v2_1]) (rest := []) ⟨hx, hb, hml, hown, hts⟩ (uJx4a65c_get_915e3L1 l dC dI ca base B hB hAp hB1 hB3 hB221 G0 H_6 open_5 v2_1 size_10 wl) (va_cwF 1 hts (jgF (jWr_28 _ (List.mem_of_getElem? (i := 3) rfl)) (jWr_28 _ (List.mem_of_getElem? (i := 4) rfl)) (jWr_28 _ (List.mem_of_getElem? (i := 5) rfl)) (jWr_2 _ (List.mem_of_getElem? (i := 13) rfl)) (jWr_28 _ (List.mem_of_getElem? (i := 6) rfl))) rfl rfl rfl hK7.2.2.2.2.2.1.2.1 ⟨by decide, by decide, by decide +kernel⟩ ⟨by rw [← hR]; exact Nat.le_of_ble_eq_true rfl, by rw [← hR]; exact Nat.le_of_ble_eq_true rfl⟩) ⟨fun a U g mk q => by obtain ⟨q0, q1, q2, qK, q10, q11, q12, q13, q14⟩ := q; exact ⟨q0, q1, q2, jG.calling g mk a qK, (jK7.calling g mk a q10), q11, q12, q13, q14⟩, hh_6.recv (C := RJx4a65c) (T := TJx4a65c) (N := 3) hB1 rfl (by decide) hg_open_5 hK, fun U hU hW => ⟨rfl, hU, hh_6.2.1, hG.step hW hU hh_6.1, (hK7.step hW hU hh_6.1), hg_open_5, (hh_6.2.2.1.sub (L1 := [(open_5, 1, 2, .int size_10)]) [0] rfl), (hh_6.2.2.2.2.2.2.2.2.sub (L1 := [(jFl, jLs dC dI ca G0 3 none wl)]) [0] rfl), by first | omega | (refine ⟨?_, ?_⟩ <;> (first | omega | rfl | assumption | decide | exact Or.inl rfl | exact Or.inr rfl | (simp only; omega)))⟩⟩ rfl rfl hl.1 rfl (lv_room (Nat.le_of_ble_eq_true rfl)) dX11_nextToCheck_22 ⟨Nat.zero_le _, Nat.zero_le _⟩) hh_6.1 (fun q _ h => h) (fun q h => h) (fun r_13 u_12 t_12 H_12 locs_12 ht_12 hvm_12 hr_13 hb_12 hz_12 hk_12 hS_12 => ?_)
          rw [ht_12] at hb_12
          obtain ⟨hb_12, hbE_12⟩ := hb_12
          obtain ⟨hb_121, hb_122, hb_123, hb_124, hb_125⟩ := hb_12
          have hh_12 : jSt (dC, dI) B base G0 G0 EX11_nextToCheckE s.heap 0 0 [(open_5, 1, 2, .int size_10), (r0, 13, 7, .ref open_5)] [] [(jFl, jLs dC dI ca G0 3 none wl), (jFdo, jDcx dC dI ca G0 ph sn ck vn)] H_12 locs_12 := (((hh_6.call hb_121 hb_122 hb_123 hb_124 hS_12 rfl (L1 := [(open_5, 1, 2, .int size_10), (r0, 13, 7, .ref open_5)]) [0, 1] rfl rfl (M1 := []) [] rfl rfl (I1 := [(jFdo, jDcx dC dI ca G0 ph sn ck vn)]) [1] rfl rfl).more hb_125)).addIs hbE_12
          clear hh_6 ht_12 hvm_12 hz_12 hk_12 hS_12 hb_121 hb_122 hb_123 hb_124 hb_125
          clear  hbE_12
          obtain ⟨hr_13, hr_13p⟩ := hr_13
          obtain ⟨ret_14, rfl, hg_ret_14⟩ := hr_13
          refine va_castY hx hb hown (htw (.classLink RX11 71 "ProofServer$Document") (jWr_27 _ (List.mem_of_getElem? (i := 20) rfl))) hK7.2.2.1.1.2 (hh_12.recv (C := RX1) (T := TX1) (N := 17) hB3 rfl (by decide) hg_ret_14 hK) dX11_nextToCheck_27 ?_
          refine lv_astore_n (lv' := [(3, .ref ret_14), (0, .ref r0), (1, .null), (2, .int v2_1)]) hx hb dX11_nextToCheck_30 rfl hl (by decide) rfl (fun ls hl => ?_)
          refine lv_aload_n hx hb dX11_nextToCheck_31 rfl (lv_at hl 0 rfl) ?_
          obtain ⟨v_15, hv_15, hh_16⟩ := hh_12.pin (C := RX1) (T := TX1) (N := 17) hB3 rfl (by decide) hg_ret_14 (i := 11) (by decide) rfl
          clear hh_12
          rcases hv_15 with rfl | ⟨checking_17, nchecking_17, rfl, hg_checking_17, hn_checking_17⟩
          · refine j7_read hx hb hown hK (C := RX1) (T := TX1) (N := 17) rfl hly_3_11 hlk_567 (hh_16.at 0 rfl) dX11_nextToCheck_32 ?_
            refine lv_ifnonnullN hx hb dX11_nextToCheck_35 ?_
            refine lv_aload_n hx hb dX11_nextToCheck_38 rfl (lv_at hl 0 rfl) ?_
            obtain ⟨v_18, hv_18, hh_19⟩ := hh_16.pin (C := RX1) (T := TX1) (N := 17) hB3 rfl (by decide) hg_ret_14 (i := 10) (by decide) rfl
            clear hh_16
            obtain ⟨checked_20, rfl, hlochecked_20, hhichecked_20⟩ := hv_18
            refine j7_read hx hb hown hK (C := RX1) (T := TX1) (N := 17) rfl hly_3_10 hlk_171 (hh_19.at 0 rfl) dX11_nextToCheck_39 ?_
            refine lv_aload_n hx hb dX11_nextToCheck_42 rfl (lv_at hl 0 rfl) ?_
            obtain ⟨v_21, hv_21, hh_22⟩ := hh_19.pin (C := RX1) (T := TX1) (N := 17) hB3 rfl (by decide) hg_ret_14 (i := 4) (by decide) rfl
            clear hh_19
            obtain ⟨sentences_23, rfl, hlosentences_23, hhisentences_23⟩ := hv_21
            refine j7_read hx hb hown hK (C := RX1) (T := TX1) (N := 17) rfl hly_3_4 hlk_168 (hh_22.at 0 rfl) dX11_nextToCheck_43 ?_
            refine lv_icmp_ge (tgt := 65) hx hb dX11_nextToCheck_46 (by decide) (fun c_24 => ?_) (fun c_24 => ?_)
            · skip
              have c_24' : checked_20.toInt ≥ sentences_23.toInt := jb_ge (rfl) (rfl) c_24
              obtain ⟨z_25, ez_25⟩ : ∃ y : Int32, y = v2_1 + 1 := ⟨_, rfl⟩
              refine lv_iinc (v := z_25) (lv' := [(2, .int z_25), (3, .ref ret_14), (0, .ref r0), (1, .null)]) hx hb dX11_nextToCheck_65 hl (k := 3) rfl (by rw [ez_25]; rfl) (by decide) rfl (fun ls hl => ?_)
              have hz_25 : z_25.toInt = v2_1.toInt + 1 := by rw [ez_25]; exact jb_iadd2 (rfl) (by decide) (by omega)
              refine lv_goto (tgt := 4) hx hb dX11_nextToCheck_68 (by decide) ?_
              exact L4 none z_25 _ _ (hh_22.sub (L1 := []) [] rfl (M1 := []) [] rfl (I1 := [(jFl, jLs dC dI ca G0 3 none wl), (jFdo, jDcx dC dI ca G0 ph sn ck vn)]) [0, 1] rfl) (Or.inl rfl) (by first | omega | (refine ⟨?_, ?_⟩ <;> (first | omega | rfl | assumption | decide | exact Or.inl rfl | exact Or.inr rfl | (simp only; omega)))) (by omega) _ (lv_sub hl [2, 3, 0] rfl)
            · skip
              have c_24' : checked_20.toInt < sentences_23.toInt := jb_ge_n (rfl) (rfl) c_24
              have hlx4 : sn ret_14 = sentences_23 := Value.int.inj (jf.uniq ((hh_22.iv 1 rfl).2 _ _ hg_ret_14).1 (hh_22.at 0 rfl))
              have hlx10 : ck ret_14 = checked_20 := Value.int.inj (jf.uniq ((hh_22.iv 1 rfl).2 _ _ hg_ret_14).2.1 (hh_22.at 1 rfl))
              have hlx11 : vn ret_14 = .null := jf.uniq ((hh_22.iv 1 rfl).2 _ _ hg_ret_14).2.2 (hh_22.at 2 rfl)
              refine lv_aload_n hx hb dX11_nextToCheck_49 rfl (lv_at hl 1 rfl) ?_
              refine lv_aload_n hx hb dX11_nextToCheck_50 rfl (lv_at hl 0 rfl) ?_
              refine va_calli (A0 := jA base) (H0 := s.heap) (va_runV (As := [.ref ret_14]) (rest := []) ⟨hx, hb, hml, hown, hts⟩ (uX11_isAskedAbout l dC dI ca base B hB hAp hB1 hB3 hB10 hB13 hB222 G0 H_12 r0 ret_14 wl) (cwV 1 hts (jgV (jWr_76 _ (List.mem_of_getElem? (i := 23) rfl)) (jWr_77 _ (List.mem_of_getElem? (i := 0) rfl)) (jWr_77 _ (List.mem_of_getElem? (i := 1) rfl)) (jWr_1 _ (List.mem_of_getElem? (i := 2) rfl)) (jWr_77 _ (List.mem_of_getElem? (i := 2) rfl))) rfl rfl rfl (by decide +kernel) ⟨by rw [← hR]; exact Nat.le_of_ble_eq_true rfl, by rw [← hR]; exact Nat.le_of_ble_eq_true rfl⟩) ⟨fun a U g mk q => by obtain ⟨q0, q1, q2, qK, q10, q11, q12, q13, q14, q15⟩ := q; exact ⟨q0, q1, q2, jG.calling g mk a qK, (jK7.calling g mk a q10), q11, q12, q13, q14, q15⟩, hh_22.recv (C := RX11) (T := TX11) (N := 19) hB13 rfl (by decide) hg_r0 hK, fun U hU hW => ⟨rfl, hU, hh_22.2.1, hG.step hW hU hh_22.1, (hK7.step hW hU hh_22.1), hg_r0, hg_ret_14, jP.nil, (hh_22.2.2.2.2.2.2.2.2.sub (L1 := [(jFl, jLs dC dI ca G0 3 none wl)]) [0] rfl), trivial⟩⟩ rfl rfl hl.1 rfl (lv_room (Nat.le_of_ble_eq_true rfl)) dX11_nextToCheck_51 ⟨Nat.zero_le _, Nat.zero_le _⟩) hh_22.1 (fun q _ h => h) (fun q h => h) (fun r_27 u_26 t_26 H_26 locs_26 ht_26 hvm_26 hr_27 hb_26 hz_26 hk_26 hS_26 => ?_)
              rw [ht_26] at hb_26
              obtain ⟨hb_26, hbE_26⟩ := hb_26
              obtain ⟨hb_261, hb_262, hb_263, hb_264, hb_265⟩ := hb_26
              have hh_26 : jSt (dC, dI) B base G0 G0 EX11_nextToCheckE s.heap 0 0 [(ret_14, 3, 4, .int sentences_23), (ret_14, 3, 10, .int checked_20), (ret_14, 3, 11, .null), (open_5, 1, 2, .int size_10), (r0, 13, 7, .ref open_5)] [] [(jFl, jLs dC dI ca G0 3 none wl), (jFdo, jDcx dC dI ca G0 ph sn ck vn)] H_26 locs_26 := (((hh_22.call hb_261 hb_262 hb_263 hb_264 hS_26 rfl (L1 := [(ret_14, 3, 4, .int sentences_23), (ret_14, 3, 10, .int checked_20), (ret_14, 3, 11, .null), (open_5, 1, 2, .int size_10), (r0, 13, 7, .ref open_5)]) [0, 1, 2, 3, 4] rfl rfl (M1 := []) [] rfl rfl (I1 := [(jFdo, jDcx dC dI ca G0 ph sn ck vn)]) [1] rfl rfl).more hb_265)).addIs hbE_26
              clear hh_22 ht_26 hvm_26 hz_26 hk_26 hS_26 hb_261 hb_262 hb_263 hb_264 hb_265
              clear  hbE_26
              obtain ⟨hr_27b, hr_27p⟩ := hr_27
              have hr_27' := jb_01 hr_27b
              refine lv_if_eq (tgt := 59) hx hb dX11_nextToCheck_54 (by decide) (fun c_28 => ?_) (fun c_28 => ?_)
              · skip
                have c_28' : r_27.toInt = 0 := jb_eq (rfl) ((by decide)) c_28
                refine j7_nld_n hx hb dX11_nextToCheck_59 rfl (lv_at hl 2 rfl) ?_
                refine lv_ifnonnullN hx hb dX11_nextToCheck_60 ?_
                refine lv_aload_n hx hb dX11_nextToCheck_63 rfl (lv_at hl 0 rfl) ?_
                refine lv_astore_n (lv' := [(1, .ref ret_14), (3, .ref ret_14), (0, .ref r0), (2, .int v2_1)]) hx hb dX11_nextToCheck_64 rfl hl (by decide) rfl (fun ls hl => ?_)
                obtain ⟨z_29, ez_29⟩ : ∃ y : Int32, y = v2_1 + 1 := ⟨_, rfl⟩
                refine lv_iinc (v := z_29) (lv' := [(2, .int z_29), (1, .ref ret_14), (3, .ref ret_14), (0, .ref r0)]) hx hb dX11_nextToCheck_65 hl (k := 3) rfl (by rw [ez_29]; rfl) (by decide) rfl (fun ls hl => ?_)
                have hz_29 : z_29.toInt = v2_1.toInt + 1 := by rw [ez_29]; exact jb_iadd2 (rfl) (by decide) (by omega)
                refine lv_goto (tgt := 4) hx hb dX11_nextToCheck_68 (by decide) ?_
                exact L4 (some ret_14) z_29 _ _ (hh_26.sub (L1 := []) [] rfl (M1 := []) [] rfl (I1 := [(jFl, jLs dC dI ca G0 3 none wl), (jFdo, jDcx dC dI ca G0 ph sn ck vn)]) [0, 1] rfl) (Or.inr ⟨_, rfl, hg_ret_14, ⟨by rw [hlx10, hlx4]; omega, hlx11⟩⟩) (by first | omega | (refine ⟨?_, ?_⟩ <;> (first | omega | rfl | assumption | decide | exact Or.inl rfl | exact Or.inr rfl | (simp only; omega)))) (by omega) _ (lv_sub hl [3, 1, 0] rfl)
              · skip
                have c_28' : r_27.toInt ≠ 0 := jb_eq_n (rfl) ((by decide)) c_28
                refine lv_aload_n hx hb dX11_nextToCheck_57 rfl (lv_at hl 0 rfl) ?_
                rw [hQ]
                exact W.aret (v := .ref ret_14) hx hb hr (Or.inl ⟨_, rfl⟩) (Or.inr ⟨_, rfl⟩) (fun t ht hW => ⟨⟨.ref ret_14, (), rfl, Or.inr ⟨_, rfl, hg_ret_14, ⟨by rw [hlx10, hlx4]; omega, hlx11⟩⟩, ⟨hh_26.rt (M1 := []) [] rfl ht, by rw [ht]; exact hh_26.2.2.2.2.2.2.2.2.sub (L1 := [(jFl, jLs dC dI ca G0 3 none wl), (jFdo, jDcx dC dI ca G0 ph sn ck vn)]) [0, 1] rfl⟩⟩, by rw [ht]; try exact hh_26.1.1, fun q h9 hq => by rw [ht]; try exact hh_26.1.2.1 q h9 hq⟩) hh_26.1.2.2 dX11_nextToCheck_58
          · refine j7_read hx hb hown hK (C := RX1) (T := TX1) (N := 17) rfl hly_3_11 hlk_567 (hh_16.at 0 rfl) dX11_nextToCheck_32 ?_
            refine lv_ifnonnull (tgt := 65) hx hb dX11_nextToCheck_35 (by decide) ?_
            obtain ⟨z_30, ez_30⟩ : ∃ y : Int32, y = v2_1 + 1 := ⟨_, rfl⟩
            refine lv_iinc (v := z_30) (lv' := [(2, .int z_30), (3, .ref ret_14), (0, .ref r0), (1, .null)]) hx hb dX11_nextToCheck_65 hl (k := 3) rfl (by rw [ez_30]; rfl) (by decide) rfl (fun ls hl => ?_)
            have hz_30 : z_30.toInt = v2_1.toInt + 1 := by rw [ez_30]; exact jb_iadd2 (rfl) (by decide) (by omega)
            refine lv_goto (tgt := 4) hx hb dX11_nextToCheck_68 (by decide) ?_
            exact L4 none z_30 _ _ (hh_16.sub (L1 := []) [] rfl (M1 := []) [] rfl (I1 := [(jFl, jLs dC dI ca G0 3 none wl), (jFdo, jDcx dC dI ca G0 ph sn ck vn)]) [0, 1] rfl) (Or.inl rfl) (by first | omega | (refine ⟨?_, ?_⟩ <;> (first | omega | rfl | assumption | decide | exact Or.inl rfl | exact Or.inr rfl | (simp only; omega)))) (by omega) _ (lv_sub hl [2, 3, 0] rfl)
      · have hl : lv_has ls 4 [(0, .ref r0), (1, .ref nv_2), (2, .int v2_1)] := hl
        refine lv_iload_n hx hb dX11_nextToCheck_4 rfl (lv_at hl 2 rfl) ?_
        refine lv_aload_n hx hb dX11_nextToCheck_5 rfl (lv_at hl 0 rfl) ?_
        obtain ⟨v_31, hv_31, hh_32⟩ := hh_1.pin (C := RX11) (T := TX11) (N := 19) hB13 rfl (by decide) hg_r0 (i := 7) (by decide) rfl
        clear hh_1
        obtain ⟨open_33, rfl, hg_open_33⟩ := hv_31
        refine j7_read hx hb hown hK (C := RX11) (T := TX11) (N := 19) rfl hly_13_7 hlk_61 (hh_32.at 0 rfl) dX11_nextToCheck_6 ?_
        obtain ⟨v_36, hv_36, hh_37⟩ := hh_32.pin (C := RJx4a65c) (T := TJx4a65c) (N := 3) hB1 rfl (by decide) hg_open_33 (i := 2) (by decide) rfl
        obtain ⟨size_38, rfl, hlosize_38, hhisize_38⟩ := hv_36
        refine va_callFi (A0 := jA base) (H0 := s.heap) (va_runF (hK.1 1 _ rfl).2 (As := []) (rest := [.int v2_1]) ⟨hx, hb, hml, hown, hts⟩ (uJx4a65c_size_8abf5 l dC dI ca base B hB hAp hB1 G0 H_1 open_33 1 size_38) (va_cwF 0 hts (jgF (jWr_27 _ (List.mem_of_getElem? (i := 22) rfl)) (jWr_27 _ (List.mem_of_getElem? (i := 23) rfl)) (jWr_28 _ (List.mem_of_getElem? (i := 0) rfl)) (jWr_2 _ (List.mem_of_getElem? (i := 13) rfl)) (jWr_28 _ (List.mem_of_getElem? (i := 1) rfl))) rfl rfl rfl hK7.2.2.2.2.2.1.1 ⟨by decide, by decide, by decide +kernel⟩ ⟨by rw [← hR]; exact Nat.le_of_ble_eq_true rfl, by rw [← hR]; exact Nat.le_of_ble_eq_true rfl⟩) ⟨fun a U g mk q => by obtain ⟨q0, q1, q2, qK, q10, q11, q12⟩ := q; exact ⟨q0, q1, q2, jG.calling g mk a qK, q10, q11, q12⟩, hh_37.recv (C := RJx4a65c) (T := TJx4a65c) (N := 3) hB1 rfl (by decide) hg_open_33 hK, fun U hU hW => ⟨rfl, hU, hh_37.2.1, hG.step hW hU hh_37.1, hg_open_33, (hh_37.2.2.1.sub (L1 := [(open_33, 1, 2, .int size_38)]) [0] rfl), trivial⟩⟩ rfl rfl hl.1 rfl (lv_room (Nat.le_of_ble_eq_true rfl)) dX11_nextToCheck_9 ⟨Nat.zero_le _, Nat.zero_le _⟩) hh_37.1 (fun q _ h => h) (fun q h => h) (fun r_35 u_34 t_34 H_34 locs_34 ht_34 hvm_34 hr_35 hb_34 hz_34 hk_34 hS_34 => ?_)
        rw [ht_34] at hb_34
        obtain ⟨hb_341, hb_342, hb_343, hb_344, hb_345⟩ := hb_34
        have hh_34 : jSt (dC, dI) B base G0 G0 EX11_nextToCheckE s.heap 0 0 [(open_33, 1, 2, .int size_38), (r0, 13, 7, .ref open_33)] [] [(jFl, jLs dC dI ca G0 3 none wl), (jFdo, jDcx dC dI ca G0 ph sn ck vn)] H_34 locs_34 := ((hh_37.call hb_341 hb_342 hb_343 hb_344 hS_34 rfl (L1 := [(open_33, 1, 2, .int size_38), (r0, 13, 7, .ref open_33)]) [0, 1] rfl rfl (M1 := []) [] rfl rfl (I1 := [(jFl, jLs dC dI ca G0 3 none wl), (jFdo, jDcx dC dI ca G0 ph sn ck vn)]) [0, 1] rfl rfl).more hb_345)
        clear hh_37 ht_34 hvm_34 hz_34 hk_34 hS_34 hb_341 hb_342 hb_343 hb_344 hb_345
        refine lv_icmp_ge (tgt := 71) hx hb dX11_nextToCheck_14 (by decide) (fun c_39 => ?_) (fun c_39 => ?_)
        · skip
          have c_39' : v2_1.toInt ≥ r_35.toInt := jb_ge (rfl) (rfl) c_39
          refine lv_aload_n hx hb dX11_nextToCheck_71 rfl (lv_at hl 1 rfl) ?_
          rw [hQ]
          exact W.aret (v := .ref nv_2) hx hb hr (Or.inl ⟨_, rfl⟩) (Or.inr ⟨_, rfl⟩) (fun t ht hW => ⟨⟨.ref nv_2, (), rfl, Or.inr ⟨_, rfl, hg_nv_2, hp_nv_2⟩, ⟨hh_34.rt (M1 := []) [] rfl ht, by rw [ht]; exact hh_34.2.2.2.2.2.2.2.2.sub (L1 := [(jFl, jLs dC dI ca G0 3 none wl), (jFdo, jDcx dC dI ca G0 ph sn ck vn)]) [0, 1] rfl⟩⟩, by rw [ht]; try exact hh_34.1.1, fun q h9 hq => by rw [ht]; try exact hh_34.1.2.1 q h9 hq⟩) hh_34.1.2.2 dX11_nextToCheck_72
        · skip
          have c_39' : v2_1.toInt < r_35.toInt := jb_ge_n (rfl) (rfl) c_39
          refine lv_aload_n hx hb dX11_nextToCheck_17 rfl (lv_at hl 0 rfl) ?_
          refine j7_read hx hb hown hK (C := RX11) (T := TX11) (N := 19) rfl hly_13_7 hlk_61 (hh_34.at 1 rfl) dX11_nextToCheck_18 ?_
          refine lv_iload_n hx hb dX11_nextToCheck_21 rfl (lv_at hl 2 rfl) ?_
          refine j_callFx (A0 := jA base) (H0 := s.heap) (va_runF (hK.1 1 _ rfl).2 (As := [.int v2_1]) (rest := []) ⟨hx, hb, hml, hown, hts⟩ (uJx4a65c_get_915e3L1 l dC dI ca base B hB hAp hB1 hB3 hB221 G0 H_34 open_33 v2_1 size_38 wl) (va_cwF 1 hts (jgF (jWr_28 _ (List.mem_of_getElem? (i := 3) rfl)) (jWr_28 _ (List.mem_of_getElem? (i := 4) rfl)) (jWr_28 _ (List.mem_of_getElem? (i := 5) rfl)) (jWr_2 _ (List.mem_of_getElem? (i := 13) rfl)) (jWr_28 _ (List.mem_of_getElem? (i := 6) rfl))) rfl rfl rfl hK7.2.2.2.2.2.1.2.1 ⟨by decide, by decide, by decide +kernel⟩ ⟨by rw [← hR]; exact Nat.le_of_ble_eq_true rfl, by rw [← hR]; exact Nat.le_of_ble_eq_true rfl⟩) ⟨fun a U g mk q => by obtain ⟨q0, q1, q2, qK, q10, q11, q12, q13, q14⟩ := q; exact ⟨q0, q1, q2, jG.calling g mk a qK, (jK7.calling g mk a q10), q11, q12, q13, q14⟩, hh_34.recv (C := RJx4a65c) (T := TJx4a65c) (N := 3) hB1 rfl (by decide) hg_open_33 hK, fun U hU hW => ⟨rfl, hU, hh_34.2.1, hG.step hW hU hh_34.1, (hK7.step hW hU hh_34.1), hg_open_33, (hh_34.2.2.1.sub (L1 := [(open_33, 1, 2, .int size_38)]) [0] rfl), (hh_34.2.2.2.2.2.2.2.2.sub (L1 := [(jFl, jLs dC dI ca G0 3 none wl)]) [0] rfl), by first | omega | (refine ⟨?_, ?_⟩ <;> (first | omega | rfl | assumption | decide | exact Or.inl rfl | exact Or.inr rfl | (simp only; omega)))⟩⟩ rfl rfl hl.1 rfl (lv_room (Nat.le_of_ble_eq_true rfl)) dX11_nextToCheck_22 ⟨Nat.zero_le _, Nat.zero_le _⟩) hh_34.1 (fun q _ h => h) (fun q h => h) (fun r_41 u_40 t_40 H_40 locs_40 ht_40 hvm_40 hr_41 hb_40 hz_40 hk_40 hS_40 => ?_)
          rw [ht_40] at hb_40
          obtain ⟨hb_40, hbE_40⟩ := hb_40
          obtain ⟨hb_401, hb_402, hb_403, hb_404, hb_405⟩ := hb_40
          have hh_40 : jSt (dC, dI) B base G0 G0 EX11_nextToCheckE s.heap 0 0 [(open_33, 1, 2, .int size_38), (r0, 13, 7, .ref open_33)] [] [(jFl, jLs dC dI ca G0 3 none wl), (jFdo, jDcx dC dI ca G0 ph sn ck vn)] H_40 locs_40 := (((hh_34.call hb_401 hb_402 hb_403 hb_404 hS_40 rfl (L1 := [(open_33, 1, 2, .int size_38), (r0, 13, 7, .ref open_33)]) [0, 1] rfl rfl (M1 := []) [] rfl rfl (I1 := [(jFdo, jDcx dC dI ca G0 ph sn ck vn)]) [1] rfl rfl).more hb_405)).addIs hbE_40
          clear hh_34 ht_40 hvm_40 hz_40 hk_40 hS_40 hb_401 hb_402 hb_403 hb_404 hb_405
          clear  hbE_40
          obtain ⟨hr_41, hr_41p⟩ := hr_41
          obtain ⟨ret_42, rfl, hg_ret_42⟩ := hr_41
          refine va_castY hx hb hown (htw (.classLink RX11 71 "ProofServer$Document") (jWr_27 _ (List.mem_of_getElem? (i := 20) rfl))) hK7.2.2.1.1.2 (hh_40.recv (C := RX1) (T := TX1) (N := 17) hB3 rfl (by decide) hg_ret_42 hK) dX11_nextToCheck_27 ?_
          refine lv_astore_n (lv' := [(3, .ref ret_42), (0, .ref r0), (1, .ref nv_2), (2, .int v2_1)]) hx hb dX11_nextToCheck_30 rfl hl (by decide) rfl (fun ls hl => ?_)
          refine lv_aload_n hx hb dX11_nextToCheck_31 rfl (lv_at hl 0 rfl) ?_
          obtain ⟨v_43, hv_43, hh_44⟩ := hh_40.pin (C := RX1) (T := TX1) (N := 17) hB3 rfl (by decide) hg_ret_42 (i := 11) (by decide) rfl
          clear hh_40
          rcases hv_43 with rfl | ⟨checking_45, nchecking_45, rfl, hg_checking_45, hn_checking_45⟩
          · refine j7_read hx hb hown hK (C := RX1) (T := TX1) (N := 17) rfl hly_3_11 hlk_567 (hh_44.at 0 rfl) dX11_nextToCheck_32 ?_
            refine lv_ifnonnullN hx hb dX11_nextToCheck_35 ?_
            refine lv_aload_n hx hb dX11_nextToCheck_38 rfl (lv_at hl 0 rfl) ?_
            obtain ⟨v_46, hv_46, hh_47⟩ := hh_44.pin (C := RX1) (T := TX1) (N := 17) hB3 rfl (by decide) hg_ret_42 (i := 10) (by decide) rfl
            clear hh_44
            obtain ⟨checked_48, rfl, hlochecked_48, hhichecked_48⟩ := hv_46
            refine j7_read hx hb hown hK (C := RX1) (T := TX1) (N := 17) rfl hly_3_10 hlk_171 (hh_47.at 0 rfl) dX11_nextToCheck_39 ?_
            refine lv_aload_n hx hb dX11_nextToCheck_42 rfl (lv_at hl 0 rfl) ?_
            obtain ⟨v_49, hv_49, hh_50⟩ := hh_47.pin (C := RX1) (T := TX1) (N := 17) hB3 rfl (by decide) hg_ret_42 (i := 4) (by decide) rfl
            clear hh_47
            obtain ⟨sentences_51, rfl, hlosentences_51, hhisentences_51⟩ := hv_49
            refine j7_read hx hb hown hK (C := RX1) (T := TX1) (N := 17) rfl hly_3_4 hlk_168 (hh_50.at 0 rfl) dX11_nextToCheck_43 ?_
            refine lv_icmp_ge (tgt := 65) hx hb dX11_nextToCheck_46 (by decide) (fun c_52 => ?_) (fun c_52 => ?_)
            · skip
              have c_52' : checked_48.toInt ≥ sentences_51.toInt := jb_ge (rfl) (rfl) c_52
              obtain ⟨z_53, ez_53⟩ : ∃ y : Int32, y = v2_1 + 1 := ⟨_, rfl⟩
              refine lv_iinc (v := z_53) (lv' := [(2, .int z_53), (3, .ref ret_42), (0, .ref r0), (1, .ref nv_2)]) hx hb dX11_nextToCheck_65 hl (k := 3) rfl (by rw [ez_53]; rfl) (by decide) rfl (fun ls hl => ?_)
              have hz_53 : z_53.toInt = v2_1.toInt + 1 := by rw [ez_53]; exact jb_iadd2 (rfl) (by decide) (by omega)
              refine lv_goto (tgt := 4) hx hb dX11_nextToCheck_68 (by decide) ?_
              exact L4 (some nv_2) z_53 _ _ (hh_50.sub (L1 := []) [] rfl (M1 := []) [] rfl (I1 := [(jFl, jLs dC dI ca G0 3 none wl), (jFdo, jDcx dC dI ca G0 ph sn ck vn)]) [0, 1] rfl) (Or.inr ⟨_, rfl, hg_nv_2, hp_nv_2⟩) (by first | omega | (refine ⟨?_, ?_⟩ <;> (first | omega | rfl | assumption | decide | exact Or.inl rfl | exact Or.inr rfl | (simp only; omega)))) (by omega) _ (lv_sub hl [2, 3, 0] rfl)
            · skip
              have c_52' : checked_48.toInt < sentences_51.toInt := jb_ge_n (rfl) (rfl) c_52
              have hlx4 : sn ret_42 = sentences_51 := Value.int.inj (jf.uniq ((hh_50.iv 1 rfl).2 _ _ hg_ret_42).1 (hh_50.at 0 rfl))
              have hlx10 : ck ret_42 = checked_48 := Value.int.inj (jf.uniq ((hh_50.iv 1 rfl).2 _ _ hg_ret_42).2.1 (hh_50.at 1 rfl))
              have hlx11 : vn ret_42 = .null := jf.uniq ((hh_50.iv 1 rfl).2 _ _ hg_ret_42).2.2 (hh_50.at 2 rfl)
              refine lv_aload_n hx hb dX11_nextToCheck_49 rfl (lv_at hl 1 rfl) ?_
              refine lv_aload_n hx hb dX11_nextToCheck_50 rfl (lv_at hl 0 rfl) ?_
              refine va_calli (A0 := jA base) (H0 := s.heap) (va_runV (As := [.ref ret_42]) (rest := []) ⟨hx, hb, hml, hown, hts⟩ (uX11_isAskedAbout l dC dI ca base B hB hAp hB1 hB3 hB10 hB13 hB222 G0 H_40 r0 ret_42 wl) (cwV 1 hts (jgV (jWr_76 _ (List.mem_of_getElem? (i := 23) rfl)) (jWr_77 _ (List.mem_of_getElem? (i := 0) rfl)) (jWr_77 _ (List.mem_of_getElem? (i := 1) rfl)) (jWr_1 _ (List.mem_of_getElem? (i := 2) rfl)) (jWr_77 _ (List.mem_of_getElem? (i := 2) rfl))) rfl rfl rfl (by decide +kernel) ⟨by rw [← hR]; exact Nat.le_of_ble_eq_true rfl, by rw [← hR]; exact Nat.le_of_ble_eq_true rfl⟩) ⟨fun a U g mk q => by obtain ⟨q0, q1, q2, qK, q10, q11, q12, q13, q14, q15⟩ := q; exact ⟨q0, q1, q2, jG.calling g mk a qK, (jK7.calling g mk a q10), q11, q12, q13, q14, q15⟩, hh_50.recv (C := RX11) (T := TX11) (N := 19) hB13 rfl (by decide) hg_r0 hK, fun U hU hW => ⟨rfl, hU, hh_50.2.1, hG.step hW hU hh_50.1, (hK7.step hW hU hh_50.1), hg_r0, hg_ret_42, jP.nil, (hh_50.2.2.2.2.2.2.2.2.sub (L1 := [(jFl, jLs dC dI ca G0 3 none wl)]) [0] rfl), trivial⟩⟩ rfl rfl hl.1 rfl (lv_room (Nat.le_of_ble_eq_true rfl)) dX11_nextToCheck_51 ⟨Nat.zero_le _, Nat.zero_le _⟩) hh_50.1 (fun q _ h => h) (fun q h => h) (fun r_55 u_54 t_54 H_54 locs_54 ht_54 hvm_54 hr_55 hb_54 hz_54 hk_54 hS_54 => ?_)
              rw [ht_54] at hb_54
              obtain ⟨hb_54, hbE_54⟩ := hb_54
              obtain ⟨hb_541, hb_542, hb_543, hb_544, hb_545⟩ := hb_54
              have hh_54 : jSt (dC, dI) B base G0 G0 EX11_nextToCheckE s.heap 0 0 [(ret_42, 3, 4, .int sentences_51), (ret_42, 3, 10, .int checked_48), (ret_42, 3, 11, .null), (open_33, 1, 2, .int size_38), (r0, 13, 7, .ref open_33)] [] [(jFl, jLs dC dI ca G0 3 none wl), (jFdo, jDcx dC dI ca G0 ph sn ck vn)] H_54 locs_54 := (((hh_50.call hb_541 hb_542 hb_543 hb_544 hS_54 rfl (L1 := [(ret_42, 3, 4, .int sentences_51), (ret_42, 3, 10, .int checked_48), (ret_42, 3, 11, .null), (open_33, 1, 2, .int size_38), (r0, 13, 7, .ref open_33)]) [0, 1, 2, 3, 4] rfl rfl (M1 := []) [] rfl rfl (I1 := [(jFdo, jDcx dC dI ca G0 ph sn ck vn)]) [1] rfl rfl).more hb_545)).addIs hbE_54
              clear hh_50 ht_54 hvm_54 hz_54 hk_54 hS_54 hb_541 hb_542 hb_543 hb_544 hb_545
              clear  hbE_54
              obtain ⟨hr_55b, hr_55p⟩ := hr_55
              have hr_55' := jb_01 hr_55b
              refine lv_if_eq (tgt := 59) hx hb dX11_nextToCheck_54 (by decide) (fun c_56 => ?_) (fun c_56 => ?_)
              · skip
                have c_56' : r_55.toInt = 0 := jb_eq (rfl) ((by decide)) c_56
                refine lv_aload_n hx hb dX11_nextToCheck_59 rfl (lv_at hl 2 rfl) ?_
                refine lv_ifnonnull (tgt := 65) hx hb dX11_nextToCheck_60 (by decide) ?_
                obtain ⟨z_57, ez_57⟩ : ∃ y : Int32, y = v2_1 + 1 := ⟨_, rfl⟩
                refine lv_iinc (v := z_57) (lv' := [(2, .int z_57), (3, .ref ret_42), (0, .ref r0), (1, .ref nv_2)]) hx hb dX11_nextToCheck_65 hl (k := 3) rfl (by rw [ez_57]; rfl) (by decide) rfl (fun ls hl => ?_)
                have hz_57 : z_57.toInt = v2_1.toInt + 1 := by rw [ez_57]; exact jb_iadd2 (rfl) (by decide) (by omega)
                refine lv_goto (tgt := 4) hx hb dX11_nextToCheck_68 (by decide) ?_
                exact L4 (some nv_2) z_57 _ _ (hh_54.sub (L1 := []) [] rfl (M1 := []) [] rfl (I1 := [(jFl, jLs dC dI ca G0 3 none wl), (jFdo, jDcx dC dI ca G0 ph sn ck vn)]) [0, 1] rfl) (Or.inr ⟨_, rfl, hg_nv_2, hp_nv_2⟩) (by first | omega | (refine ⟨?_, ?_⟩ <;> (first | omega | rfl | assumption | decide | exact Or.inl rfl | exact Or.inr rfl | (simp only; omega)))) (by omega) _ (lv_sub hl [2, 3, 0] rfl)
              · skip
                have c_56' : r_55.toInt ≠ 0 := jb_eq_n (rfl) ((by decide)) c_56
                refine lv_aload_n hx hb dX11_nextToCheck_57 rfl (lv_at hl 0 rfl) ?_
                rw [hQ]
                exact W.aret (v := .ref ret_42) hx hb hr (Or.inl ⟨_, rfl⟩) (Or.inr ⟨_, rfl⟩) (fun t ht hW => ⟨⟨.ref ret_42, (), rfl, Or.inr ⟨_, rfl, hg_ret_42, ⟨by rw [hlx10, hlx4]; omega, hlx11⟩⟩, ⟨hh_54.rt (M1 := []) [] rfl ht, by rw [ht]; exact hh_54.2.2.2.2.2.2.2.2.sub (L1 := [(jFl, jLs dC dI ca G0 3 none wl), (jFdo, jDcx dC dI ca G0 ph sn ck vn)]) [0, 1] rfl⟩⟩, by rw [ht]; try exact hh_54.1.1, fun q h9 hq => by rw [ht]; try exact hh_54.1.2.1 q h9 hq⟩) hh_54.1.2.2 dX11_nextToCheck_58
          · refine j7_read hx hb hown hK (C := RX1) (T := TX1) (N := 17) rfl hly_3_11 hlk_567 (hh_44.at 0 rfl) dX11_nextToCheck_32 ?_
            refine lv_ifnonnull (tgt := 65) hx hb dX11_nextToCheck_35 (by decide) ?_
            obtain ⟨z_58, ez_58⟩ : ∃ y : Int32, y = v2_1 + 1 := ⟨_, rfl⟩
            refine lv_iinc (v := z_58) (lv' := [(2, .int z_58), (3, .ref ret_42), (0, .ref r0), (1, .ref nv_2)]) hx hb dX11_nextToCheck_65 hl (k := 3) rfl (by rw [ez_58]; rfl) (by decide) rfl (fun ls hl => ?_)
            have hz_58 : z_58.toInt = v2_1.toInt + 1 := by rw [ez_58]; exact jb_iadd2 (rfl) (by decide) (by omega)
            refine lv_goto (tgt := 4) hx hb dX11_nextToCheck_68 (by decide) ?_
            exact L4 (some nv_2) z_58 _ _ (hh_44.sub (L1 := []) [] rfl (M1 := []) [] rfl (I1 := [(jFl, jLs dC dI ca G0 3 none wl), (jFdo, jDcx dC dI ca G0 ph sn ck vn)]) [0, 1] rfl) (Or.inr ⟨_, rfl, hg_nv_2, hp_nv_2⟩) (by first | omega | (refine ⟨?_, ?_⟩ <;> (first | omega | rfl | assumption | decide | exact Or.inl rfl | exact Or.inr rfl | (simp only; omega)))) (by omega) _ (lv_sub hl [2, 3, 0] rfl)
  exact L4 (41 - (0 : Int32).toInt : Int).toNat.succ none 0 _ _ hh (Or.inl rfl) (by first | omega | (refine ⟨?_, ?_⟩ <;> (first | omega | rfl | assumption | decide | exact Or.inl rfl | exact Or.inr rfl | (simp only; omega)))) (by omega) _ (lv_sub hl [2, 1, 0] rfl)
set_option maxHeartbeats 4000000 in
set_option maxRecDepth 20000 in
theorem uX11_beginE (l : Launch) (dC : Nat → ClassId) (dI : Nat → Nat → Nat) (ca : Nat → ClassId) (base : Nat) (B : jF) (hB : jBok B) (hAp : jAp (dC, dI)) (hB1 : ∀ n G a H, B 1 n G a H ↔ jOb (dC, dI) 1 3 (F1 n G) a H) (hB3 : ∀ n G a H, B 3 n G a H ↔ jOb (dC, dI) 3 17 (F3 n G) a H) (hB7 : ∀ n G a H, B 7 n G a H ↔ jOb (dC, dI) 7 11 (F7 n G) a H) (hB11 : ∀ n G a H, B 11 n G a H ↔ jOb (dC, dI) 11 9 (F11 n G) a H) (hB13 : ∀ n G a H, B 13 n G a H ↔ jOb (dC, dI) 13 19 (F13 n G) a H) (hB101 : ∀ n G a H, B 101 n G a H ↔ jAr (dC, dI) (ca 1) (fun j z => True) n a H) (hB171 : ∀ n G a H, B 171 n G a H ↔ jAr (dC, dI) (ca 1) (fun j z => 0 ≤ z.toInt ∧ z.toInt ≤ 1500) n a H) (hB172 : ∀ n G a H, B 172 n G a H ↔ jAr (dC, dI) (ca 1) (fun j z => 0 ≤ z.toInt ∧ z.toInt ≤ 1500) n a H) (hB173 : ∀ n G a H, B 173 n G a H ↔ jAr (dC, dI) (ca 1) (fun j z => True) n a H) (hB210 : ∀ n G a H, B 210 n G a H ↔ jAq (dC, dI) (ca 6) (jQn 11 0) n G a H) (hB223 : ∀ n G a H, B 223 n G a H ↔ jAq (dC, dI) (ca 9) (jQn 11 0) n G a H) (hB280 : ∀ n G a H, B 280 n G a H ↔ jAr (dC, dI) (ca 1) (fun j z => -1 ≤ z.toInt) n a H) (G0 : jT) (H0 : Heap) (r0 : Nat) (r1 : Nat) (sa_ : Nat) (ea_ : Nat) (ps : Int32) (pk : Int32) (ph : Nat) (wl : jWl9) (fb : Nat → Int32) (fe : Nat → Int32) (LC LS : Nat) : Met l yX11_begin (jw yX11_begin cX11_begin 6 none) ({ frames := 3, cells := LC - H0.size, slots := LS - jTot H0, locals := 107 }) (va_Pc [.ref r0, .ref r1] (fun U => U.heap = H0 ∧ jX B base G0 [] H0 ∧ jG dC dI ca base U ∧ jK2 dC dI ca U ∧ jK7 dC dI ca base U ∧ jK8 U ∧ G0 r0 = some (13, 0) ∧ G0 r1 = some (3, 0) ∧ G0 sa_ = some (171, 40) ∧ G0 ea_ = some (172, 40) ∧ jP (dC, dI) G0 H0 [(r1, 3, 5, .ref sa_), (r1, 3, 6, .ref ea_), (r1, 3, 4, .int ps), (r1, 3, 10, .int pk)] ∧ jMc (dC, dI) G0 H0 [(sa_, 171, 40, ca 1, fb), (ea_, 172, 40, ca 1, fe)] ∧ jIs (dC, dI) G0 H0 [(jFl, jLs dC dI ca G0 3 none wl), (jFdo, jDcc dC dI ca G0 (some r1) ph)] ∧ H0.size + 1 ≤ LC ∧ jTot H0 + (jSo fe pk.toInt - jSo fb pk.toInt).toNat ≤ LS ∧ 0 ≤ pk.toInt ∧ pk.toInt < ps.toInt ∧ ps.toInt ≤ 40 ∧ jSn fb fe ps.toInt 1500)) (va_Qv (S := Nat × Nat × jT) (fun u => u.2.1 ≤ 1500) (fun u t => jRa (dC, dI) B base G0 u.2.2 EX11_beginE H0 (1) ((jSo fe pk.toInt - jSo fb pk.toInt).toNat) [(r1, 3, 11, .ref u.1)] t.heap ∧ u.2.2 u.1 = some (101, u.2.1) ∧ (jNk [0, 1, 2, 3, 4, 5, 6, 7, 8, 9, 10, 11, 12, 13, 14, 15, 16]) G0 u.2.2 ∧ jIs (dC, dI) u.2.2 t.heap [(jFl, jLs dC dI ca u.2.2 3 none wl), (jFdo, jDcc dC dI ca u.2.2 (some r1) ph)]) (jA base)) (LC - H0.size) (LS - jTot H0) (jA base) := by
  refine Met.ofW (cc := cX11_begin) (maxL := 6) (ret := none) (by decide) rfl ?_
  intro p e s m args below meth c s₁ Bd hml hv
  obtain ⟨rfl, hH0, hX, hG, hK2, hK7, hK8, hg_r0, hg_r1, hg_sa_, hg_ea_, hP0, hM0, hI0, hLC0, hLS0, hp0, hp1, hp2, hp3⟩ := hv
  have hK := hG.1
  have hx := Bd.exec
  have hb := Bd.bytes
  have hr := Bd.returns
  have hts := atoms_spec (ws := (jw yX11_begin cX11_begin 6 none)) Bd.pre
  have htw : ∀ w ∈ jWl, w.before _ s = true := fun w h => hts w (List.mem_cons_of_mem _ h)
  have hown : s.vm.findClass RX11 = some m.cls := findClass_of_methodNamed Bd.named
  have hlocks := Bd.notSynchronized
  obtain ⟨Q, hQ⟩ : ∃ Q, Q = MQ below (va_Qv (S := Nat × Nat × jT) (fun u => u.2.1 ≤ 1500) (fun u t => jRa (dC, dI) B base G0 u.2.2 EX11_beginE H0 (1) ((jSo fe pk.toInt - jSo fb pk.toInt).toNat) [(r1, 3, 11, .ref u.1)] t.heap ∧ u.2.2 u.1 = some (101, u.2.1) ∧ (jNk [0, 1, 2, 3, 4, 5, 6, 7, 8, 9, 10, 11, 12, 13, 14, 15, 16]) G0 u.2.2 ∧ jIs (dC, dI) u.2.2 t.heap [(jFl, jLs dC dI ca u.2.2 3 none wl), (jFdo, jDcc dC dI ca u.2.2 (some r1) ph)]) (jA base)) ([.ref r0, .ref r1] : List Value).toArray s (LC - H0.size) (LS - jTot H0) (jA base) := ⟨_, rfl⟩
  rw [← hQ]
  have hl := lv_entry ([.ref r0, .ref r1]) (n := 6) (Nat.le_of_ble_eq_true rfl)
  rw [lg_entry_eq]
  generalize (lg_sl ([.ref r0, .ref r1]) ++ List.replicate (6 - (lg_sl ([.ref r0, .ref r1])).length) Slot.unset).toArray = ls at hl ⊢
  have hl : lv_has ls 6 [(0, .ref r0), (1, .ref r1)] := hl
  generalize hR : (headSpec (jw yX11_begin cX11_begin 6 none) ({ frames := 3, cells := LC - H0.size, slots := LS - jTot H0, locals := 107 })).room = R
  subst hH0
  have hh : jSt (dC, dI) B base G0 G0 EX11_beginE s.heap 0 0 [(r1, 3, 5, .ref sa_), (r1, 3, 6, .ref ea_), (r1, 3, 4, .int ps), (r1, 3, 10, .int pk)] [(sa_, 171, 40, ca 1, fb), (ea_, 172, 40, ca 1, fe)] [(jFl, jLs dC dI ca G0 3 none wl), (jFdo, jDcc dC dI ca G0 (some r1) ph)] s.heap [] := jSt.start hX hP0 hM0 hI0
  clear hX hP0
  have hk0 : (0 : Int32).toInt = 0 := by decide
  have hk1 : (1 : Int32).toInt = 1 := by decide
  have hk40 : (40 : Int32).toInt = 40 := by decide
  have hly_3_2 := htw (u_lay RX1 TX1 2) (jWc_wsX10 _ (u_in_lay (by decide)))
  have hly_3_5 := htw (u_lay RX1 TX1 5) (jWc_wsX10 _ (u_in_lay (by decide)))
  have hly_3_6 := htw (u_lay RX1 TX1 6) (jWc_wsX10 _ (u_in_lay (by decide)))
  have hly_3_7 := htw (u_lay RX1 TX1 7) (jWc_wsX10 _ (u_in_lay (by decide)))
  have hly_3_10 := htw (u_lay RX1 TX1 10) (jWc_wsX10 _ (u_in_lay (by decide)))
  have hly_3_11 := htw (u_lay RX1 TX1 11) (jWc_wsX10 _ (u_in_lay (by decide)))
  have hly_3_12 := htw (u_lay RX1 TX1 12) (jWc_wsX10 _ (u_in_lay (by decide)))
  have hly_3_13 := htw (u_lay RX1 TX1 13) (jWc_wsX10 _ (u_in_lay (by decide)))
  have hly_7_2 := htw (u_lay RX5 TX5 2) (jWc_wsX50 _ (u_in_lay (by decide)))
  have hly_11_0 := htw (u_lay RX9 TX9 0) (jWc_wsX90 _ (u_in_lay (by decide)))
  have hly_11_1 := htw (u_lay RX9 TX9 1) (jWc_wsX90 _ (u_in_lay (by decide)))
  have hly_13_5 := htw (u_lay RX11 TX11 5) (jWc_wsX110 _ (u_in_lay (by decide)))
  have hly_13_9 := htw (u_lay RX11 TX11 9) (jWc_wsX110 _ (u_in_lay (by decide)))
  have hlk_171 := (htw (.fieldLink RX11 171 "ProofServer$Document" "checked" "I") (jWr_35 _ (List.mem_of_getElem? (i := 17) rfl)))
  have hlk_41 := (htw (.fieldLink RX11 41 "ProofServer" "kernel" "LProofServer$Kernel;") (jWr_2 _ (List.mem_of_getElem? (i := 5) rfl)))
  have hlk_217 := (htw (.fieldLink RX11 217 "ProofServer$Kernel" "start" "LProofServer$State;") (jWr_30 _ (List.mem_of_getElem? (i := 6) rfl)))
  have hlk_580 := (htw (.fieldLink RX11 580 "ProofServer$Document" "found" "LProofServer$State;") (jWr_43 _ (List.mem_of_getElem? (i := 8) rfl)))
  have hlk_68 := (htw (.fieldLink RX11 68 "ProofServer" "cache" "Ljava/util/List;") (jWr_2 _ (List.mem_of_getElem? (i := 16) rfl)))
  have hlk_596 := (htw (.fieldLink RX11 596 "ProofServer$State" "units" "[I") (jWr_77 _ (List.mem_of_getElem? (i := 13) rfl)))
  have hlk_602 := (htw (.fieldLink RX11 602 "ProofServer$State" "ahead" "LProofServer$State;") (jWr_77 _ (List.mem_of_getElem? (i := 14) rfl)))
  have hlk_567 := (htw (.fieldLink RX11 567 "ProofServer$Document" "checking" "[I") (jWr_43 _ (List.mem_of_getElem? (i := 7) rfl)))
  have hlk_577 := (htw (.fieldLink RX11 577 "ProofServer$Document" "left" "I") (jWr_43 _ (List.mem_of_getElem? (i := 9) rfl)))
  have hlk_174 := (htw (.fieldLink RX11 174 "ProofServer$Document" "text" "[I") (jWr_77 _ (List.mem_of_getElem? (i := 15) rfl)))
  have hlk_182 := (htw (.fieldLink RX11 182 "ProofServer$Document" "starts" "[I") (jWr_40 _ (List.mem_of_getElem? (i := 13) rfl)))
  have hlk_185 := (htw (.fieldLink RX11 185 "ProofServer$Document" "ends" "[I") (jWr_40 _ (List.mem_of_getElem? (i := 14) rfl)))
  have hlk_193 := (htw (.fieldLink RX11 193 "ProofServer$Document" "costs" "[I") (jWr_77 _ (List.mem_of_getElem? (i := 16) rfl)))
  have hbs : base ≤ s.heap.size := Nat.le_of_lt (Nat.lt_of_le_of_lt (hh.ab hg_r0).1 (hh.ab hg_r0).2)
  have hRc : R.cells = LC - s.heap.size := by rw [← hR]; rfl
  have hRs : R.slots = LS - jTot s.heap := by rw [← hR]; rfl
  have hkk := hp3 pk.toInt (by omega) (by omega)
  refine lv_aload_n hx hb dX11_begin_0 rfl (lv_at hl 1 rfl) ?_
  refine j7_read hx hb hown hK (C := RX1) (T := TX1) (N := 17) rfl hly_3_10 hlk_171 (hh.at 3 rfl) dX11_begin_1 ?_
  refine lv_istore_n (lv' := [(2, .int pk), (0, .ref r0), (1, .ref r1)]) hx hb dX11_begin_4 rfl hl (by decide) rfl (fun ls hl => ?_)
  refine lv_iload_n hx hb dX11_begin_5 rfl (lv_at hl 0 rfl) ?_
  refine lv_if_lt (tgt := 15) hx hb dX11_begin_6 (by decide) (fun c_1 => ?_) (fun c_1 => ?_)
  · skip
    have c_1' : pk.toInt < 0 := jb_lt (rfl) ((by decide)) c_1
    exact absurd c_1' (by omega)
  · skip
    have c_1' : pk.toInt ≥ 0 := jb_lt_n (rfl) ((by decide)) c_1
    refine lv_iload_n hx hb dX11_begin_9 rfl (lv_at hl 0 rfl) ?_
    refine lv_bipush (v := 40) hx hb dX11_begin_10 (by decide) ?_
    refine lv_icmp_lt (tgt := 16) hx hb dX11_begin_12 (by decide) (fun c_2 => ?_) (fun c_2 => ?_)
    · skip
      have c_2' : pk.toInt < 40 := jb_lt (rfl) ((by decide)) c_2
      refine lv_aload_n hx hb dX11_begin_16 rfl (lv_at hl 2 rfl) ?_
      refine lv_iload_n hx hb dX11_begin_17 rfl (lv_at hl 0 rfl) ?_
      refine lv_aload_n hx hb dX11_begin_18 rfl (lv_at hl 1 rfl) ?_
      obtain ⟨v_3, hv_3, hh_4⟩ := hh.pin (C := RX11) (T := TX11) (N := 19) hB13 rfl (by decide) hg_r0 (i := 5) (by decide) rfl
      clear hh
      obtain ⟨kernel_5, rfl, hg_kernel_5⟩ := hv_3
      refine j7_read hx hb hown hK (C := RX11) (T := TX11) (N := 19) rfl hly_13_5 hlk_41 (hh_4.at 0 rfl) dX11_begin_19 ?_
      obtain ⟨v_6, hv_6, hh_7⟩ := hh_4.pin (C := RX5) (T := TX5) (N := 11) hB7 rfl (by decide) hg_kernel_5 (i := 2) (by decide) rfl
      clear hh_4
      obtain ⟨start_8, rfl, hg_start_8⟩ := hv_6
      refine j7_read hx hb hown hK (C := RX5) (T := TX5) (N := 11) rfl hly_7_2 hlk_217 (hh_7.at 0 rfl) dX11_begin_22 ?_
      have hsz_9 := hh_7.2.2.2.2.2.1
      have htt_9 := hh_7.2.2.2.2.2.2.1
      refine W.room (fun hrc_9 hrs_9 => ?_)
      refine j_callx (A0 := jA base) (H0 := s.heap) (va_runV (As := [.int pk, .ref start_8]) (rest := []) ⟨hx, hb, hml, hown, hts⟩ (uX1_stateBehind l dC dI ca base B hB hAp hB3 hB11 hB210 G0 s.heap r1 pk start_8 0) (cwV 2 hts (jgV (jWr_30 _ (List.mem_of_getElem? (i := 9) rfl)) (jWr_30 _ (List.mem_of_getElem? (i := 10) rfl)) (jWr_30 _ (List.mem_of_getElem? (i := 11) rfl)) (jWr_2 _ (List.mem_of_getElem? (i := 21) rfl)) (jWr_30 _ (List.mem_of_getElem? (i := 12) rfl))) rfl rfl rfl (by decide +kernel) ⟨by rw [← hR]; exact Nat.le_of_ble_eq_true rfl, by rw [← hR]; exact Nat.le_of_ble_eq_true rfl⟩) ⟨fun a U g mk q => by obtain ⟨q0, q1, q2, qK, q10, q11, q12, q13, q14⟩ := q; exact ⟨q0, q1, q2, jG.calling g mk a qK, (va_K.moved (Vm.Alike.refl U.vm) q10), q11, q12, q13, q14⟩, hh_7.recv (C := RX1) (T := TX1) (N := 17) hB3 rfl (by decide) hg_r1 hK, fun U hU hW => ⟨rfl, hU, hh_7.2.1, hG.step hW hU hh_7.1, va_K.moved hW.alike hK2, hg_r1, hg_start_8, jP.nil, trivial⟩⟩ rfl rfl hl.1 rfl (lv_room (Nat.le_of_ble_eq_true rfl)) dX11_begin_25 ⟨by rw [hRc]; show _ + 0 ≤ _; omega, by rw [hRs]; show _ + 0 ≤ _; omega⟩) hh_7.1 (fun q _ h => h) (fun q h => h) (fun r_10 u_9 t_9 H_9 locs_9 ht_9 hvm_9 hr_10 hb_9 hz_9 hk_9 hS_9 => ?_)
      rw [ht_9] at hb_9
      obtain ⟨hb_91, hb_92, hb_93, hb_94, hb_95⟩ := hb_9
      have hh_9 : jSt (dC, dI) B base G0 G0 EX11_beginE s.heap 0 0 [(kernel_5, 7, 2, .ref start_8), (r0, 13, 5, .ref kernel_5), (r1, 3, 5, .ref sa_), (r1, 3, 6, .ref ea_), (r1, 3, 4, .int ps), (r1, 3, 10, .int pk)] [(sa_, 171, 40, ca 1, fb), (ea_, 172, 40, ca 1, fe)] [(jFl, jLs dC dI ca G0 3 none wl), (jFdo, jDcc dC dI ca G0 (some r1) ph)] H_9 locs_9 := ((hh_7.call hb_91 hb_92 hb_93 hb_94 hS_9 rfl (L1 := [(kernel_5, 7, 2, .ref start_8), (r0, 13, 5, .ref kernel_5), (r1, 3, 5, .ref sa_), (r1, 3, 6, .ref ea_), (r1, 3, 4, .int ps), (r1, 3, 10, .int pk)]) [0, 1, 2, 3, 4, 5] rfl rfl (M1 := [(sa_, 171, 40, ca 1, fb), (ea_, 172, 40, ca 1, fe)]) [0, 1] rfl rfl (I1 := [(jFl, jLs dC dI ca G0 3 none wl), (jFdo, jDcc dC dI ca G0 (some r1) ph)]) [0, 1] rfl rfl).more hb_95)
      clear hh_7 ht_9 hvm_9 hz_9 hk_9 hS_9 hb_91 hb_92 hb_93 hb_94 hb_95
      obtain ⟨ret_11, rfl, hg_ret_11⟩ := hr_10
      refine lv_astore_n (lv' := [(3, .ref ret_11), (2, .int pk), (0, .ref r0), (1, .ref r1)]) hx hb dX11_begin_28 rfl hl (by decide) rfl (fun ls hl => ?_)
      refine lv_aload_n hx hb dX11_begin_29 rfl (lv_at hl 3 rfl) ?_
      refine lv_null hx hb dX11_begin_30 ?_
      refine j7_put hx hb hown hK hh_9 hB hAp hB3 (C := RX1) (T := TX1) (N := 17) rfl (by decide) hg_r1 (i := 12) (by decide) hly_3_12 rfl hlk_580 rfl (ty := (.object "ProofServer$State")) (v := .null) (by decide +kernel) rfl rfl (Or.inl rfl) rfl (L1 := [(kernel_5, 7, 2, .ref start_8), (r0, 13, 5, .ref kernel_5), (r1, 3, 5, .ref sa_), (r1, 3, 6, .ref ea_), (r1, 3, 4, .int ps), (r1, 3, 10, .int pk)]) [0, 1, 2, 3, 4, 5] rfl rfl rfl dX11_begin_31 (fun H_12 locs_12 hh_12 => ?_)
      clear hh_9
      refine lv_iconst (v := 0) hx hb dX11_begin_34 (by decide) ?_
      refine lv_istore (lv' := [(4, .int 0), (3, .ref ret_11), (2, .int pk), (0, .ref r0), (1, .ref r1)]) hx hb dX11_begin_35 hl (by decide) rfl (fun ls hl => ?_)
      have L37 : ∀ (N : Nat) (v4_13 : Int32) (H_13 : Heap) (locs_13 : List Loc), jSt (dC, dI) B base G0 G0 EX11_beginE s.heap 0 0 [(kernel_5, 7, 2, .ref start_8), (r0, 13, 5, .ref kernel_5), (r1, 3, 5, .ref sa_), (r1, 3, 6, .ref ea_), (r1, 3, 4, .int ps), (r1, 3, 10, .int pk)] [(sa_, 171, 40, ca 1, fb), (ea_, 172, 40, ca 1, fe)] [(jFl, jLs dC dI ca G0 3 none wl), (jFdo, jDcc dC dI ca G0 (some r1) ph)] H_13 locs_13 → (0 ≤ v4_13.toInt ∧ v4_13.toInt ≤ 40) → (41 - v4_13.toInt : Int) < N → ∀ ls : Array Slot, lv_has ls 6 [(0, .ref r0), (1, .ref r1), (2, .int pk), (3, .ref ret_11), (4, .int v4_13)] → W p l e R s m ([.ref r0, .ref r1] : List Value).toArray below meth c H_13 locs_13 0 0 Q (F0 m 37 ls []) := by
        intro N
        induction N with
        | zero => intro v4_13 H_13 locs_13 hh_13  hi_13 hm; exact absurd hm (by omega)
        | succ N L37 =>
          intro v4_13 H_13 locs_13 hh_13  hi_13 hm_13 ls hl
          obtain ⟨hi_13_0, hi_13_1⟩ := hi_13
          refine lv_iload hx hb dX11_begin_37 (lv_at hl 4 rfl) ?_
          refine lv_aload_n hx hb dX11_begin_39 rfl (lv_at hl 0 rfl) ?_
          obtain ⟨v_14, hv_14, hh_15⟩ := hh_13.pin (C := RX11) (T := TX11) (N := 19) hB13 rfl (by decide) hg_r0 (i := 9) (by decide) rfl
          clear hh_13
          obtain ⟨cache_16, rfl, hg_cache_16⟩ := hv_14
          refine j7_read hx hb hown hK (C := RX11) (T := TX11) (N := 19) rfl hly_13_9 hlk_68 (hh_15.at 0 rfl) dX11_begin_40 ?_
          obtain ⟨v_19, hv_19, hh_20⟩ := hh_15.pin (C := RJx4a65c) (T := TJx4a65c) (N := 3) hB1 rfl (by decide) hg_cache_16 (i := 2) (by decide) rfl
          obtain ⟨size_21, rfl, hlosize_21, hhisize_21⟩ := hv_19
          have hsz_17 := hh_20.2.2.2.2.2.1
          have htt_17 := hh_20.2.2.2.2.2.2.1
          refine W.room (fun hrc_17 hrs_17 => ?_)
          refine va_callFi (A0 := jA base) (H0 := s.heap) (va_runF (hK.1 1 _ rfl).2 (As := []) (rest := [.int v4_13]) ⟨hx, hb, hml, hown, hts⟩ (uJx4a65c_size_8abf5 l dC dI ca base B hB hAp hB1 G0 H_13 cache_16 3 size_21) (va_cwF 0 hts (jgF (jWr_27 _ (List.mem_of_getElem? (i := 22) rfl)) (jWr_27 _ (List.mem_of_getElem? (i := 23) rfl)) (jWr_28 _ (List.mem_of_getElem? (i := 0) rfl)) (jWr_2 _ (List.mem_of_getElem? (i := 13) rfl)) (jWr_28 _ (List.mem_of_getElem? (i := 1) rfl))) rfl rfl rfl hK7.2.2.2.2.2.1.1 ⟨by decide, by decide, by decide +kernel⟩ ⟨by rw [← hR]; exact Nat.le_of_ble_eq_true rfl, by rw [← hR]; exact Nat.le_of_ble_eq_true rfl⟩) ⟨fun a U g mk q => by obtain ⟨q0, q1, q2, qK, q10, q11, q12⟩ := q; exact ⟨q0, q1, q2, jG.calling g mk a qK, q10, q11, q12⟩, hh_20.recv (C := RJx4a65c) (T := TJx4a65c) (N := 3) hB1 rfl (by decide) hg_cache_16 hK, fun U hU hW => ⟨rfl, hU, hh_20.2.1, hG.step hW hU hh_20.1, hg_cache_16, (hh_20.2.2.1.sub (L1 := [(cache_16, 1, 2, .int size_21)]) [0] rfl), trivial⟩⟩ rfl rfl hl.1 rfl (lv_room (Nat.le_of_ble_eq_true rfl)) dX11_begin_43 ⟨by rw [hRc]; show _ + 0 ≤ _; omega, by rw [hRs]; show _ + 0 ≤ _; omega⟩) hh_20.1 (fun q _ h => h) (fun q h => h) (fun r_18 u_17 t_17 H_17 locs_17 ht_17 hvm_17 hr_18 hb_17 hz_17 hk_17 hS_17 => ?_)
          rw [ht_17] at hb_17
          obtain ⟨hb_171, hb_172, hb_173, hb_174, hb_175⟩ := hb_17
          have hh_17 : jSt (dC, dI) B base G0 G0 EX11_beginE s.heap 0 0 [(cache_16, 1, 2, .int size_21), (r0, 13, 9, .ref cache_16), (kernel_5, 7, 2, .ref start_8), (r0, 13, 5, .ref kernel_5), (r1, 3, 5, .ref sa_), (r1, 3, 6, .ref ea_), (r1, 3, 4, .int ps), (r1, 3, 10, .int pk)] [(sa_, 171, 40, ca 1, fb), (ea_, 172, 40, ca 1, fe)] [(jFl, jLs dC dI ca G0 3 none wl), (jFdo, jDcc dC dI ca G0 (some r1) ph)] H_17 locs_17 := ((hh_20.call hb_171 hb_172 hb_173 hb_174 hS_17 rfl (L1 := [(cache_16, 1, 2, .int size_21), (r0, 13, 9, .ref cache_16), (kernel_5, 7, 2, .ref start_8), (r0, 13, 5, .ref kernel_5), (r1, 3, 5, .ref sa_), (r1, 3, 6, .ref ea_), (r1, 3, 4, .int ps), (r1, 3, 10, .int pk)]) [0, 1, 2, 3, 4, 5, 6, 7] rfl rfl (M1 := [(sa_, 171, 40, ca 1, fb), (ea_, 172, 40, ca 1, fe)]) [0, 1] rfl rfl (I1 := [(jFl, jLs dC dI ca G0 3 none wl), (jFdo, jDcc dC dI ca G0 (some r1) ph)]) [0, 1] rfl rfl).more hb_175)
          clear hh_20 ht_17 hvm_17 hz_17 hk_17 hS_17 hb_171 hb_172 hb_173 hb_174 hb_175
          refine lv_icmp_ge (tgt := 111) hx hb dX11_begin_48 (by decide) (fun c_22 => ?_) (fun c_22 => ?_)
          · skip
            have c_22' : v4_13.toInt ≥ r_18.toInt := jb_ge (rfl) (rfl) c_22
            refine lv_aload_n hx hb dX11_begin_111 rfl (lv_at hl 1 rfl) ?_
            obtain ⟨v_23, hv_23, hh_24⟩ := hh_17.pin (C := RX1) (T := TX1) (N := 17) hB3 rfl (by decide) hg_r1 (i := 12) (by decide) rfl
            clear hh_17
            rcases hv_23 with rfl | ⟨found_25, rfl, hg_found_25⟩
            · refine j7_read hx hb hown hK (C := RX1) (T := TX1) (N := 17) rfl hly_3_12 hlk_580 (hh_24.at 0 rfl) dX11_begin_112 ?_
              refine lv_ifnullN (tgt := 137) hx hb dX11_begin_115 (by decide) ?_
              refine lv_aload_n hx hb dX11_begin_137 rfl (lv_at hl 1 rfl) ?_
              refine lv_aload_n hx hb dX11_begin_138 rfl (lv_at hl 1 rfl) ?_
              obtain ⟨v_26, hv_26, hh_27⟩ := hh_24.pin (C := RX1) (T := TX1) (N := 17) hB3 rfl (by decide) hg_r1 (i := 2) (by decide) rfl
              clear hh_24
              obtain ⟨text_28, rfl, hg_text_28⟩ := hv_26
              refine j7_read hx hb hown hK (C := RX1) (T := TX1) (N := 17) rfl hly_3_2 hlk_174 (hh_27.at 0 rfl) dX11_begin_139 ?_
              refine lv_aload_n hx hb dX11_begin_142 rfl (lv_at hl 1 rfl) ?_
              refine j7_read hx hb hown hK (C := RX1) (T := TX1) (N := 17) rfl hly_3_5 hlk_182 (hh_27.at 6 rfl) dX11_begin_143 ?_
              refine lv_iload_n hx hb dX11_begin_146 rfl (lv_at hl 2 rfl) ?_
              refine j7_ialdM hx hb hK hh_27 hB171 1 rfl (by decide) hg_sa_ (x := pk.toInt) (rfl) (by omega) (j := 0) rfl dX11_begin_147 (fun z_29 ez_29 (hz_29 : 0 ≤ z_29.toInt ∧ z_29.toInt ≤ 1500) => ?_)
              have hqz_29 : z_29.toInt = jSo fb (pk.toInt) := by unfold jSo; rw [ez_29]
              refine lv_aload_n hx hb dX11_begin_148 rfl (lv_at hl 1 rfl) ?_
              refine j7_read hx hb hown hK (C := RX1) (T := TX1) (N := 17) rfl hly_3_6 hlk_185 (hh_27.at 7 rfl) dX11_begin_149 ?_
              refine lv_iload_n hx hb dX11_begin_152 rfl (lv_at hl 2 rfl) ?_
              refine j7_ialdM hx hb hK hh_27 hB172 1 rfl (by decide) hg_ea_ (x := pk.toInt) (rfl) (by omega) (j := 1) rfl dX11_begin_153 (fun z_30 ez_30 (hz_30 : 0 ≤ z_30.toInt ∧ z_30.toInt ≤ 1500) => ?_)
              have hqz_30 : z_30.toInt = jSo fe (pk.toInt) := by unfold jSo; rw [ez_30]
              have hsz_31 := hh_27.2.2.2.2.2.1
              have htt_31 := hh_27.2.2.2.2.2.2.1
              refine W.room (fun hrc_31 hrs_31 => ?_)
              refine j_callx (A0 := jA base) (H0 := s.heap) (va_runS (As := [.ref text_28, .int z_29, .int z_30]) (rest := [.ref r1]) ⟨hx, hb, hml, hown, hts⟩ (uJ7_copyOfRange_feeccUt9 l dC dI ca base B hB hAp hB101 hB173 hB280 G0 H_17 text_28 z_29 z_30 1500 LC LS) (va_cwS 3 hts (jgS (jWr_77 _ (List.mem_of_getElem? (i := 21) rfl)) (jWr_77 _ (List.mem_of_getElem? (i := 22) rfl)) (jWr_16 _ (List.mem_of_getElem? (i := 7) rfl)) (jWr_77 _ (List.mem_of_getElem? (i := 23) rfl))) rfl rfl rfl (by decide +kernel) ⟨by rw [← hR]; exact Nat.le_of_ble_eq_true rfl, by rw [← hR]; exact Nat.le_of_ble_eq_true rfl⟩) ⟨fun a U g mk q => by obtain ⟨q0, q1, q2, qK, q10, q11, q12, q13⟩ := q; exact ⟨q0, q1, q2, jG.calling g mk a qK, (jK8.calling g mk a q10), q11, q12, q13⟩, fun U hU hW => ⟨rfl, hU, hh_27.2.1, hG.step hW hU hh_27.1, (jK8.warm hW hK8), hg_text_28, jP.nil, by first | omega | (refine ⟨?_, ?_, ?_, ?_⟩ <;> (first | omega | rfl | assumption | decide | exact Or.inl rfl | exact Or.inr rfl | (simp only; omega)))⟩⟩ rfl rfl hl.1 rfl (lv_room (Nat.le_of_ble_eq_true rfl)) dX11_begin_154 ⟨by rw [hRc]; omega, by rw [hRs]; omega⟩) hh_27.1 (fun q _ h => h) (fun q h => h) (fun r_32 u_31 t_31 H_31 locs_31 ht_31 hvm_31 hr_32 hb_31 hz_31 hk_31 hS_31 => ?_)
              rw [ht_31] at hb_31
              obtain ⟨m_ret_31, G_31⟩ := u_31
              simp only at hb_31
              obtain ⟨⟨hb_311, hb_312, hb_313, hb_314, hb_315, hb_316⟩, hN_31, hbK_31⟩ := hb_31
              have hh_31 : jSt (dC, dI) B base G0 G_31 EX11_beginE s.heap (0 + (1)) (0 + (m_ret_31)) [(r1, 3, 2, .ref text_28), (r1, 3, 12, .null), (cache_16, 1, 2, .int size_21), (r0, 13, 9, .ref cache_16), (kernel_5, 7, 2, .ref start_8), (r0, 13, 5, .ref kernel_5), (r1, 3, 5, .ref sa_), (r1, 3, 6, .ref ea_), (r1, 3, 4, .int ps), (r1, 3, 10, .int pk)] [(sa_, 171, 40, ca 1, fb), (ea_, 172, 40, ca 1, fe)] [(jFl, jLs dC dI ca G0 3 none wl), (jFdo, jDcc dC dI ca G0 (some r1) ph)] H_31 locs_31 := (hh_27.callG hb_311 hb_312 hb_313 hb_314 hb_315 hS_31 rfl (L1 := [(r1, 3, 2, .ref text_28), (r1, 3, 12, .null), (cache_16, 1, 2, .int size_21), (r0, 13, 9, .ref cache_16), (kernel_5, 7, 2, .ref start_8), (r0, 13, 5, .ref kernel_5), (r1, 3, 5, .ref sa_), (r1, 3, 6, .ref ea_), (r1, 3, 4, .int ps), (r1, 3, 10, .int pk)]) [0, 1, 2, 3, 4, 5, 6, 7, 8, 9] rfl rfl (M1 := [(sa_, 171, 40, ca 1, fb), (ea_, 172, 40, ca 1, fe)]) [0, 1] rfl rfl (I1 := [(jFl, jLs dC dI ca G0 3 none wl), (jFdo, jDcc dC dI ca G0 (some r1) ph)]) [0, 1] rfl rfl).more hb_316
              have hNn_31 : (jNk [0, 1, 2, 3, 4, 5, 6, 7, 8, 9, 10, 11, 12, 13, 14, 15, 16]) G0 G_31 := (jNk.rf).tr hN_31
              have hg_33 := hb_312 _ _ hg_r0
              have hg_34 := hb_312 _ _ hg_r1
              have hg_35 := hb_312 _ _ hg_ret_11
              have hg_36 := hb_312 _ _ hg_text_28
              have hg_37 := hb_312 _ _ hg_cache_16
              have hg_38 := hb_312 _ _ hg_start_8
              have hg_39 := hb_312 _ _ hg_kernel_5
              have hg_40 := hb_312 _ _ hg_sa_
              have hg_41 := hb_312 _ _ hg_ea_
              have hd_42 := jLs.grow (hh_31.iv 0 rfl) hb_312 hN_31 (by decide)
              have hh_43 := hh_31.sub (L1 := [(r1, 3, 2, .ref text_28), (r1, 3, 12, .null), (cache_16, 1, 2, .int size_21), (r0, 13, 9, .ref cache_16), (kernel_5, 7, 2, .ref start_8), (r0, 13, 5, .ref kernel_5), (r1, 3, 5, .ref sa_), (r1, 3, 6, .ref ea_), (r1, 3, 4, .int ps), (r1, 3, 10, .int pk)]) [0, 1, 2, 3, 4, 5, 6, 7, 8, 9] rfl (M1 := [(sa_, 171, 40, ca 1, fb), (ea_, 172, 40, ca 1, fe)]) [0, 1] rfl (I1 := [(jFdo, jDcc dC dI ca G0 (some r1) ph)]) [1] rfl
              clear hh_31
              have hh_44 := hh_43.addI (jLs.ie hd_42)
              clear hh_43
              have hd_45 := jDcc.grow (hh_44.iv 1 rfl) hb_312 hN_31 (by decide)
              have hh_46 := hh_44.sub (L1 := [(r1, 3, 2, .ref text_28), (r1, 3, 12, .null), (cache_16, 1, 2, .int size_21), (r0, 13, 9, .ref cache_16), (kernel_5, 7, 2, .ref start_8), (r0, 13, 5, .ref kernel_5), (r1, 3, 5, .ref sa_), (r1, 3, 6, .ref ea_), (r1, 3, 4, .int ps), (r1, 3, 10, .int pk)]) [0, 1, 2, 3, 4, 5, 6, 7, 8, 9] rfl (M1 := [(sa_, 171, 40, ca 1, fb), (ea_, 172, 40, ca 1, fe)]) [0, 1] rfl (I1 := [(jFl, jLs dC dI ca G_31 3 none wl)]) [0] rfl
              clear hh_44
              have hh_47 := hh_46.addI (jDcc.ie hd_45)
              clear hh_46
              obtain ⟨hr_32, hr_32n, hr_32p⟩ := hr_32
              try simp only at hr_32p
              obtain ⟨ret_48, rfl, hg_ret_48⟩ := hr_32
              have hsy_31 : s.heap.size ≤ ret_48 := Nat.le_trans hh_27.1.1 hr_32n.le
              have hd_50 := hh_47.iv 0 rfl
              have hd_505 := hh_47.at 6 rfl
              have hd_506 := hh_47.at 7 rfl
              have hh_51 := hh_47.sub (L1 := [(r1, 3, 2, .ref text_28), (r1, 3, 12, .null), (cache_16, 1, 2, .int size_21), (r0, 13, 9, .ref cache_16), (kernel_5, 7, 2, .ref start_8), (r0, 13, 5, .ref kernel_5), (r1, 3, 5, .ref sa_), (r1, 3, 6, .ref ea_), (r1, 3, 4, .int ps), (r1, 3, 10, .int pk)]) [0, 1, 2, 3, 4, 5, 6, 7, 8, 9] rfl (M1 := [(sa_, 171, 40, ca 1, fb), (ea_, 172, 40, ca 1, fe)]) [0, 1] rfl (I1 := [(jFl, jLs dC dI ca G_31 3 none wl)]) [1] rfl
              clear hh_47
              refine j7_putX hx hb hown hK hh_51 hB hAp hB3 (C := RX1) (T := TX1) (N := 17) rfl (by decide) hg_34 (i := 11) (by decide) hly_3_11 rfl hlk_567 rfl (ty := (.array .int)) (v := .ref ret_48) (by decide +kernel) rfl rfl (Or.inr ⟨_, _, rfl, hg_ret_48, by omega⟩) rfl (L1 := [(r1, 3, 2, .ref text_28), (r1, 3, 12, .null), (cache_16, 1, 2, .int size_21), (r0, 13, 9, .ref cache_16), (kernel_5, 7, 2, .ref start_8), (r0, 13, 5, .ref kernel_5), (r1, 3, 5, .ref sa_), (r1, 3, 6, .ref ea_), (r1, 3, 4, .int ps), (r1, 3, 10, .int pk)]) [0, 1, 2, 3, 4, 5, 6, 7, 8, 9] rfl rfl rfl dX11_begin_157 (fun H_49 locs_49 hr_49 hh_49 => ?_)
              clear hh_51
              have hd_50n := jDcc.fld hd_50 hg_34 hr_49 hd_505 hd_506 (hh_49.at 7 rfl) (hh_49.at 8 rfl)
              have hh_52 := hh_49.addI (jDcc.ie hd_50n)
              clear hh_49
              clear hd_50 hd_50n hd_505 hd_506 hr_49
              refine lv_aload_n hx hb dX11_begin_160 rfl (lv_at hl 1 rfl) ?_
              refine lv_aload_n hx hb dX11_begin_161 rfl (lv_at hl 1 rfl) ?_
              obtain ⟨v_53, hv_53, hh_54⟩ := hh_52.pin (C := RX1) (T := TX1) (N := 17) hB3 rfl (by decide) hg_34 (i := 7) (by decide) rfl
              clear hh_52
              obtain ⟨costs_55, rfl, hg_costs_55⟩ := hv_53
              refine j7_read hx hb hown hK (C := RX1) (T := TX1) (N := 17) rfl hly_3_7 hlk_193 (hh_54.at 0 rfl) dX11_begin_162 ?_
              refine lv_iload_n hx hb dX11_begin_165 rfl (lv_at hl 2 rfl) ?_
              refine j7_iald hx hb hK hh_54 hB101 1 rfl (by decide) hg_costs_55 (x := pk.toInt) (rfl) (by omega) dX11_begin_166 (fun z_56 (hz_56 : True) => ?_)
              refine j7_put hx hb hown hK hh_54 hB hAp hB3 (C := RX1) (T := TX1) (N := 17) rfl (by decide) hg_34 (i := 13) (by decide) hly_3_13 rfl hlk_577 rfl (ty := .int) (v := .int z_56) (by decide +kernel) rfl rfl (⟨_, rfl⟩) rfl (L1 := [(r1, 3, 7, .ref costs_55), (r1, 3, 11, .ref ret_48), (r1, 3, 2, .ref text_28), (r1, 3, 12, .null), (cache_16, 1, 2, .int size_21), (r0, 13, 9, .ref cache_16), (kernel_5, 7, 2, .ref start_8), (r0, 13, 5, .ref kernel_5), (r1, 3, 5, .ref sa_), (r1, 3, 6, .ref ea_), (r1, 3, 4, .int ps), (r1, 3, 10, .int pk)]) [0, 1, 2, 3, 4, 5, 6, 7, 8, 9, 10, 11] rfl rfl rfl dX11_begin_167 (fun H_57 locs_57 hh_57 => ?_)
              clear hh_54
              have hsz_58 := hh_57.2.2.2.2.2.1
              have htt_58 := hh_57.2.2.2.2.2.2.1
              refine W.room (fun hrc_58 hrs_58 => ?_)
              refine W.widen (k := LC - s.heap.size) (n := LS - jTot s.heap) (by omega) (by omega) ?_
              rw [hQ]
              exact W.vret hx hb hr (fun t ht hW => ⟨⟨(ret_48, m_ret_31, G_31), rfl, by (try dsimp only); first | omega | rfl | assumption | fail, ⟨hh_57.ra (by first | (simp only; omega) | omega) (by first | (simp only; omega) | omega) (M1 := [(r1, 3, 11, .ref ret_48)]) [2] rfl ht, hg_ret_48, hNn_31, by rw [ht]; exact hh_57.2.2.2.2.2.2.2.2.sub (L1 := [(jFl, jLs dC dI ca G_31 3 none wl), (jFdo, jDcc dC dI ca G_31 (some r1) ph)]) [1, 0] rfl⟩⟩, by rw [ht]; try exact hh_57.1.1, fun q h9 hq => by rw [ht]; try exact hh_57.1.2.1 q h9 hq⟩) hh_57.1.2.2 dX11_begin_170
            · refine j7_read hx hb hown hK (C := RX1) (T := TX1) (N := 17) rfl hly_3_12 hlk_580 (hh_24.at 0 rfl) dX11_begin_112 ?_
              refine lv_ifnull hx hb dX11_begin_115 ?_
              refine lv_aload_n hx hb dX11_begin_118 rfl (lv_at hl 1 rfl) ?_
              refine lv_aload_n hx hb dX11_begin_119 rfl (lv_at hl 1 rfl) ?_
              refine j7_read hx hb hown hK (C := RX1) (T := TX1) (N := 17) rfl hly_3_12 hlk_580 (hh_24.at 0 rfl) dX11_begin_120 ?_
              obtain ⟨v_59, hv_59, hh_60⟩ := hh_24.pin (C := RX9) (T := TX9) (N := 9) hB11 rfl (by decide) hg_found_25 (i := 1) (by decide) rfl
              clear hh_24
              obtain ⟨units_61, nunits_61, rfl, hg_units_61, hn_units_61⟩ := hv_59
              refine j7_read hx hb hown hK (C := RX9) (T := TX9) (N := 9) rfl hly_11_1 hlk_596 (hh_60.at 0 rfl) dX11_begin_123 ?_
              have hd_63 := hh_60.iv 1 rfl
              have hd_635 := hh_60.at 6 rfl
              have hd_636 := hh_60.at 7 rfl
              have hh_64 := hh_60.sub (L1 := [(found_25, 11, 1, .ref units_61), (r1, 3, 12, .ref found_25), (cache_16, 1, 2, .int size_21), (r0, 13, 9, .ref cache_16), (kernel_5, 7, 2, .ref start_8), (r0, 13, 5, .ref kernel_5), (r1, 3, 5, .ref sa_), (r1, 3, 6, .ref ea_), (r1, 3, 4, .int ps), (r1, 3, 10, .int pk)]) [0, 1, 2, 3, 4, 5, 6, 7, 8, 9] rfl (M1 := [(sa_, 171, 40, ca 1, fb), (ea_, 172, 40, ca 1, fe)]) [0, 1] rfl (I1 := [(jFl, jLs dC dI ca G0 3 none wl)]) [0] rfl
              clear hh_60
              refine j7_putX hx hb hown hK hh_64 hB hAp hB3 (C := RX1) (T := TX1) (N := 17) rfl (by decide) hg_r1 (i := 11) (by decide) hly_3_11 rfl hlk_567 rfl (ty := (.array .int)) (v := .ref units_61) (by decide +kernel) rfl rfl (Or.inr ⟨_, _, rfl, hg_units_61, by omega⟩) rfl (L1 := [(found_25, 11, 1, .ref units_61), (r1, 3, 12, .ref found_25), (cache_16, 1, 2, .int size_21), (r0, 13, 9, .ref cache_16), (kernel_5, 7, 2, .ref start_8), (r0, 13, 5, .ref kernel_5), (r1, 3, 5, .ref sa_), (r1, 3, 6, .ref ea_), (r1, 3, 4, .int ps), (r1, 3, 10, .int pk)]) [0, 1, 2, 3, 4, 5, 6, 7, 8, 9] rfl rfl rfl dX11_begin_126 (fun H_62 locs_62 hr_62 hh_62 => ?_)
              clear hh_64
              have hd_63n := jDcc.fld hd_63 hg_r1 hr_62 hd_635 hd_636 (hh_62.at 7 rfl) (hh_62.at 8 rfl)
              have hh_65 := hh_62.addI (jDcc.ie hd_63n)
              clear hh_62
              clear hd_63 hd_63n hd_635 hd_636 hr_62
              refine lv_aload_n hx hb dX11_begin_129 rfl (lv_at hl 1 rfl) ?_
              refine lv_iconst (v := 1) hx hb dX11_begin_130 (by decide) ?_
              refine j7_put hx hb hown hK hh_65 hB hAp hB3 (C := RX1) (T := TX1) (N := 17) rfl (by decide) hg_r1 (i := 13) (by decide) hly_3_13 rfl hlk_577 rfl (ty := .int) (v := .int 1) (by decide +kernel) rfl rfl (⟨_, rfl⟩) rfl (L1 := [(r1, 3, 11, .ref units_61), (found_25, 11, 1, .ref units_61), (r1, 3, 12, .ref found_25), (cache_16, 1, 2, .int size_21), (r0, 13, 9, .ref cache_16), (kernel_5, 7, 2, .ref start_8), (r0, 13, 5, .ref kernel_5), (r1, 3, 5, .ref sa_), (r1, 3, 6, .ref ea_), (r1, 3, 4, .int ps), (r1, 3, 10, .int pk)]) [0, 1, 2, 3, 4, 5, 6, 7, 8, 9, 10] rfl rfl rfl dX11_begin_131 (fun H_66 locs_66 hh_66 => ?_)
              clear hh_65
              refine lv_goto (tgt := 170) hx hb dX11_begin_134 (by decide) ?_
              have hsz_67 := hh_66.2.2.2.2.2.1
              have htt_67 := hh_66.2.2.2.2.2.2.1
              refine W.room (fun hrc_67 hrs_67 => ?_)
              refine W.widen (k := LC - s.heap.size) (n := LS - jTot s.heap) (by omega) (by omega) ?_
              rw [hQ]
              exact W.vret hx hb hr (fun t ht hW => ⟨⟨(units_61, nunits_61, G0), rfl, by (try dsimp only); first | omega | rfl | assumption | fail, ⟨hh_66.ra (by first | (simp only; omega) | omega) (by first | (simp only; omega) | omega) (M1 := [(r1, 3, 11, .ref units_61)]) [1] rfl ht, hg_units_61, jNk.rf, by rw [ht]; exact hh_66.2.2.2.2.2.2.2.2.sub (L1 := [(jFl, jLs dC dI ca G0 3 none wl), (jFdo, jDcc dC dI ca G0 (some r1) ph)]) [1, 0] rfl⟩⟩, by rw [ht]; try exact hh_66.1.1, fun q h9 hq => by rw [ht]; try exact hh_66.1.2.1 q h9 hq⟩) hh_66.1.2.2 dX11_begin_170
          · skip
            have c_22' : v4_13.toInt < r_18.toInt := jb_ge_n (rfl) (rfl) c_22
            refine lv_aload_n hx hb dX11_begin_51 rfl (lv_at hl 1 rfl) ?_
            obtain ⟨v_68, hv_68, hh_69⟩ := hh_17.pin (C := RX1) (T := TX1) (N := 17) hB3 rfl (by decide) hg_r1 (i := 12) (by decide) rfl
            clear hh_17
            rcases hv_68 with rfl | ⟨found_70, rfl, hg_found_70⟩
            · refine j7_read hx hb hown hK (C := RX1) (T := TX1) (N := 17) rfl hly_3_12 hlk_580 (hh_69.at 0 rfl) dX11_begin_52 ?_
              refine lv_ifnonnullN hx hb dX11_begin_55 ?_
              refine lv_aload_n hx hb dX11_begin_58 rfl (lv_at hl 0 rfl) ?_
              refine j7_read hx hb hown hK (C := RX11) (T := TX11) (N := 19) rfl hly_13_9 hlk_68 (hh_69.at 2 rfl) dX11_begin_59 ?_
              refine lv_iload hx hb dX11_begin_62 (lv_at hl 4 rfl) ?_
              have hsz_71 := hh_69.2.2.2.2.2.1
              have htt_71 := hh_69.2.2.2.2.2.2.1
              refine W.room (fun hrc_71 hrs_71 => ?_)
              refine j_callFx (A0 := jA base) (H0 := s.heap) (va_runF (hK.1 1 _ rfl).2 (As := [.int v4_13]) (rest := []) ⟨hx, hb, hml, hown, hts⟩ (uJx4a65c_get_915e3L3 l dC dI ca base B hB hAp hB1 hB11 hB223 G0 H_17 cache_16 v4_13 size_21 wl) (va_cwF 1 hts (jgF (jWr_28 _ (List.mem_of_getElem? (i := 3) rfl)) (jWr_28 _ (List.mem_of_getElem? (i := 4) rfl)) (jWr_28 _ (List.mem_of_getElem? (i := 5) rfl)) (jWr_2 _ (List.mem_of_getElem? (i := 13) rfl)) (jWr_28 _ (List.mem_of_getElem? (i := 6) rfl))) rfl rfl rfl hK7.2.2.2.2.2.1.2.1 ⟨by decide, by decide, by decide +kernel⟩ ⟨by rw [← hR]; exact Nat.le_of_ble_eq_true rfl, by rw [← hR]; exact Nat.le_of_ble_eq_true rfl⟩) ⟨fun a U g mk q => by obtain ⟨q0, q1, q2, qK, q10, q11, q12, q13, q14⟩ := q; exact ⟨q0, q1, q2, jG.calling g mk a qK, (jK7.calling g mk a q10), q11, q12, q13, q14⟩, hh_69.recv (C := RJx4a65c) (T := TJx4a65c) (N := 3) hB1 rfl (by decide) hg_cache_16 hK, fun U hU hW => ⟨rfl, hU, hh_69.2.1, hG.step hW hU hh_69.1, (hK7.step hW hU hh_69.1), hg_cache_16, (hh_69.2.2.1.sub (L1 := [(cache_16, 1, 2, .int size_21)]) [1] rfl), (hh_69.2.2.2.2.2.2.2.2.sub (L1 := [(jFl, jLs dC dI ca G0 3 none wl)]) [0] rfl), by first | omega | (refine ⟨?_, ?_⟩ <;> (first | omega | rfl | assumption | decide | exact Or.inl rfl | exact Or.inr rfl | (simp only; omega)))⟩⟩ rfl rfl hl.1 rfl (lv_room (Nat.le_of_ble_eq_true rfl)) dX11_begin_64 ⟨by rw [hRc]; show _ + 0 ≤ _; omega, by rw [hRs]; show _ + 0 ≤ _; omega⟩) hh_69.1 (fun q _ h => h) (fun q h => h) (fun r_72 u_71 t_71 H_71 locs_71 ht_71 hvm_71 hr_72 hb_71 hz_71 hk_71 hS_71 => ?_)
              rw [ht_71] at hb_71
              obtain ⟨hb_71, hbE_71⟩ := hb_71
              obtain ⟨hb_711, hb_712, hb_713, hb_714, hb_715⟩ := hb_71
              have hh_71 : jSt (dC, dI) B base G0 G0 EX11_beginE s.heap 0 0 [(r1, 3, 12, .null), (cache_16, 1, 2, .int size_21), (r0, 13, 9, .ref cache_16), (kernel_5, 7, 2, .ref start_8), (r0, 13, 5, .ref kernel_5), (r1, 3, 5, .ref sa_), (r1, 3, 6, .ref ea_), (r1, 3, 4, .int ps), (r1, 3, 10, .int pk)] [(sa_, 171, 40, ca 1, fb), (ea_, 172, 40, ca 1, fe)] [(jFl, jLs dC dI ca G0 3 none wl), (jFdo, jDcc dC dI ca G0 (some r1) ph)] H_71 locs_71 := (((hh_69.call hb_711 hb_712 hb_713 hb_714 hS_71 rfl (L1 := [(r1, 3, 12, .null), (cache_16, 1, 2, .int size_21), (r0, 13, 9, .ref cache_16), (kernel_5, 7, 2, .ref start_8), (r0, 13, 5, .ref kernel_5), (r1, 3, 5, .ref sa_), (r1, 3, 6, .ref ea_), (r1, 3, 4, .int ps), (r1, 3, 10, .int pk)]) [0, 1, 2, 3, 4, 5, 6, 7, 8] rfl rfl (M1 := [(sa_, 171, 40, ca 1, fb), (ea_, 172, 40, ca 1, fe)]) [0, 1] rfl rfl (I1 := [(jFdo, jDcc dC dI ca G0 (some r1) ph)]) [1] rfl rfl).more hb_715)).addIs hbE_71
              clear hh_69 ht_71 hvm_71 hz_71 hk_71 hS_71 hb_711 hb_712 hb_713 hb_714 hb_715
              clear  hbE_71
              obtain ⟨ret_73, rfl, hg_ret_73⟩ := hr_72
              refine va_castY hx hb hown (htw (.classLink RX11 189 "ProofServer$State") (jWr_77 _ (List.mem_of_getElem? (i := 12) rfl))) hK7.2.2.1.2.2.2 (hh_71.recv (C := RX9) (T := TX9) (N := 9) hB11 rfl (by decide) hg_ret_73 hK) dX11_begin_69 ?_
              refine lv_astore (lv' := [(5, .ref ret_73), (0, .ref r0), (1, .ref r1), (2, .int pk), (3, .ref ret_11), (4, .int v4_13)]) hx hb dX11_begin_72 hl (by decide) rfl (fun ls hl => ?_)
              refine lv_aload_n hx hb dX11_begin_74 rfl (lv_at hl 2 rfl) ?_
              refine lv_iload_n hx hb dX11_begin_75 rfl (lv_at hl 3 rfl) ?_
              refine lv_aload hx hb dX11_begin_76 (lv_at hl 0 rfl) ?_
              obtain ⟨v_74, hv_74, hh_75⟩ := hh_71.pin (C := RX9) (T := TX9) (N := 9) hB11 rfl (by decide) hg_ret_73 (i := 1) (by decide) rfl
              clear hh_71
              obtain ⟨units_76, nunits_76, rfl, hg_units_76, hn_units_76⟩ := hv_74
              refine j7_read hx hb hown hK (C := RX9) (T := TX9) (N := 9) rfl hly_11_1 hlk_596 (hh_75.at 0 rfl) dX11_begin_78 ?_
              have hsz_77 := hh_75.2.2.2.2.2.1
              have htt_77 := hh_75.2.2.2.2.2.2.1
              refine W.room (fun hrc_77 hrs_77 => ?_)
              refine va_calli (A0 := jA base) (H0 := s.heap) (va_runV (As := [.int pk, .ref units_76]) (rest := []) ⟨hx, hb, hml, hown, hts⟩ (uX1_isSentence l dC dI ca base B hB hAp hB3 hB101 hB171 hB172 hB173 G0 H_71 r1 pk units_76 nunits_76) (cwV 2 hts (jgV (jWr_77 _ (List.mem_of_getElem? (i := 17) rfl)) (jWr_43 _ (List.mem_of_getElem? (i := 0) rfl)) (jWr_43 _ (List.mem_of_getElem? (i := 1) rfl)) (jWr_2 _ (List.mem_of_getElem? (i := 21) rfl)) (jWr_43 _ (List.mem_of_getElem? (i := 2) rfl))) rfl rfl rfl (by decide +kernel) ⟨by rw [← hR]; exact Nat.le_of_ble_eq_true rfl, by rw [← hR]; exact Nat.le_of_ble_eq_true rfl⟩) ⟨fun a U g mk q => by obtain ⟨q0, q1, q2, qK, q10, q11, q12, q13⟩ := q; exact ⟨q0, q1, q2, jG.calling g mk a qK, q10, q11, q12, q13⟩, hh_75.recv (C := RX1) (T := TX1) (N := 17) hB3 rfl (by decide) hg_r1 hK, fun U hU hW => ⟨rfl, hU, hh_75.2.1, hG.step hW hU hh_75.1, hg_units_76, hg_r1, jP.nil, by first | omega | rfl | assumption | decide | exact Or.inl rfl | exact Or.inr rfl | (simp only; omega)⟩⟩ rfl rfl hl.1 rfl (lv_room (Nat.le_of_ble_eq_true rfl)) dX11_begin_81 ⟨by rw [hRc]; show _ + 0 ≤ _; omega, by rw [hRs]; show _ + 0 ≤ _; omega⟩) hh_75.1 (fun q _ h => h) (fun q h => h) (fun r_78 u_77 t_77 H_77 locs_77 ht_77 hvm_77 hr_78 hb_77 hz_77 hk_77 hS_77 => ?_)
              rw [ht_77] at hb_77
              obtain ⟨hb_771, hb_772, hb_773, hb_774, hb_775⟩ := hb_77
              have hh_77 : jSt (dC, dI) B base G0 G0 EX11_beginE s.heap 0 0 [(ret_73, 11, 1, .ref units_76), (r1, 3, 12, .null), (cache_16, 1, 2, .int size_21), (r0, 13, 9, .ref cache_16), (kernel_5, 7, 2, .ref start_8), (r0, 13, 5, .ref kernel_5), (r1, 3, 5, .ref sa_), (r1, 3, 6, .ref ea_), (r1, 3, 4, .int ps), (r1, 3, 10, .int pk)] [(sa_, 171, 40, ca 1, fb), (ea_, 172, 40, ca 1, fe)] [(jFl, jLs dC dI ca G0 3 none wl), (jFdo, jDcc dC dI ca G0 (some r1) ph)] H_77 locs_77 := ((hh_75.call hb_771 hb_772 hb_773 hb_774 hS_77 rfl (L1 := [(ret_73, 11, 1, .ref units_76), (r1, 3, 12, .null), (cache_16, 1, 2, .int size_21), (r0, 13, 9, .ref cache_16), (kernel_5, 7, 2, .ref start_8), (r0, 13, 5, .ref kernel_5), (r1, 3, 5, .ref sa_), (r1, 3, 6, .ref ea_), (r1, 3, 4, .int ps), (r1, 3, 10, .int pk)]) [0, 1, 2, 3, 4, 5, 6, 7, 8, 9] rfl rfl (M1 := [(sa_, 171, 40, ca 1, fb), (ea_, 172, 40, ca 1, fe)]) [0, 1] rfl rfl (I1 := [(jFl, jLs dC dI ca G0 3 none wl), (jFdo, jDcc dC dI ca G0 (some r1) ph)]) [0, 1] rfl rfl).more hb_775)
              clear hh_75 ht_77 hvm_77 hz_77 hk_77 hS_77 hb_771 hb_772 hb_773 hb_774 hb_775
              obtain ⟨hr_78b, hr_78p⟩ := hr_78
              have hr_78' := jb_01 hr_78b
              refine lv_if_eq (tgt := 105) hx hb dX11_begin_84 (by decide) (fun c_79 => ?_) (fun c_79 => ?_)
              · skip
                have c_79' : r_78.toInt = 0 := jb_eq (rfl) ((by decide)) c_79
                obtain ⟨z_80, ez_80⟩ : ∃ y : Int32, y = v4_13 + 1 := ⟨_, rfl⟩
                refine lv_iinc (v := z_80) (lv' := [(4, .int z_80), (5, .ref ret_73), (0, .ref r0), (1, .ref r1), (2, .int pk), (3, .ref ret_11)]) hx hb dX11_begin_105 hl (k := 5) rfl (by rw [ez_80]; rfl) (by decide) rfl (fun ls hl => ?_)
                have hz_80 : z_80.toInt = v4_13.toInt + 1 := by rw [ez_80]; exact jb_iadd2 (rfl) (by decide) (by omega)
                refine lv_goto (tgt := 37) hx hb dX11_begin_108 (by decide) ?_
                refine W.tight (c2 := 0) (n2 := 0) hh_77.2.2.2.2.2.1 hh_77.2.2.2.2.2.2.1 ?_
                exact L37 z_80 _ _ (hh_77.sub (L1 := [(kernel_5, 7, 2, .ref start_8), (r0, 13, 5, .ref kernel_5), (r1, 3, 5, .ref sa_), (r1, 3, 6, .ref ea_), (r1, 3, 4, .int ps), (r1, 3, 10, .int pk)]) [4, 5, 6, 7, 8, 9] rfl (M1 := [(sa_, 171, 40, ca 1, fb), (ea_, 172, 40, ca 1, fe)]) [0, 1] rfl (I1 := [(jFl, jLs dC dI ca G0 3 none wl), (jFdo, jDcc dC dI ca G0 (some r1) ph)]) [0, 1] rfl) (by first | omega | (refine ⟨?_, ?_⟩ <;> (first | omega | rfl | assumption | decide | exact Or.inl rfl | exact Or.inr rfl | (simp only; omega)))) (by omega) _ (lv_sub hl [2, 3, 4, 5, 0] rfl)
              · skip
                have c_79' : r_78.toInt ≠ 0 := jb_eq_n (rfl) ((by decide)) c_79
                refine lv_aload hx hb dX11_begin_87 (lv_at hl 0 rfl) ?_
                obtain ⟨v_81, hv_81, hh_82⟩ := hh_77.pin (C := RX9) (T := TX9) (N := 9) hB11 rfl (by decide) hg_ret_73 (i := 0) (by decide) rfl
                clear hh_77
                rcases hv_81 with rfl | ⟨ahead_83, rfl, hg_ahead_83⟩
                · refine j7_read hx hb hown hK (C := RX9) (T := TX9) (N := 9) rfl hly_11_0 hlk_602 (hh_82.at 0 rfl) dX11_begin_89 ?_
                  refine lv_aload_n hx hb dX11_begin_92 rfl (lv_at hl 4 rfl) ?_
                  have hsz_84 := hh_82.2.2.2.2.2.1
                  have htt_84 := hh_82.2.2.2.2.2.2.1
                  refine W.room (fun hrc_84 hrs_84 => ?_)
                  refine va_calli (A0 := jA base) (H0 := s.heap) (va_runS (As := [.null, .ref ret_11]) (rest := []) ⟨hx, hb, hml, hown, hts⟩ (uX9_isSameRowZ l dC dI ca base B hB hAp hB11 hB101 G0 H_77 ret_11) (va_cwS 2 hts (jgS (jWr_77 _ (List.mem_of_getElem? (i := 18) rfl)) (jWr_77 _ (List.mem_of_getElem? (i := 19) rfl)) (jWr_4 _ (List.mem_of_getElem? (i := 18) rfl)) (jWr_77 _ (List.mem_of_getElem? (i := 20) rfl))) rfl rfl rfl (by decide +kernel) ⟨by rw [← hR]; exact Nat.le_of_ble_eq_true rfl, by rw [← hR]; exact Nat.le_of_ble_eq_true rfl⟩) ⟨fun a U g mk q => by obtain ⟨q0, q1, q2, qK, q10, q11, q12⟩ := q; exact ⟨q0, q1, q2, jG.calling g mk a qK, q10, q11, q12⟩, fun U hU hW => ⟨rfl, hU, hh_82.2.1, hG.step hW hU hh_82.1, hg_ret_11, jP.nil, trivial⟩⟩ rfl rfl hl.1 rfl (lv_room (Nat.le_of_ble_eq_true rfl)) dX11_begin_93 ⟨by rw [hRc]; show _ + 0 ≤ _; omega, by rw [hRs]; show _ + 0 ≤ _; omega⟩) hh_82.1 (fun q _ h => h) (fun q h => h) (fun r_85 u_84 t_84 H_84 locs_84 ht_84 hvm_84 hr_85 hb_84 hz_84 hk_84 hS_84 => ?_)
                  rw [ht_84] at hb_84
                  obtain ⟨hb_841, hb_842, hb_843, hb_844, hb_845⟩ := hb_84
                  have hh_84 : jSt (dC, dI) B base G0 G0 EX11_beginE s.heap 0 0 [(ret_73, 11, 0, .null), (ret_73, 11, 1, .ref units_76), (r1, 3, 12, .null), (cache_16, 1, 2, .int size_21), (r0, 13, 9, .ref cache_16), (kernel_5, 7, 2, .ref start_8), (r0, 13, 5, .ref kernel_5), (r1, 3, 5, .ref sa_), (r1, 3, 6, .ref ea_), (r1, 3, 4, .int ps), (r1, 3, 10, .int pk)] [(sa_, 171, 40, ca 1, fb), (ea_, 172, 40, ca 1, fe)] [(jFl, jLs dC dI ca G0 3 none wl), (jFdo, jDcc dC dI ca G0 (some r1) ph)] H_84 locs_84 := ((hh_82.call hb_841 hb_842 hb_843 hb_844 hS_84 rfl (L1 := [(ret_73, 11, 0, .null), (ret_73, 11, 1, .ref units_76), (r1, 3, 12, .null), (cache_16, 1, 2, .int size_21), (r0, 13, 9, .ref cache_16), (kernel_5, 7, 2, .ref start_8), (r0, 13, 5, .ref kernel_5), (r1, 3, 5, .ref sa_), (r1, 3, 6, .ref ea_), (r1, 3, 4, .int ps), (r1, 3, 10, .int pk)]) [0, 1, 2, 3, 4, 5, 6, 7, 8, 9, 10] rfl rfl (M1 := [(sa_, 171, 40, ca 1, fb), (ea_, 172, 40, ca 1, fe)]) [0, 1] rfl rfl (I1 := [(jFl, jLs dC dI ca G0 3 none wl), (jFdo, jDcc dC dI ca G0 (some r1) ph)]) [0, 1] rfl rfl).more hb_845)
                  clear hh_82 ht_84 hvm_84 hz_84 hk_84 hS_84 hb_841 hb_842 hb_843 hb_844 hb_845
                  obtain ⟨hr_85b, hr_85p⟩ := hr_85
                  have hr_85' := jb_01 hr_85b
                  refine lv_if_eq (tgt := 105) hx hb dX11_begin_96 (by decide) (fun c_86 => ?_) (fun c_86 => ?_)
                  · skip
                    have c_86' : r_85.toInt = 0 := jb_eq (rfl) ((by decide)) c_86
                    obtain ⟨z_87, ez_87⟩ : ∃ y : Int32, y = v4_13 + 1 := ⟨_, rfl⟩
                    refine lv_iinc (v := z_87) (lv' := [(4, .int z_87), (5, .ref ret_73), (0, .ref r0), (1, .ref r1), (2, .int pk), (3, .ref ret_11)]) hx hb dX11_begin_105 hl (k := 5) rfl (by rw [ez_87]; rfl) (by decide) rfl (fun ls hl => ?_)
                    have hz_87 : z_87.toInt = v4_13.toInt + 1 := by rw [ez_87]; exact jb_iadd2 (rfl) (by decide) (by omega)
                    refine lv_goto (tgt := 37) hx hb dX11_begin_108 (by decide) ?_
                    refine W.tight (c2 := 0) (n2 := 0) hh_84.2.2.2.2.2.1 hh_84.2.2.2.2.2.2.1 ?_
                    exact L37 z_87 _ _ (hh_84.sub (L1 := [(kernel_5, 7, 2, .ref start_8), (r0, 13, 5, .ref kernel_5), (r1, 3, 5, .ref sa_), (r1, 3, 6, .ref ea_), (r1, 3, 4, .int ps), (r1, 3, 10, .int pk)]) [5, 6, 7, 8, 9, 10] rfl (M1 := [(sa_, 171, 40, ca 1, fb), (ea_, 172, 40, ca 1, fe)]) [0, 1] rfl (I1 := [(jFl, jLs dC dI ca G0 3 none wl), (jFdo, jDcc dC dI ca G0 (some r1) ph)]) [0, 1] rfl) (by first | omega | (refine ⟨?_, ?_⟩ <;> (first | omega | rfl | assumption | decide | exact Or.inl rfl | exact Or.inr rfl | (simp only; omega)))) (by omega) _ (lv_sub hl [2, 3, 4, 5, 0] rfl)
                  · skip
                    have c_86' : r_85.toInt ≠ 0 := jb_eq_n (rfl) ((by decide)) c_86
                    refine lv_aload_n hx hb dX11_begin_99 rfl (lv_at hl 2 rfl) ?_
                    refine lv_aload hx hb dX11_begin_100 (lv_at hl 0 rfl) ?_
                    refine j7_put hx hb hown hK hh_84 hB hAp hB3 (C := RX1) (T := TX1) (N := 17) rfl (by decide) hg_r1 (i := 12) (by decide) hly_3_12 rfl hlk_580 rfl (ty := (.object "ProofServer$State")) (v := .ref ret_73) (by decide +kernel) rfl rfl (Or.inr ⟨_, rfl, hg_ret_73⟩) rfl (L1 := [(ret_73, 11, 0, .null), (ret_73, 11, 1, .ref units_76), (cache_16, 1, 2, .int size_21), (r0, 13, 9, .ref cache_16), (kernel_5, 7, 2, .ref start_8), (r0, 13, 5, .ref kernel_5), (r1, 3, 5, .ref sa_), (r1, 3, 6, .ref ea_), (r1, 3, 4, .int ps), (r1, 3, 10, .int pk)]) [0, 1, 3, 4, 5, 6, 7, 8, 9, 10] rfl rfl rfl dX11_begin_102 (fun H_88 locs_88 hh_88 => ?_)
                    clear hh_84
                    obtain ⟨z_89, ez_89⟩ : ∃ y : Int32, y = v4_13 + 1 := ⟨_, rfl⟩
                    refine lv_iinc (v := z_89) (lv' := [(4, .int z_89), (5, .ref ret_73), (0, .ref r0), (1, .ref r1), (2, .int pk), (3, .ref ret_11)]) hx hb dX11_begin_105 hl (k := 5) rfl (by rw [ez_89]; rfl) (by decide) rfl (fun ls hl => ?_)
                    have hz_89 : z_89.toInt = v4_13.toInt + 1 := by rw [ez_89]; exact jb_iadd2 (rfl) (by decide) (by omega)
                    refine lv_goto (tgt := 37) hx hb dX11_begin_108 (by decide) ?_
                    refine W.tight (c2 := 0) (n2 := 0) hh_88.2.2.2.2.2.1 hh_88.2.2.2.2.2.2.1 ?_
                    exact L37 z_89 _ _ (hh_88.sub (L1 := [(kernel_5, 7, 2, .ref start_8), (r0, 13, 5, .ref kernel_5), (r1, 3, 5, .ref sa_), (r1, 3, 6, .ref ea_), (r1, 3, 4, .int ps), (r1, 3, 10, .int pk)]) [5, 6, 7, 8, 9, 10] rfl (M1 := [(sa_, 171, 40, ca 1, fb), (ea_, 172, 40, ca 1, fe)]) [0, 1] rfl (I1 := [(jFl, jLs dC dI ca G0 3 none wl), (jFdo, jDcc dC dI ca G0 (some r1) ph)]) [0, 1] rfl) (by first | omega | (refine ⟨?_, ?_⟩ <;> (first | omega | rfl | assumption | decide | exact Or.inl rfl | exact Or.inr rfl | (simp only; omega)))) (by omega) _ (lv_sub hl [2, 3, 4, 5, 0] rfl)
                · refine j7_read hx hb hown hK (C := RX9) (T := TX9) (N := 9) rfl hly_11_0 hlk_602 (hh_82.at 0 rfl) dX11_begin_89 ?_
                  refine lv_aload_n hx hb dX11_begin_92 rfl (lv_at hl 4 rfl) ?_
                  have hsz_90 := hh_82.2.2.2.2.2.1
                  have htt_90 := hh_82.2.2.2.2.2.2.1
                  refine W.room (fun hrc_90 hrs_90 => ?_)
                  refine va_calli (A0 := jA base) (H0 := s.heap) (va_runS (As := [.ref ahead_83, .ref ret_11]) (rest := []) ⟨hx, hb, hml, hown, hts⟩ (uX9_isSameRow l dC dI ca base B hB hAp hB11 hB101 G0 H_77 ahead_83 ret_11) (va_cwS 2 hts (jgS (jWr_77 _ (List.mem_of_getElem? (i := 18) rfl)) (jWr_77 _ (List.mem_of_getElem? (i := 19) rfl)) (jWr_4 _ (List.mem_of_getElem? (i := 18) rfl)) (jWr_77 _ (List.mem_of_getElem? (i := 20) rfl))) rfl rfl rfl (by decide +kernel) ⟨by rw [← hR]; exact Nat.le_of_ble_eq_true rfl, by rw [← hR]; exact Nat.le_of_ble_eq_true rfl⟩) ⟨fun a U g mk q => by obtain ⟨q0, q1, q2, qK, q10, q11, q12, q13⟩ := q; exact ⟨q0, q1, q2, jG.calling g mk a qK, q10, q11, q12, q13⟩, fun U hU hW => ⟨rfl, hU, hh_82.2.1, hG.step hW hU hh_82.1, hg_ahead_83, hg_ret_11, jP.nil, trivial⟩⟩ rfl rfl hl.1 rfl (lv_room (Nat.le_of_ble_eq_true rfl)) dX11_begin_93 ⟨by rw [hRc]; show _ + 0 ≤ _; omega, by rw [hRs]; show _ + 0 ≤ _; omega⟩) hh_82.1 (fun q _ h => h) (fun q h => h) (fun r_91 u_90 t_90 H_90 locs_90 ht_90 hvm_90 hr_91 hb_90 hz_90 hk_90 hS_90 => ?_)
                  rw [ht_90] at hb_90
                  obtain ⟨hb_901, hb_902, hb_903, hb_904, hb_905⟩ := hb_90
                  have hh_90 : jSt (dC, dI) B base G0 G0 EX11_beginE s.heap 0 0 [(ret_73, 11, 0, .ref ahead_83), (ret_73, 11, 1, .ref units_76), (r1, 3, 12, .null), (cache_16, 1, 2, .int size_21), (r0, 13, 9, .ref cache_16), (kernel_5, 7, 2, .ref start_8), (r0, 13, 5, .ref kernel_5), (r1, 3, 5, .ref sa_), (r1, 3, 6, .ref ea_), (r1, 3, 4, .int ps), (r1, 3, 10, .int pk)] [(sa_, 171, 40, ca 1, fb), (ea_, 172, 40, ca 1, fe)] [(jFl, jLs dC dI ca G0 3 none wl), (jFdo, jDcc dC dI ca G0 (some r1) ph)] H_90 locs_90 := ((hh_82.call hb_901 hb_902 hb_903 hb_904 hS_90 rfl (L1 := [(ret_73, 11, 0, .ref ahead_83), (ret_73, 11, 1, .ref units_76), (r1, 3, 12, .null), (cache_16, 1, 2, .int size_21), (r0, 13, 9, .ref cache_16), (kernel_5, 7, 2, .ref start_8), (r0, 13, 5, .ref kernel_5), (r1, 3, 5, .ref sa_), (r1, 3, 6, .ref ea_), (r1, 3, 4, .int ps), (r1, 3, 10, .int pk)]) [0, 1, 2, 3, 4, 5, 6, 7, 8, 9, 10] rfl rfl (M1 := [(sa_, 171, 40, ca 1, fb), (ea_, 172, 40, ca 1, fe)]) [0, 1] rfl rfl (I1 := [(jFl, jLs dC dI ca G0 3 none wl), (jFdo, jDcc dC dI ca G0 (some r1) ph)]) [0, 1] rfl rfl).more hb_905)
                  clear hh_82 ht_90 hvm_90 hz_90 hk_90 hS_90 hb_901 hb_902 hb_903 hb_904 hb_905
                  obtain ⟨hr_91b, hr_91p⟩ := hr_91
                  have hr_91' := jb_01 hr_91b
                  refine lv_if_eq (tgt := 105) hx hb dX11_begin_96 (by decide) (fun c_92 => ?_) (fun c_92 => ?_)
                  · skip
                    have c_92' : r_91.toInt = 0 := jb_eq (rfl) ((by decide)) c_92
                    obtain ⟨z_93, ez_93⟩ : ∃ y : Int32, y = v4_13 + 1 := ⟨_, rfl⟩
                    refine lv_iinc (v := z_93) (lv' := [(4, .int z_93), (5, .ref ret_73), (0, .ref r0), (1, .ref r1), (2, .int pk), (3, .ref ret_11)]) hx hb dX11_begin_105 hl (k := 5) rfl (by rw [ez_93]; rfl) (by decide) rfl (fun ls hl => ?_)
                    have hz_93 : z_93.toInt = v4_13.toInt + 1 := by rw [ez_93]; exact jb_iadd2 (rfl) (by decide) (by omega)
                    refine lv_goto (tgt := 37) hx hb dX11_begin_108 (by decide) ?_
                    refine W.tight (c2 := 0) (n2 := 0) hh_90.2.2.2.2.2.1 hh_90.2.2.2.2.2.2.1 ?_
                    exact L37 z_93 _ _ (hh_90.sub (L1 := [(kernel_5, 7, 2, .ref start_8), (r0, 13, 5, .ref kernel_5), (r1, 3, 5, .ref sa_), (r1, 3, 6, .ref ea_), (r1, 3, 4, .int ps), (r1, 3, 10, .int pk)]) [5, 6, 7, 8, 9, 10] rfl (M1 := [(sa_, 171, 40, ca 1, fb), (ea_, 172, 40, ca 1, fe)]) [0, 1] rfl (I1 := [(jFl, jLs dC dI ca G0 3 none wl), (jFdo, jDcc dC dI ca G0 (some r1) ph)]) [0, 1] rfl) (by first | omega | (refine ⟨?_, ?_⟩ <;> (first | omega | rfl | assumption | decide | exact Or.inl rfl | exact Or.inr rfl | (simp only; omega)))) (by omega) _ (lv_sub hl [2, 3, 4, 5, 0] rfl)
                  · skip
                    have c_92' : r_91.toInt ≠ 0 := jb_eq_n (rfl) ((by decide)) c_92
                    refine lv_aload_n hx hb dX11_begin_99 rfl (lv_at hl 2 rfl) ?_
                    refine lv_aload hx hb dX11_begin_100 (lv_at hl 0 rfl) ?_
                    refine j7_put hx hb hown hK hh_90 hB hAp hB3 (C := RX1) (T := TX1) (N := 17) rfl (by decide) hg_r1 (i := 12) (by decide) hly_3_12 rfl hlk_580 rfl (ty := (.object "ProofServer$State")) (v := .ref ret_73) (by decide +kernel) rfl rfl (Or.inr ⟨_, rfl, hg_ret_73⟩) rfl (L1 := [(ret_73, 11, 0, .ref ahead_83), (ret_73, 11, 1, .ref units_76), (cache_16, 1, 2, .int size_21), (r0, 13, 9, .ref cache_16), (kernel_5, 7, 2, .ref start_8), (r0, 13, 5, .ref kernel_5), (r1, 3, 5, .ref sa_), (r1, 3, 6, .ref ea_), (r1, 3, 4, .int ps), (r1, 3, 10, .int pk)]) [0, 1, 3, 4, 5, 6, 7, 8, 9, 10] rfl rfl rfl dX11_begin_102 (fun H_94 locs_94 hh_94 => ?_)
                    clear hh_90
                    obtain ⟨z_95, ez_95⟩ : ∃ y : Int32, y = v4_13 + 1 := ⟨_, rfl⟩
                    refine lv_iinc (v := z_95) (lv' := [(4, .int z_95), (5, .ref ret_73), (0, .ref r0), (1, .ref r1), (2, .int pk), (3, .ref ret_11)]) hx hb dX11_begin_105 hl (k := 5) rfl (by rw [ez_95]; rfl) (by decide) rfl (fun ls hl => ?_)
                    have hz_95 : z_95.toInt = v4_13.toInt + 1 := by rw [ez_95]; exact jb_iadd2 (rfl) (by decide) (by omega)
                    refine lv_goto (tgt := 37) hx hb dX11_begin_108 (by decide) ?_
                    refine W.tight (c2 := 0) (n2 := 0) hh_94.2.2.2.2.2.1 hh_94.2.2.2.2.2.2.1 ?_
                    exact L37 z_95 _ _ (hh_94.sub (L1 := [(kernel_5, 7, 2, .ref start_8), (r0, 13, 5, .ref kernel_5), (r1, 3, 5, .ref sa_), (r1, 3, 6, .ref ea_), (r1, 3, 4, .int ps), (r1, 3, 10, .int pk)]) [5, 6, 7, 8, 9, 10] rfl (M1 := [(sa_, 171, 40, ca 1, fb), (ea_, 172, 40, ca 1, fe)]) [0, 1] rfl (I1 := [(jFl, jLs dC dI ca G0 3 none wl), (jFdo, jDcc dC dI ca G0 (some r1) ph)]) [0, 1] rfl) (by first | omega | (refine ⟨?_, ?_⟩ <;> (first | omega | rfl | assumption | decide | exact Or.inl rfl | exact Or.inr rfl | (simp only; omega)))) (by omega) _ (lv_sub hl [2, 3, 4, 5, 0] rfl)
            · refine j7_read hx hb hown hK (C := RX1) (T := TX1) (N := 17) rfl hly_3_12 hlk_580 (hh_69.at 0 rfl) dX11_begin_52 ?_
              refine lv_ifnonnull (tgt := 111) hx hb dX11_begin_55 (by decide) ?_
              refine lv_aload_n hx hb dX11_begin_111 rfl (lv_at hl 1 rfl) ?_
              refine j7_read hx hb hown hK (C := RX1) (T := TX1) (N := 17) rfl hly_3_12 hlk_580 (hh_69.at 0 rfl) dX11_begin_112 ?_
              refine lv_ifnull hx hb dX11_begin_115 ?_
              refine lv_aload_n hx hb dX11_begin_118 rfl (lv_at hl 1 rfl) ?_
              refine lv_aload_n hx hb dX11_begin_119 rfl (lv_at hl 1 rfl) ?_
              refine j7_read hx hb hown hK (C := RX1) (T := TX1) (N := 17) rfl hly_3_12 hlk_580 (hh_69.at 0 rfl) dX11_begin_120 ?_
              obtain ⟨v_96, hv_96, hh_97⟩ := hh_69.pin (C := RX9) (T := TX9) (N := 9) hB11 rfl (by decide) hg_found_70 (i := 1) (by decide) rfl
              clear hh_69
              obtain ⟨units_98, nunits_98, rfl, hg_units_98, hn_units_98⟩ := hv_96
              refine j7_read hx hb hown hK (C := RX9) (T := TX9) (N := 9) rfl hly_11_1 hlk_596 (hh_97.at 0 rfl) dX11_begin_123 ?_
              have hd_100 := hh_97.iv 1 rfl
              have hd_1005 := hh_97.at 6 rfl
              have hd_1006 := hh_97.at 7 rfl
              have hh_101 := hh_97.sub (L1 := [(found_70, 11, 1, .ref units_98), (r1, 3, 12, .ref found_70), (cache_16, 1, 2, .int size_21), (r0, 13, 9, .ref cache_16), (kernel_5, 7, 2, .ref start_8), (r0, 13, 5, .ref kernel_5), (r1, 3, 5, .ref sa_), (r1, 3, 6, .ref ea_), (r1, 3, 4, .int ps), (r1, 3, 10, .int pk)]) [0, 1, 2, 3, 4, 5, 6, 7, 8, 9] rfl (M1 := [(sa_, 171, 40, ca 1, fb), (ea_, 172, 40, ca 1, fe)]) [0, 1] rfl (I1 := [(jFl, jLs dC dI ca G0 3 none wl)]) [0] rfl
              clear hh_97
              refine j7_putX hx hb hown hK hh_101 hB hAp hB3 (C := RX1) (T := TX1) (N := 17) rfl (by decide) hg_r1 (i := 11) (by decide) hly_3_11 rfl hlk_567 rfl (ty := (.array .int)) (v := .ref units_98) (by decide +kernel) rfl rfl (Or.inr ⟨_, _, rfl, hg_units_98, by omega⟩) rfl (L1 := [(found_70, 11, 1, .ref units_98), (r1, 3, 12, .ref found_70), (cache_16, 1, 2, .int size_21), (r0, 13, 9, .ref cache_16), (kernel_5, 7, 2, .ref start_8), (r0, 13, 5, .ref kernel_5), (r1, 3, 5, .ref sa_), (r1, 3, 6, .ref ea_), (r1, 3, 4, .int ps), (r1, 3, 10, .int pk)]) [0, 1, 2, 3, 4, 5, 6, 7, 8, 9] rfl rfl rfl dX11_begin_126 (fun H_99 locs_99 hr_99 hh_99 => ?_)
              clear hh_101
              have hd_100n := jDcc.fld hd_100 hg_r1 hr_99 hd_1005 hd_1006 (hh_99.at 7 rfl) (hh_99.at 8 rfl)
              have hh_102 := hh_99.addI (jDcc.ie hd_100n)
              clear hh_99
              clear hd_100 hd_100n hd_1005 hd_1006 hr_99
              refine lv_aload_n hx hb dX11_begin_129 rfl (lv_at hl 1 rfl) ?_
              refine lv_iconst (v := 1) hx hb dX11_begin_130 (by decide) ?_
              refine j7_put hx hb hown hK hh_102 hB hAp hB3 (C := RX1) (T := TX1) (N := 17) rfl (by decide) hg_r1 (i := 13) (by decide) hly_3_13 rfl hlk_577 rfl (ty := .int) (v := .int 1) (by decide +kernel) rfl rfl (⟨_, rfl⟩) rfl (L1 := [(r1, 3, 11, .ref units_98), (found_70, 11, 1, .ref units_98), (r1, 3, 12, .ref found_70), (cache_16, 1, 2, .int size_21), (r0, 13, 9, .ref cache_16), (kernel_5, 7, 2, .ref start_8), (r0, 13, 5, .ref kernel_5), (r1, 3, 5, .ref sa_), (r1, 3, 6, .ref ea_), (r1, 3, 4, .int ps), (r1, 3, 10, .int pk)]) [0, 1, 2, 3, 4, 5, 6, 7, 8, 9, 10] rfl rfl rfl dX11_begin_131 (fun H_103 locs_103 hh_103 => ?_)
              clear hh_102
              refine lv_goto (tgt := 170) hx hb dX11_begin_134 (by decide) ?_
              have hsz_104 := hh_103.2.2.2.2.2.1
              have htt_104 := hh_103.2.2.2.2.2.2.1
              refine W.room (fun hrc_104 hrs_104 => ?_)
              refine W.widen (k := LC - s.heap.size) (n := LS - jTot s.heap) (by omega) (by omega) ?_
              rw [hQ]
              exact W.vret hx hb hr (fun t ht hW => ⟨⟨(units_98, nunits_98, G0), rfl, by (try dsimp only); first | omega | rfl | assumption | fail, ⟨hh_103.ra (by first | (simp only; omega) | omega) (by first | (simp only; omega) | omega) (M1 := [(r1, 3, 11, .ref units_98)]) [1] rfl ht, hg_units_98, jNk.rf, by rw [ht]; exact hh_103.2.2.2.2.2.2.2.2.sub (L1 := [(jFl, jLs dC dI ca G0 3 none wl), (jFdo, jDcc dC dI ca G0 (some r1) ph)]) [1, 0] rfl⟩⟩, by rw [ht]; try exact hh_103.1.1, fun q h9 hq => by rw [ht]; try exact hh_103.1.2.1 q h9 hq⟩) hh_103.1.2.2 dX11_begin_170
      refine W.tight (c2 := 0) (n2 := 0) hh_12.2.2.2.2.2.1 hh_12.2.2.2.2.2.2.1 ?_
      exact L37 (41 - (0 : Int32).toInt : Int).toNat.succ 0 _ _ (hh_12.sub (L1 := [(kernel_5, 7, 2, .ref start_8), (r0, 13, 5, .ref kernel_5), (r1, 3, 5, .ref sa_), (r1, 3, 6, .ref ea_), (r1, 3, 4, .int ps), (r1, 3, 10, .int pk)]) [1, 2, 3, 4, 5, 6] rfl (M1 := [(sa_, 171, 40, ca 1, fb), (ea_, 172, 40, ca 1, fe)]) [0, 1] rfl (I1 := [(jFl, jLs dC dI ca G0 3 none wl), (jFdo, jDcc dC dI ca G0 (some r1) ph)]) [0, 1] rfl) (by first | omega | (refine ⟨?_, ?_⟩ <;> (first | omega | rfl | assumption | decide | exact Or.inl rfl | exact Or.inr rfl | (simp only; omega)))) (by omega) _ (lv_sub hl [3, 4, 2, 1, 0] rfl)
    · skip
      have c_2' : pk.toInt ≥ 40 := jb_lt_n (rfl) ((by decide)) c_2
      exact absurd c_2' (by omega)
end
