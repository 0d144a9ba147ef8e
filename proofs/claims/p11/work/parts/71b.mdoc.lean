theorem dX14_keepRow_0 : decode cX14_keepRow 0 = .ok (.aload_n 0, 1) := by decide +kernel
theorem dX14_keepRow_1 : decode cX14_keepRow 1 = .ok (.invokevirtual 772, 3) := by decide +kernel
theorem dX14_keepRow_4 : decode cX14_keepRow 4 = .ok (.istore_n 1, 1) := by decide +kernel
theorem dX14_keepRow_5 : decode cX14_keepRow 5 = .ok (.iload_n 1, 1) := by decide +kernel
theorem dX14_keepRow_6 : decode cX14_keepRow 6 = .ok (.ifCond .ge 14, 3) := by decide +kernel
theorem dX14_keepRow_9 : decode cX14_keepRow 9 = .ok (.aload_n 0, 1) := by decide +kernel
theorem dX14_keepRow_10 : decode cX14_keepRow 10 = .ok (.getfield 769, 3) := by decide +kernel
theorem dX14_keepRow_13 : decode cX14_keepRow 13 = .ok (.bipush 24, 2) := by decide +kernel
theorem dX14_keepRow_15 : decode cX14_keepRow 15 = .ok (.if_icmp .ne 5, 3) := by decide +kernel
theorem dX14_keepRow_18 : decode cX14_keepRow 18 = .ok (.iconst 0, 1) := by decide +kernel
theorem dX14_keepRow_19 : decode cX14_keepRow 19 = .ok (.istore_n 1, 1) := by decide +kernel
theorem dX14_keepRow_20 : decode cX14_keepRow 20 = .ok (.iload_n 1, 1) := by decide +kernel
theorem dX14_keepRow_21 : decode cX14_keepRow 21 = .ok (.ifCond .lt 91, 3) := by decide +kernel
theorem dX14_keepRow_24 : decode cX14_keepRow 24 = .ok (.iload_n 1, 1) := by decide +kernel
theorem dX14_keepRow_25 : decode cX14_keepRow 25 = .ok (.istore_n 2, 1) := by decide +kernel
theorem dX14_keepRow_26 : decode cX14_keepRow 26 = .ok (.iload_n 2, 1) := by decide +kernel
theorem dX14_keepRow_27 : decode cX14_keepRow 27 = .ok (.iconst 1, 1) := by decide +kernel
theorem dX14_keepRow_28 : decode cX14_keepRow 28 = .ok (.iadd, 1) := by decide +kernel
theorem dX14_keepRow_29 : decode cX14_keepRow 29 = .ok (.aload_n 0, 1) := by decide +kernel
theorem dX14_keepRow_30 : decode cX14_keepRow 30 = .ok (.getfield 769, 3) := by decide +kernel
theorem dX14_keepRow_33 : decode cX14_keepRow 33 = .ok (.if_icmp .ge 69, 3) := by decide +kernel
theorem dX14_keepRow_36 : decode cX14_keepRow 36 = .ok (.aload_n 0, 1) := by decide +kernel
theorem dX14_keepRow_37 : decode cX14_keepRow 37 = .ok (.getfield 145, 3) := by decide +kernel
theorem dX14_keepRow_40 : decode cX14_keepRow 40 = .ok (.iload_n 2, 1) := by decide +kernel
theorem dX14_keepRow_41 : decode cX14_keepRow 41 = .ok (.aload_n 0, 1) := by decide +kernel
theorem dX14_keepRow_42 : decode cX14_keepRow 42 = .ok (.getfield 145, 3) := by decide +kernel
theorem dX14_keepRow_45 : decode cX14_keepRow 45 = .ok (.iload_n 2, 1) := by decide +kernel
theorem dX14_keepRow_46 : decode cX14_keepRow 46 = .ok (.iconst 1, 1) := by decide +kernel
theorem dX14_keepRow_47 : decode cX14_keepRow 47 = .ok (.iadd, 1) := by decide +kernel
theorem dX14_keepRow_48 : decode cX14_keepRow 48 = .ok (.iaload, 1) := by decide +kernel
theorem dX14_keepRow_49 : decode cX14_keepRow 49 = .ok (.iastore, 1) := by decide +kernel
theorem dX14_keepRow_50 : decode cX14_keepRow 50 = .ok (.iconst 0, 1) := by decide +kernel
theorem dX14_keepRow_51 : decode cX14_keepRow 51 = .ok (.istore_n 3, 1) := by decide +kernel
theorem dX14_keepRow_52 : decode cX14_keepRow 52 = .ok (.iload_n 3, 1) := by decide +kernel
theorem dX14_keepRow_53 : decode cX14_keepRow 53 = .ok (.aload_n 0, 1) := by decide +kernel
theorem dX14_keepRow_54 : decode cX14_keepRow 54 = .ok (.getfield 145, 3) := by decide +kernel
theorem dX14_keepRow_57 : decode cX14_keepRow 57 = .ok (.iload_n 2, 1) := by decide +kernel
theorem dX14_keepRow_58 : decode cX14_keepRow 58 = .ok (.iaload, 1) := by decide +kernel
theorem dX14_keepRow_59 : decode cX14_keepRow 59 = .ok (.if_icmp .ge 37, 3) := by decide +kernel
theorem dX14_keepRow_62 : decode cX14_keepRow 62 = .ok (.aload_n 0, 1) := by decide +kernel
theorem dX14_keepRow_63 : decode cX14_keepRow 63 = .ok (.getfield 142, 3) := by decide +kernel
theorem dX14_keepRow_66 : decode cX14_keepRow 66 = .ok (.sipush 1600, 3) := by decide +kernel
theorem dX14_keepRow_69 : decode cX14_keepRow 69 = .ok (.iload_n 2, 1) := by decide +kernel
theorem dX14_keepRow_70 : decode cX14_keepRow 70 = .ok (.imul, 1) := by decide +kernel
theorem dX14_keepRow_71 : decode cX14_keepRow 71 = .ok (.iload_n 3, 1) := by decide +kernel
theorem dX14_keepRow_72 : decode cX14_keepRow 72 = .ok (.iadd, 1) := by decide +kernel
theorem dX14_keepRow_73 : decode cX14_keepRow 73 = .ok (.aload_n 0, 1) := by decide +kernel
theorem dX14_keepRow_74 : decode cX14_keepRow 74 = .ok (.getfield 142, 3) := by decide +kernel
theorem dX14_keepRow_77 : decode cX14_keepRow 77 = .ok (.sipush 1600, 3) := by decide +kernel
theorem dX14_keepRow_80 : decode cX14_keepRow 80 = .ok (.iload_n 2, 1) := by decide +kernel
theorem dX14_keepRow_81 : decode cX14_keepRow 81 = .ok (.imul, 1) := by decide +kernel
theorem dX14_keepRow_82 : decode cX14_keepRow 82 = .ok (.sipush 1600, 3) := by decide +kernel
theorem dX14_keepRow_85 : decode cX14_keepRow 85 = .ok (.iadd, 1) := by decide +kernel
theorem dX14_keepRow_86 : decode cX14_keepRow 86 = .ok (.iload_n 3, 1) := by decide +kernel
theorem dX14_keepRow_87 : decode cX14_keepRow 87 = .ok (.iadd, 1) := by decide +kernel
theorem dX14_keepRow_88 : decode cX14_keepRow 88 = .ok (.iaload, 1) := by decide +kernel
theorem dX14_keepRow_89 : decode cX14_keepRow 89 = .ok (.iastore, 1) := by decide +kernel
theorem dX14_keepRow_90 : decode cX14_keepRow 90 = .ok (.iinc 3 1, 3) := by decide +kernel
theorem dX14_keepRow_93 : decode cX14_keepRow 93 = .ok (.goto (-41), 3) := by decide +kernel
theorem dX14_keepRow_96 : decode cX14_keepRow 96 = .ok (.iinc 2 1, 3) := by decide +kernel
theorem dX14_keepRow_99 : decode cX14_keepRow 99 = .ok (.goto (-73), 3) := by decide +kernel
theorem dX14_keepRow_102 : decode cX14_keepRow 102 = .ok (.aload_n 0, 1) := by decide +kernel
theorem dX14_keepRow_103 : decode cX14_keepRow 103 = .ok (.dup, 1) := by decide +kernel
theorem dX14_keepRow_104 : decode cX14_keepRow 104 = .ok (.getfield 769, 3) := by decide +kernel
theorem dX14_keepRow_107 : decode cX14_keepRow 107 = .ok (.iconst 1, 1) := by decide +kernel
theorem dX14_keepRow_108 : decode cX14_keepRow 108 = .ok (.isub, 1) := by decide +kernel
theorem dX14_keepRow_109 : decode cX14_keepRow 109 = .ok (.putfield 769, 3) := by decide +kernel
theorem dX14_keepRow_112 : decode cX14_keepRow 112 = .ok (.aload_n 0, 1) := by decide +kernel
theorem dX14_keepRow_113 : decode cX14_keepRow 113 = .ok (.getfield 145, 3) := by decide +kernel
theorem dX14_keepRow_116 : decode cX14_keepRow 116 = .ok (.aload_n 0, 1) := by decide +kernel
theorem dX14_keepRow_117 : decode cX14_keepRow 117 = .ok (.getfield 769, 3) := by decide +kernel
theorem dX14_keepRow_120 : decode cX14_keepRow 120 = .ok (.aload_n 0, 1) := by decide +kernel
theorem dX14_keepRow_121 : decode cX14_keepRow 121 = .ok (.getfield 766, 3) := by decide +kernel
theorem dX14_keepRow_124 : decode cX14_keepRow 124 = .ok (.iastore, 1) := by decide +kernel
theorem dX14_keepRow_125 : decode cX14_keepRow 125 = .ok (.iconst 0, 1) := by decide +kernel
theorem dX14_keepRow_126 : decode cX14_keepRow 126 = .ok (.istore_n 2, 1) := by decide +kernel
theorem dX14_keepRow_127 : decode cX14_keepRow 127 = .ok (.iload_n 2, 1) := by decide +kernel
theorem dX14_keepRow_128 : decode cX14_keepRow 128 = .ok (.aload_n 0, 1) := by decide +kernel
theorem dX14_keepRow_129 : decode cX14_keepRow 129 = .ok (.getfield 766, 3) := by decide +kernel
theorem dX14_keepRow_132 : decode cX14_keepRow 132 = .ok (.if_icmp .ge 30, 3) := by decide +kernel
theorem dX14_keepRow_135 : decode cX14_keepRow 135 = .ok (.aload_n 0, 1) := by decide +kernel
theorem dX14_keepRow_136 : decode cX14_keepRow 136 = .ok (.getfield 142, 3) := by decide +kernel
theorem dX14_keepRow_139 : decode cX14_keepRow 139 = .ok (.sipush 1600, 3) := by decide +kernel
theorem dX14_keepRow_142 : decode cX14_keepRow 142 = .ok (.aload_n 0, 1) := by decide +kernel
theorem dX14_keepRow_143 : decode cX14_keepRow 143 = .ok (.getfield 769, 3) := by decide +kernel
theorem dX14_keepRow_146 : decode cX14_keepRow 146 = .ok (.imul, 1) := by decide +kernel
theorem dX14_keepRow_147 : decode cX14_keepRow 147 = .ok (.iload_n 2, 1) := by decide +kernel
theorem dX14_keepRow_148 : decode cX14_keepRow 148 = .ok (.iadd, 1) := by decide +kernel
theorem dX14_keepRow_149 : decode cX14_keepRow 149 = .ok (.aload_n 0, 1) := by decide +kernel
theorem dX14_keepRow_150 : decode cX14_keepRow 150 = .ok (.getfield 148, 3) := by decide +kernel
theorem dX14_keepRow_153 : decode cX14_keepRow 153 = .ok (.iload_n 2, 1) := by decide +kernel
theorem dX14_keepRow_154 : decode cX14_keepRow 154 = .ok (.iaload, 1) := by decide +kernel
theorem dX14_keepRow_155 : decode cX14_keepRow 155 = .ok (.iastore, 1) := by decide +kernel
theorem dX14_keepRow_156 : decode cX14_keepRow 156 = .ok (.iinc 2 1, 3) := by decide +kernel
theorem dX14_keepRow_159 : decode cX14_keepRow 159 = .ok (.goto (-32), 3) := by decide +kernel
theorem dX14_keepRow_162 : decode cX14_keepRow 162 = .ok (.aload_n 0, 1) := by decide +kernel
theorem dX14_keepRow_163 : decode cX14_keepRow 163 = .ok (.dup, 1) := by decide +kernel
theorem dX14_keepRow_164 : decode cX14_keepRow 164 = .ok (.getfield 769, 3) := by decide +kernel
theorem dX14_keepRow_167 : decode cX14_keepRow 167 = .ok (.iconst 1, 1) := by decide +kernel
theorem dX14_keepRow_168 : decode cX14_keepRow 168 = .ok (.iadd, 1) := by decide +kernel
theorem dX14_keepRow_169 : decode cX14_keepRow 169 = .ok (.putfield 769, 3) := by decide +kernel
theorem dX14_keepRow_172 : decode cX14_keepRow 172 = .ok (.return_, 1) := by decide +kernel
def EX14_keepRow : List (Nat × Nat) := [(16, 66), (101, 0), (205, 0)]
set_option maxHeartbeats 4000000 in
set_option maxRecDepth 20000 in
theorem uX14_keepRow (l : Launch) (dC : Nat → ClassId) (dI : Nat → Nat → Nat) (ca : Nat → ClassId) (base : Nat) (B : jF) (hB : jBok B) (hAp : jAp (dC, dI)) (hB16 : ∀ n G a H, B 16 n G a H ↔ jOb (dC, dI) 16 74 (F16 n G) a H) (hB101 : ∀ n G a H, B 101 n G a H ↔ jAr (dC, dI) (ca 1) (fun j z => True) n a H) (hB205 : ∀ n G a H, B 205 n G a H ↔ jAr (dC, dI) (ca 1) (fun j z => 0 ≤ z.toInt ∧ z.toInt ≤ 1600) n a H) (G0 : jT) (H0 : Heap) (r0 : Nat) : Met l yX14_keepRow (jw yX14_keepRow cX14_keepRow 4 none) ({ frames := 1, cells := 0, slots := 0, locals := 23 }) (va_Pc [.ref r0] (fun U => U.heap = H0 ∧ jX B base G0 [] H0 ∧ jG dC dI ca base U ∧ G0 r0 = some (16, 0) ∧ jP (dC, dI) G0 H0 [] ∧ True)) (va_Qv (S := Unit) (fun u => True) (fun u t => jRt (dC, dI) B base G0 EX14_keepRow H0 [] t.heap) (jA base)) 0 0 (jA base) := by
  refine Met.ofW (cc := cX14_keepRow) (maxL := 4) (ret := none) (by decide) rfl ?_
  intro p e s m args below meth c s₁ Bd hml hv
  obtain ⟨rfl, hH0, hX, hG, hg_r0, hP0, hp0⟩ := hv
  have hK := hG.1
  have hx := Bd.exec
  have hb := Bd.bytes
  have hr := Bd.returns
  have hts := atoms_spec (ws := (jw yX14_keepRow cX14_keepRow 4 none)) Bd.pre
  have htw : ∀ w ∈ jWl, w.before _ s = true := fun w h => hts w (List.mem_cons_of_mem _ h)
  have hown : s.vm.findClass RX14 = some m.cls := findClass_of_methodNamed Bd.named
  have hlocks := Bd.notSynchronized
  obtain ⟨Q, hQ⟩ : ∃ Q, Q = MQ below (va_Qv (S := Unit) (fun u => True) (fun u t => jRt (dC, dI) B base G0 EX14_keepRow H0 [] t.heap) (jA base)) ([.ref r0] : List Value).toArray s 0 0 (jA base) := ⟨_, rfl⟩
  rw [← hQ]
  have hl := lv_entry ([.ref r0]) (n := 4) (Nat.le_of_ble_eq_true rfl)
  rw [lg_entry_eq]
  generalize (lg_sl ([.ref r0]) ++ List.replicate (4 - (lg_sl ([.ref r0])).length) Slot.unset).toArray = ls at hl ⊢
  have hl : lv_has ls 4 [(0, .ref r0)] := hl
  generalize hR : (headSpec (jw yX14_keepRow cX14_keepRow 4 none) ({ frames := 1, cells := 0, slots := 0, locals := 23 })).room = R
  subst hH0
  have hh : jSt (dC, dI) B base G0 G0 EX14_keepRow s.heap 0 0 [] [] [] s.heap [] := jSt.start hX hP0 jMc.nil jIs.nil
  clear hX hP0
  have hk0 : (0 : Int32).toInt = 0 := by decide
  have hk1 : (1 : Int32).toInt = 1 := by decide
  have hk24 : (24 : Int32).toInt = 24 := by decide
  have hk1600 : (1600 : Int32).toInt = 1600 := by decide
  have hly_16_66 := htw (u_lay RX14 TX14 66) (jWc_wsX140 _ (u_in_lay (by decide)))
  have hly_16_67 := htw (u_lay RX14 TX14 67) (jWc_wsX140 _ (u_in_lay (by decide)))
  have hly_16_68 := htw (u_lay RX14 TX14 68) (jWc_wsX140 _ (u_in_lay (by decide)))
  have hly_16_69 := htw (u_lay RX14 TX14 69) (jWc_wsX140 _ (u_in_lay (by decide)))
  have hly_16_70 := htw (u_lay RX14 TX14 70) (jWc_wsX140 _ (u_in_lay (by decide)))
  have hlk_769 := (htw (.fieldLink RX14 769 "ProofServerModel" "cached" "I") (jWr_90 _ (List.mem_of_getElem? (i := 22) rfl)))
  have hlk_145 := (htw (.fieldLink RX14 145 "ProofServerModel" "cacheLength" "[I") (jWr_12 _ (List.mem_of_getElem? (i := 21) rfl)))
  have hlk_142 := (htw (.fieldLink RX14 142 "ProofServerModel" "cacheUnits" "[I") (jWr_12 _ (List.mem_of_getElem? (i := 20) rfl)))
  have hlk_766 := (htw (.fieldLink RX14 766 "ProofServerModel" "rowLength" "I") (jWr_90 _ (List.mem_of_getElem? (i := 17) rfl)))
  have hlk_148 := (htw (.fieldLink RX14 148 "ProofServerModel" "row" "[I") (jWr_12 _ (List.mem_of_getElem? (i := 22) rfl)))
  refine lv_aload_n hx hb dX14_keepRow_0 rfl (lv_at hl 0 rfl) ?_
  obtain ⟨v_3, hv_3, hh_4⟩ := hh.pin (C := RX14) (T := TX14) (N := 74) hB16 rfl (by decide) hg_r0 (i := 66) (by decide) rfl
  obtain ⟨cached_5, rfl, hlocached_5, hhicached_5⟩ := hv_3
  refine va_calli (A0 := jA base) (H0 := s.heap) (va_runV (As := []) (rest := []) ⟨hx, hb, hml, hown, hts⟩ (uX14_inCache l dC dI ca base B hB hAp hB16 hB101 hB205 G0 s.heap r0 cached_5) (cwV 0 hts (jgV (jWr_90 _ (List.mem_of_getElem? (i := 18) rfl)) (jWr_90 _ (List.mem_of_getElem? (i := 19) rfl)) (jWr_90 _ (List.mem_of_getElem? (i := 20) rfl)) (jWr_1 _ (List.mem_of_getElem? (i := 5) rfl)) (jWr_90 _ (List.mem_of_getElem? (i := 21) rfl))) rfl rfl rfl (by decide +kernel) ⟨by rw [← hR]; exact Nat.le_of_ble_eq_true rfl, by rw [← hR]; exact Nat.le_of_ble_eq_true rfl⟩) ⟨fun a U g mk q => by obtain ⟨q0, q1, q2, qK, q10, q11, q12⟩ := q; exact ⟨q0, q1, q2, jG.calling g mk a qK, q10, q11, q12⟩, hh_4.recv (C := RX14) (T := TX14) (N := 74) hB16 rfl (by decide) hg_r0 hK, fun U hU hW => ⟨rfl, hU, hh_4.2.1, hG.step hW hU hh_4.1, hg_r0, (hh_4.2.2.1.sub (L1 := [(r0, 16, 66, .int cached_5)]) [0] rfl), by first | omega | (refine ⟨?_, ?_⟩ <;> (first | omega | rfl | assumption | decide | exact Or.inl rfl | exact Or.inr rfl | (simp only; omega)))⟩⟩ rfl rfl hl.1 rfl (lv_room (Nat.le_of_ble_eq_true rfl)) dX14_keepRow_1 ⟨Nat.zero_le _, Nat.zero_le _⟩) hh_4.1 (fun q _ h => h) (fun q h => h) (fun r_2 u_1 t_1 H_1 locs_1 ht_1 hvm_1 hr_2 hb_1 hz_1 hk_1 hS_1 => ?_)
  rw [ht_1] at hb_1
  obtain ⟨hb_11, hb_12, hb_13, hb_14, hb_15⟩ := hb_1
  have hh_1 : jSt (dC, dI) B base G0 G0 EX14_keepRow s.heap 0 0 [(r0, 16, 66, .int cached_5)] [] [] H_1 locs_1 := ((hh_4.call hb_11 hb_12 hb_13 hb_14 hS_1 rfl (L1 := [(r0, 16, 66, .int cached_5)]) [0] rfl rfl (M1 := []) [] rfl rfl (I1 := []) [] rfl rfl).more hb_15)
  clear hh_4 ht_1 hvm_1 hz_1 hk_1 hS_1 hb_11 hb_12 hb_13 hb_14 hb_15
  obtain ⟨hr_2_0, hr_2_1, hr_2_2⟩ := hr_2
  refine lv_istore_n (lv' := [(1, .int r_2), (0, .ref r0)]) hx hb dX14_keepRow_4 rfl hl (by decide) rfl (fun ls hl => ?_)
  refine lv_iload_n hx hb dX14_keepRow_5 rfl (lv_at hl 0 rfl) ?_
  have C20 : ∀ (v1_6 : Int32) (H_6 : Heap) (locs_6 : List Loc), jSt (dC, dI) B base G0 G0 EX14_keepRow s.heap 0 0 [(r0, 16, 66, .int cached_5)] [] [] H_6 locs_6 → (-1 ≤ v1_6.toInt ∧ v1_6.toInt ≤ 23 ∧ ((v1_6.toInt = -1 ∧ cached_5.toInt ≤ 23) ∨ (0 ≤ v1_6.toInt ∧ v1_6.toInt < cached_5.toInt))) → ∀ ls : Array Slot, lv_has ls 4 [(0, .ref r0), (1, .int v1_6)] → W p l e R s m ([.ref r0] : List Value).toArray below meth c H_6 locs_6 0 0 Q (F0 m 20 ls []) := by
    intro v1_6 H_6 locs_6 hh_6  hi_6 ls hl
    obtain ⟨hi_6_0, hi_6_1, hi_6_2⟩ := hi_6
    try clear hr_2_2
    refine lv_iload_n hx hb dX14_keepRow_20 rfl (lv_at hl 1 rfl) ?_
    have C112 : ∀ (wq_7 : Int32) (H_7 : Heap) (locs_7 : List Loc), jSt (dC, dI) B base G0 G0 EX14_keepRow s.heap 0 0 [(r0, 16, 66, .int wq_7)] [] [] H_7 locs_7 → (0 ≤ wq_7.toInt ∧ wq_7.toInt ≤ 23) → ∀ ls : Array Slot, lv_has ls 4 [(0, .ref r0), (1, .int v1_6)] → W p l e R s m ([.ref r0] : List Value).toArray below meth c H_7 locs_7 0 0 Q (F0 m 112 ls []) := by
      intro wq_7 H_7 locs_7 hh_7  hi_7 ls hl
      obtain ⟨hi_7_0, hi_7_1⟩ := hi_7
      refine lv_aload_n hx hb dX14_keepRow_112 rfl (lv_at hl 0 rfl) ?_
      obtain ⟨v_8, hv_8, hh_9⟩ := hh_7.pin (C := RX14) (T := TX14) (N := 74) hB16 rfl (by decide) hg_r0 (i := 68) (by decide) rfl
      clear hh_7
      obtain ⟨cacheLength_10, rfl, hg_cacheLength_10⟩ := hv_8
      refine j7_read hx hb hown hK (C := RX14) (T := TX14) (N := 74) rfl hly_16_68 hlk_145 (hh_9.at 0 rfl) dX14_keepRow_113 ?_
      refine lv_aload_n hx hb dX14_keepRow_116 rfl (lv_at hl 0 rfl) ?_
      refine j7_read hx hb hown hK (C := RX14) (T := TX14) (N := 74) rfl hly_16_66 hlk_769 (hh_9.at 1 rfl) dX14_keepRow_117 ?_
      refine lv_aload_n hx hb dX14_keepRow_120 rfl (lv_at hl 0 rfl) ?_
      obtain ⟨v_11, hv_11, hh_12⟩ := hh_9.pin (C := RX14) (T := TX14) (N := 74) hB16 rfl (by decide) hg_r0 (i := 70) (by decide) rfl
      clear hh_9
      obtain ⟨rowLength_13, rfl, hlorowLength_13, hhirowLength_13⟩ := hv_11
      refine j7_read hx hb hown hK (C := RX14) (T := TX14) (N := 74) rfl hly_16_70 hlk_766 (hh_12.at 0 rfl) dX14_keepRow_121 ?_
      refine j7_iast hx hb hK hh_12 hB hB205 1 rfl (by decide) (by decide) rfl rfl rfl hg_cacheLength_10 (x := wq_7.toInt) (rfl) (by omega) (by first | omega | (refine ⟨?_, ?_⟩ <;> (first | omega | rfl | assumption | decide | exact Or.inl rfl | exact Or.inr rfl | (simp only; omega)))) dX14_keepRow_124 (fun H_14 locs_14 hh_14 => ?_)
      clear hh_12
      refine lv_iconst (v := 0) hx hb dX14_keepRow_125 (by decide) ?_
      refine lv_istore_n (lv' := [(2, .int 0), (0, .ref r0), (1, .int v1_6)]) hx hb dX14_keepRow_126 rfl hl (by decide) rfl (fun ls hl => ?_)
      have L127 : ∀ (N : Nat) (v2_15 : Int32) (H_15 : Heap) (locs_15 : List Loc), jSt (dC, dI) B base G0 G0 EX14_keepRow s.heap 0 0 [(r0, 16, 70, .int rowLength_13), (r0, 16, 68, .ref cacheLength_10), (r0, 16, 66, .int wq_7)] [] [] H_15 locs_15 → (0 ≤ v2_15.toInt ∧ v2_15.toInt ≤ 1600) → (((rowLength_13.toInt - v2_15.toInt).toNat : Int) : Int) < N → ∀ ls : Array Slot, lv_has ls 4 [(0, .ref r0), (1, .int v1_6), (2, .int v2_15)] → W p l e R s m ([.ref r0] : List Value).toArray below meth c H_15 locs_15 0 0 Q (F0 m 127 ls []) := by
        intro N
        induction N with
        | zero => intro v2_15 H_15 locs_15 hh_15  hi_15 hm; exact absurd hm (by omega)
        | succ N L127 =>
          intro v2_15 H_15 locs_15 hh_15  hi_15 hm_15 ls hl
          obtain ⟨hi_15_0, hi_15_1⟩ := hi_15
          refine lv_iload_n hx hb dX14_keepRow_127 rfl (lv_at hl 2 rfl) ?_
          refine lv_aload_n hx hb dX14_keepRow_128 rfl (lv_at hl 0 rfl) ?_
          refine j7_read hx hb hown hK (C := RX14) (T := TX14) (N := 74) rfl hly_16_70 hlk_766 (hh_15.at 0 rfl) dX14_keepRow_129 ?_
          refine lv_icmp_ge (tgt := 162) hx hb dX14_keepRow_132 (by decide) (fun c_16 => ?_) (fun c_16 => ?_)
          · skip
            have c_16' : v2_15.toInt ≥ rowLength_13.toInt := jb_ge (rfl) (rfl) c_16
            refine lv_aload_n hx hb dX14_keepRow_162 rfl (lv_at hl 0 rfl) ?_
            refine lv_dup hx hb dX14_keepRow_163 rfl ?_
            refine j7_read hx hb hown hK (C := RX14) (T := TX14) (N := 74) rfl hly_16_66 hlk_769 (hh_15.at 2 rfl) dX14_keepRow_164 ?_
            refine lv_iconst (v := 1) hx hb dX14_keepRow_167 (by decide) ?_
            refine lv_iadd hx hb dX14_keepRow_168 ?_
            refine lv_topi (fun z_17 ez_17 => ?_)
            have hz_17 : z_17.toInt = wq_7.toInt + 1 := by rw [ez_17]; exact jb_iadd2 (rfl) ((by decide)) (by omega)
            refine j7_put hx hb hown hK hh_15 hB hAp hB16 (C := RX14) (T := TX14) (N := 74) rfl (by decide) hg_r0 (i := 66) (by decide) hly_16_66 rfl hlk_769 rfl (ty := .int) (v := .int z_17) (by decide +kernel) rfl rfl (⟨_, rfl, by omega, by omega⟩) rfl (L1 := [(r0, 16, 70, .int rowLength_13), (r0, 16, 68, .ref cacheLength_10)]) [0, 1] rfl rfl rfl dX14_keepRow_169 (fun H_18 locs_18 hh_18 => ?_)
            clear hh_15
            rw [hQ]
            exact W.vret hx hb hr (fun t ht hW => ⟨⟨(), rfl, trivial, hh_18.rt (M1 := []) [] rfl ht⟩, by rw [ht]; try exact hh_18.1.1, fun q h9 hq => by rw [ht]; try exact hh_18.1.2.1 q h9 hq⟩) hh_18.1.2.2 dX14_keepRow_172
          · skip
            have c_16' : v2_15.toInt < rowLength_13.toInt := jb_ge_n (rfl) (rfl) c_16
            refine lv_aload_n hx hb dX14_keepRow_135 rfl (lv_at hl 0 rfl) ?_
            obtain ⟨v_19, hv_19, hh_20⟩ := hh_15.pin (C := RX14) (T := TX14) (N := 74) hB16 rfl (by decide) hg_r0 (i := 67) (by decide) rfl
            clear hh_15
            obtain ⟨cacheUnits_21, rfl, hg_cacheUnits_21⟩ := hv_19
            refine j7_read hx hb hown hK (C := RX14) (T := TX14) (N := 74) rfl hly_16_67 hlk_142 (hh_20.at 0 rfl) dX14_keepRow_136 ?_
            refine lv_sipush (v := 1600) hx hb dX14_keepRow_139 (by decide) ?_
            refine lv_aload_n hx hb dX14_keepRow_142 rfl (lv_at hl 0 rfl) ?_
            refine j7_read hx hb hown hK (C := RX14) (T := TX14) (N := 74) rfl hly_16_66 hlk_769 (hh_20.at 3 rfl) dX14_keepRow_143 ?_
            refine lv_imul hx hb dX14_keepRow_146 ?_
            refine lv_topi (fun z_22 ez_22 => ?_)
            have hz_22 : z_22.toInt = 1600 * wq_7.toInt := by rw [ez_22]; exact jb_imul2 ((by decide)) (rfl) (by omega)
            refine lv_iload_n hx hb dX14_keepRow_147 rfl (lv_at hl 2 rfl) ?_
            refine lv_iadd hx hb dX14_keepRow_148 ?_
            refine lv_topi (fun z_23 ez_23 => ?_)
            have hz_23 : z_23.toInt = z_22.toInt + v2_15.toInt := by rw [ez_23]; exact jb_iadd2 (rfl) (rfl) (by omega)
            refine lv_aload_n hx hb dX14_keepRow_149 rfl (lv_at hl 0 rfl) ?_
            obtain ⟨v_24, hv_24, hh_25⟩ := hh_20.pin (C := RX14) (T := TX14) (N := 74) hB16 rfl (by decide) hg_r0 (i := 69) (by decide) rfl
            clear hh_20
            obtain ⟨row_26, rfl, hg_row_26⟩ := hv_24
            refine j7_read hx hb hown hK (C := RX14) (T := TX14) (N := 74) rfl hly_16_69 hlk_148 (hh_25.at 0 rfl) dX14_keepRow_150 ?_
            refine lv_iload_n hx hb dX14_keepRow_153 rfl (lv_at hl 2 rfl) ?_
            refine j7_iald hx hb hK hh_25 hB101 1 rfl (by decide) hg_row_26 (x := v2_15.toInt) (rfl) (by omega) dX14_keepRow_154 (fun z_27 (hz_27 : True) => ?_)
            refine j7_iast hx hb hK hh_25 hB hB101 1 rfl (by decide) (by decide) rfl rfl rfl hg_cacheUnits_21 (x := z_23.toInt) (rfl) (by omega) (trivial) dX14_keepRow_155 (fun H_28 locs_28 hh_28 => ?_)
            clear hh_25
            obtain ⟨z_29, ez_29⟩ : ∃ y : Int32, y = v2_15 + 1 := ⟨_, rfl⟩
            refine lv_iinc (v := z_29) (lv' := [(2, .int z_29), (0, .ref r0), (1, .int v1_6)]) hx hb dX14_keepRow_156 hl (k := 2) rfl (by rw [ez_29]; rfl) (by decide) rfl (fun ls hl => ?_)
            have hz_29 : z_29.toInt = v2_15.toInt + 1 := by rw [ez_29]; exact jb_iadd2 (rfl) (by decide) (by omega)
            refine lv_goto (tgt := 127) hx hb dX14_keepRow_159 (by decide) ?_
            exact L127 z_29 _ _ (hh_28.sub (L1 := [(r0, 16, 70, .int rowLength_13), (r0, 16, 68, .ref cacheLength_10), (r0, 16, 66, .int wq_7)]) [2, 3, 4] rfl (M1 := []) [] rfl (I1 := []) [] rfl) (by first | omega | (refine ⟨?_, ?_⟩ <;> (first | omega | rfl | assumption | decide | exact Or.inl rfl | exact Or.inr rfl | (simp only; omega)))) (by omega) _ (lv_sub hl [1, 2, 0] rfl)
      exact L127 (((rowLength_13.toInt - (0 : Int32).toInt).toNat : Int) : Int).toNat.succ 0 _ _ hh_14 (by first | omega | (refine ⟨?_, ?_⟩ <;> (first | omega | rfl | assumption | decide | exact Or.inl rfl | exact Or.inr rfl | (simp only; omega)))) (by omega) _ (lv_sub hl [1, 2, 0] rfl)
    refine lv_if_lt (tgt := 112) hx hb dX14_keepRow_21 (by decide) (fun c_30 => ?_) (fun c_30 => ?_)
    · skip
      have c_30' : v1_6.toInt < 0 := jb_lt (rfl) ((by decide)) c_30
      exact C112 cached_5 _ _ hh_6 (by first | omega | (refine ⟨?_, ?_⟩ <;> (first | omega | rfl | assumption | decide | exact Or.inl rfl | exact Or.inr rfl | (simp only; omega)))) _ (lv_sub hl [0, 1] rfl)
    · skip
      have c_30' : v1_6.toInt ≥ 0 := jb_lt_n (rfl) ((by decide)) c_30
      refine lv_iload_n hx hb dX14_keepRow_24 rfl (lv_at hl 1 rfl) ?_
      refine lv_istore_n (lv' := [(2, .int v1_6), (0, .ref r0), (1, .int v1_6)]) hx hb dX14_keepRow_25 rfl hl (by decide) rfl (fun ls hl => ?_)
      have L26 : ∀ (N : Nat) (v2_31 : Int32) (H_31 : Heap) (locs_31 : List Loc), jSt (dC, dI) B base G0 G0 EX14_keepRow s.heap 0 0 [(r0, 16, 66, .int cached_5)] [] [] H_31 locs_31 → (0 ≤ v2_31.toInt ∧ v2_31.toInt ≤ 24) → (((cached_5.toInt - v2_31.toInt).toNat : Int) : Int) < N → ∀ ls : Array Slot, lv_has ls 4 [(0, .ref r0), (1, .int v1_6), (2, .int v2_31)] → W p l e R s m ([.ref r0] : List Value).toArray below meth c H_31 locs_31 0 0 Q (F0 m 26 ls []) := by
        intro N
        induction N with
        | zero => intro v2_31 H_31 locs_31 hh_31  hi_31 hm; exact absurd hm (by omega)
        | succ N L26 =>
          intro v2_31 H_31 locs_31 hh_31  hi_31 hm_31 ls hl
          obtain ⟨hi_31_0, hi_31_1⟩ := hi_31
          refine lv_iload_n hx hb dX14_keepRow_26 rfl (lv_at hl 2 rfl) ?_
          refine lv_iconst (v := 1) hx hb dX14_keepRow_27 (by decide) ?_
          refine lv_iadd hx hb dX14_keepRow_28 ?_
          refine lv_topi (fun z_32 ez_32 => ?_)
          have hz_32 : z_32.toInt = v2_31.toInt + 1 := by rw [ez_32]; exact jb_iadd2 (rfl) ((by decide)) (by omega)
          refine lv_aload_n hx hb dX14_keepRow_29 rfl (lv_at hl 0 rfl) ?_
          refine j7_read hx hb hown hK (C := RX14) (T := TX14) (N := 74) rfl hly_16_66 hlk_769 (hh_31.at 0 rfl) dX14_keepRow_30 ?_
          refine lv_icmp_ge (tgt := 102) hx hb dX14_keepRow_33 (by decide) (fun c_33 => ?_) (fun c_33 => ?_)
          · skip
            have c_33' : z_32.toInt ≥ cached_5.toInt := jb_ge (rfl) (rfl) c_33
            refine lv_aload_n hx hb dX14_keepRow_102 rfl (lv_at hl 0 rfl) ?_
            refine lv_dup hx hb dX14_keepRow_103 rfl ?_
            refine j7_read hx hb hown hK (C := RX14) (T := TX14) (N := 74) rfl hly_16_66 hlk_769 (hh_31.at 0 rfl) dX14_keepRow_104 ?_
            refine lv_iconst (v := 1) hx hb dX14_keepRow_107 (by decide) ?_
            refine lv_isub hx hb dX14_keepRow_108 ?_
            refine lv_topi (fun z_34 ez_34 => ?_)
            have hz_34 : z_34.toInt = cached_5.toInt - 1 := by rw [ez_34]; exact jb_isub2 (rfl) ((by decide)) (by omega)
            refine j7_put hx hb hown hK hh_31 hB hAp hB16 (C := RX14) (T := TX14) (N := 74) rfl (by decide) hg_r0 (i := 66) (by decide) hly_16_66 rfl hlk_769 rfl (ty := .int) (v := .int z_34) (by decide +kernel) rfl rfl (⟨_, rfl, by omega, by omega⟩) rfl (L1 := []) [] rfl rfl rfl dX14_keepRow_109 (fun H_35 locs_35 hh_35 => ?_)
            clear hh_31
            exact C112 z_34 _ _ hh_35 (by first | omega | (refine ⟨?_, ?_⟩ <;> (first | omega | rfl | assumption | decide | exact Or.inl rfl | exact Or.inr rfl | (simp only; omega)))) _ (lv_sub hl [0, 1] rfl)
          · skip
            have c_33' : z_32.toInt < cached_5.toInt := jb_ge_n (rfl) (rfl) c_33
            refine lv_aload_n hx hb dX14_keepRow_36 rfl (lv_at hl 0 rfl) ?_
            obtain ⟨v_36, hv_36, hh_37⟩ := hh_31.pin (C := RX14) (T := TX14) (N := 74) hB16 rfl (by decide) hg_r0 (i := 68) (by decide) rfl
            clear hh_31
            obtain ⟨cacheLength_38, rfl, hg_cacheLength_38⟩ := hv_36
            refine j7_read hx hb hown hK (C := RX14) (T := TX14) (N := 74) rfl hly_16_68 hlk_145 (hh_37.at 0 rfl) dX14_keepRow_37 ?_
            refine lv_iload_n hx hb dX14_keepRow_40 rfl (lv_at hl 2 rfl) ?_
            refine lv_aload_n hx hb dX14_keepRow_41 rfl (lv_at hl 0 rfl) ?_
            refine j7_read hx hb hown hK (C := RX14) (T := TX14) (N := 74) rfl hly_16_68 hlk_145 (hh_37.at 0 rfl) dX14_keepRow_42 ?_
            refine lv_iload_n hx hb dX14_keepRow_45 rfl (lv_at hl 2 rfl) ?_
            refine lv_iconst (v := 1) hx hb dX14_keepRow_46 (by decide) ?_
            refine lv_iadd hx hb dX14_keepRow_47 ?_
            refine lv_topi (fun z_39 ez_39 => ?_)
            have hz_39 : z_39.toInt = v2_31.toInt + 1 := by rw [ez_39]; exact jb_iadd2 (rfl) ((by decide)) (by omega)
            refine j7_iald hx hb hK hh_37 hB205 1 rfl (by decide) hg_cacheLength_38 (x := z_39.toInt) (rfl) (by omega) dX14_keepRow_48 (fun z_40 (hz_40 : 0 ≤ z_40.toInt ∧ z_40.toInt ≤ 1600) => ?_)
            refine j7_iast hx hb hK hh_37 hB hB205 1 rfl (by decide) (by decide) rfl rfl rfl hg_cacheLength_38 (x := v2_31.toInt) (rfl) (by omega) (by first | omega | (refine ⟨?_, ?_⟩ <;> (first | omega | rfl | assumption | decide | exact Or.inl rfl | exact Or.inr rfl | (simp only; omega)))) dX14_keepRow_49 (fun H_41 locs_41 hh_41 => ?_)
            clear hh_37
            refine lv_iconst (v := 0) hx hb dX14_keepRow_50 (by decide) ?_
            refine lv_istore_n (lv' := [(3, .int 0), (0, .ref r0), (1, .int v1_6), (2, .int v2_31)]) hx hb dX14_keepRow_51 rfl hl (by decide) rfl (fun ls hl => ?_)
            have L52 : ∀ (N : Nat) (v3_42 : Int32) (H_42 : Heap) (locs_42 : List Loc), jSt (dC, dI) B base G0 G0 EX14_keepRow s.heap 0 0 [(r0, 16, 68, .ref cacheLength_38), (r0, 16, 66, .int cached_5)] [] [] H_42 locs_42 → (0 ≤ v3_42.toInt ∧ v3_42.toInt ≤ 1600) → (1600 - v3_42.toInt : Int) < N → ∀ ls : Array Slot, lv_has ls 4 [(0, .ref r0), (1, .int v1_6), (2, .int v2_31), (3, .int v3_42)] → W p l e R s m ([.ref r0] : List Value).toArray below meth c H_42 locs_42 0 0 Q (F0 m 52 ls []) := by
              intro N
              induction N with
              | zero => intro v3_42 H_42 locs_42 hh_42  hi_42 hm; exact absurd hm (by omega)
              | succ N L52 =>
                intro v3_42 H_42 locs_42 hh_42  hi_42 hm_42 ls hl
                obtain ⟨hi_42_0, hi_42_1⟩ := hi_42
                refine lv_iload_n hx hb dX14_keepRow_52 rfl (lv_at hl 3 rfl) ?_
                refine lv_aload_n hx hb dX14_keepRow_53 rfl (lv_at hl 0 rfl) ?_
                refine j7_read hx hb hown hK (C := RX14) (T := TX14) (N := 74) rfl hly_16_68 hlk_145 (hh_42.at 0 rfl) dX14_keepRow_54 ?_
                refine lv_iload_n hx hb dX14_keepRow_57 rfl (lv_at hl 2 rfl) ?_
                refine j7_iald hx hb hK hh_42 hB205 1 rfl (by decide) hg_cacheLength_38 (x := v2_31.toInt) (rfl) (by omega) dX14_keepRow_58 (fun z_43 (hz_43 : 0 ≤ z_43.toInt ∧ z_43.toInt ≤ 1600) => ?_)
                refine lv_icmp_ge (tgt := 96) hx hb dX14_keepRow_59 (by decide) (fun c_44 => ?_) (fun c_44 => ?_)
                · skip
                  have c_44' : v3_42.toInt ≥ z_43.toInt := jb_ge (rfl) (rfl) c_44
                  obtain ⟨z_45, ez_45⟩ : ∃ y : Int32, y = v2_31 + 1 := ⟨_, rfl⟩
                  refine lv_iinc (v := z_45) (lv' := [(2, .int z_45), (0, .ref r0), (1, .int v1_6), (3, .int v3_42)]) hx hb dX14_keepRow_96 hl (k := 2) rfl (by rw [ez_45]; rfl) (by decide) rfl (fun ls hl => ?_)
                  have hz_45 : z_45.toInt = v2_31.toInt + 1 := by rw [ez_45]; exact jb_iadd2 (rfl) (by decide) (by omega)
                  refine lv_goto (tgt := 26) hx hb dX14_keepRow_99 (by decide) ?_
                  exact L26 z_45 _ _ (hh_42.sub (L1 := [(r0, 16, 66, .int cached_5)]) [1] rfl (M1 := []) [] rfl (I1 := []) [] rfl) (by first | omega | (refine ⟨?_, ?_⟩ <;> (first | omega | rfl | assumption | decide | exact Or.inl rfl | exact Or.inr rfl | (simp only; omega)))) (by omega) _ (lv_sub hl [1, 2, 0] rfl)
                · skip
                  have c_44' : v3_42.toInt < z_43.toInt := jb_ge_n (rfl) (rfl) c_44
                  refine lv_aload_n hx hb dX14_keepRow_62 rfl (lv_at hl 0 rfl) ?_
                  obtain ⟨v_46, hv_46, hh_47⟩ := hh_42.pin (C := RX14) (T := TX14) (N := 74) hB16 rfl (by decide) hg_r0 (i := 67) (by decide) rfl
                  clear hh_42
                  obtain ⟨cacheUnits_48, rfl, hg_cacheUnits_48⟩ := hv_46
                  refine j7_read hx hb hown hK (C := RX14) (T := TX14) (N := 74) rfl hly_16_67 hlk_142 (hh_47.at 0 rfl) dX14_keepRow_63 ?_
                  refine lv_sipush (v := 1600) hx hb dX14_keepRow_66 (by decide) ?_
                  refine lv_iload_n hx hb dX14_keepRow_69 rfl (lv_at hl 2 rfl) ?_
                  refine lv_imul hx hb dX14_keepRow_70 ?_
                  refine lv_topi (fun z_49 ez_49 => ?_)
                  have hz_49 : z_49.toInt = 1600 * v2_31.toInt := by rw [ez_49]; exact jb_imul2 ((by decide)) (rfl) (by omega)
                  refine lv_iload_n hx hb dX14_keepRow_71 rfl (lv_at hl 3 rfl) ?_
                  refine lv_iadd hx hb dX14_keepRow_72 ?_
                  refine lv_topi (fun z_50 ez_50 => ?_)
                  have hz_50 : z_50.toInt = z_49.toInt + v3_42.toInt := by rw [ez_50]; exact jb_iadd2 (rfl) (rfl) (by omega)
                  refine lv_aload_n hx hb dX14_keepRow_73 rfl (lv_at hl 0 rfl) ?_
                  refine j7_read hx hb hown hK (C := RX14) (T := TX14) (N := 74) rfl hly_16_67 hlk_142 (hh_47.at 0 rfl) dX14_keepRow_74 ?_
                  refine lv_sipush (v := 1600) hx hb dX14_keepRow_77 (by decide) ?_
                  refine lv_iload_n hx hb dX14_keepRow_80 rfl (lv_at hl 2 rfl) ?_
                  refine lv_imul hx hb dX14_keepRow_81 ?_
                  refine lv_topi (fun z_51 ez_51 => ?_)
                  have hz_51 : z_51.toInt = 1600 * v2_31.toInt := by rw [ez_51]; exact jb_imul2 ((by decide)) (rfl) (by omega)
                  refine lv_sipush (v := 1600) hx hb dX14_keepRow_82 (by decide) ?_
                  refine lv_iadd hx hb dX14_keepRow_85 ?_
                  refine lv_topi (fun z_52 ez_52 => ?_)
                  have hz_52 : z_52.toInt = z_51.toInt + 1600 := by rw [ez_52]; exact jb_iadd2 (rfl) ((by decide)) (by omega)
                  refine lv_iload_n hx hb dX14_keepRow_86 rfl (lv_at hl 3 rfl) ?_
                  refine lv_iadd hx hb dX14_keepRow_87 ?_
                  refine lv_topi (fun z_53 ez_53 => ?_)
                  have hz_53 : z_53.toInt = z_52.toInt + v3_42.toInt := by rw [ez_53]; exact jb_iadd2 (rfl) (rfl) (by omega)
                  refine j7_iald hx hb hK hh_47 hB101 1 rfl (by decide) hg_cacheUnits_48 (x := z_53.toInt) (rfl) (by omega) dX14_keepRow_88 (fun z_54 (hz_54 : True) => ?_)
                  refine j7_iast hx hb hK hh_47 hB hB101 1 rfl (by decide) (by decide) rfl rfl rfl hg_cacheUnits_48 (x := z_50.toInt) (rfl) (by omega) (trivial) dX14_keepRow_89 (fun H_55 locs_55 hh_55 => ?_)
                  clear hh_47
                  obtain ⟨z_56, ez_56⟩ : ∃ y : Int32, y = v3_42 + 1 := ⟨_, rfl⟩
                  refine lv_iinc (v := z_56) (lv' := [(3, .int z_56), (0, .ref r0), (1, .int v1_6), (2, .int v2_31)]) hx hb dX14_keepRow_90 hl (k := 3) rfl (by rw [ez_56]; rfl) (by decide) rfl (fun ls hl => ?_)
                  have hz_56 : z_56.toInt = v3_42.toInt + 1 := by rw [ez_56]; exact jb_iadd2 (rfl) (by decide) (by omega)
                  refine lv_goto (tgt := 52) hx hb dX14_keepRow_93 (by decide) ?_
                  exact L52 z_56 _ _ (hh_55.sub (L1 := [(r0, 16, 68, .ref cacheLength_38), (r0, 16, 66, .int cached_5)]) [1, 2] rfl (M1 := []) [] rfl (I1 := []) [] rfl) (by first | omega | (refine ⟨?_, ?_⟩ <;> (first | omega | rfl | assumption | decide | exact Or.inl rfl | exact Or.inr rfl | (simp only; omega)))) (by omega) _ (lv_sub hl [1, 2, 3, 0] rfl)
            exact L52 (1600 - (0 : Int32).toInt : Int).toNat.succ 0 _ _ hh_41 (by first | omega | (refine ⟨?_, ?_⟩ <;> (first | omega | rfl | assumption | decide | exact Or.inl rfl | exact Or.inr rfl | (simp only; omega)))) (by omega) _ (lv_sub hl [1, 2, 3, 0] rfl)
      exact L26 (((cached_5.toInt - (v1_6 : Int32).toInt).toNat : Int) : Int).toNat.succ v1_6 _ _ hh_6 (by first | omega | (refine ⟨?_, ?_⟩ <;> (first | omega | rfl | assumption | decide | exact Or.inl rfl | exact Or.inr rfl | (simp only; omega)))) (by omega) _ (lv_sub hl [1, 2, 0] rfl)
  refine lv_if_ge (tgt := 20) hx hb dX14_keepRow_6 (by decide) (fun c_57 => ?_) (fun c_57 => ?_)
  · skip
    have c_57' : r_2.toInt ≥ 0 := jb_ge (rfl) ((by decide)) c_57
    first | (have hr_2_2q := hr_2_2.resolve_left (by omega); clear hr_2_2) | (have hr_2_2q := hr_2_2.resolve_right (by omega); clear hr_2_2) | skip
    exact C20 r_2 _ _ hh_1 (by first | omega | (refine ⟨?_, ?_, ?_⟩ <;> (first | omega | rfl | assumption | decide | exact Or.inl rfl | exact Or.inr rfl | (simp only; omega)))) _ (lv_sub hl [1, 0] rfl)
  · skip
    have c_57' : r_2.toInt < 0 := jb_ge_n (rfl) ((by decide)) c_57
    first | (have hr_2_2q := hr_2_2.resolve_left (by omega); clear hr_2_2) | (have hr_2_2q := hr_2_2.resolve_right (by omega); clear hr_2_2) | skip
    refine lv_aload_n hx hb dX14_keepRow_9 rfl (lv_at hl 1 rfl) ?_
    refine j7_read hx hb hown hK (C := RX14) (T := TX14) (N := 74) rfl hly_16_66 hlk_769 (hh_1.at 0 rfl) dX14_keepRow_10 ?_
    refine lv_bipush (v := 24) hx hb dX14_keepRow_13 (by decide) ?_
    refine lv_icmp_ne (tgt := 20) hx hb dX14_keepRow_15 (by decide) (fun c_58 => ?_) (fun c_58 => ?_)
    · skip
      have c_58' : cached_5.toInt ≠ 24 := jb_ne (rfl) ((by decide)) c_58
      exact C20 r_2 _ _ hh_1 (by first | omega | (refine ⟨?_, ?_, ?_⟩ <;> (first | omega | rfl | assumption | decide | exact Or.inl rfl | exact Or.inr rfl | (simp only; omega)))) _ (lv_sub hl [1, 0] rfl)
    · skip
      have c_58' : cached_5.toInt = 24 := jb_ne_n (rfl) ((by decide)) c_58
      refine lv_iconst (v := 0) hx hb dX14_keepRow_18 (by decide) ?_
      refine lv_istore_n (lv' := [(1, .int 0), (0, .ref r0)]) hx hb dX14_keepRow_19 rfl hl (by decide) rfl (fun ls hl => ?_)
      exact C20 0 _ _ hh_1 (by first | omega | (refine ⟨?_, ?_, ?_⟩ <;> (first | omega | rfl | assumption | decide | exact Or.inl rfl | exact Or.inr rfl | (simp only; omega)))) _ (lv_sub hl [1, 0] rfl)
