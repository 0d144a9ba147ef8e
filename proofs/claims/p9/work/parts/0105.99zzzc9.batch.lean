section
theorem dX11_batch_0 : decode cX11_batch 0 = .ok (.iload_n 1, 1) := by decide +kernel
theorem dX11_batch_1 : decode cX11_batch 1 = .ok (.ifCond .lt 14, 3) := by decide +kernel
theorem dX11_batch_4 : decode cX11_batch 4 = .ok (.iload_n 1, 1) := by decide +kernel
theorem dX11_batch_5 : decode cX11_batch 5 = .ok (.aload_n 0, 1) := by decide +kernel
theorem dX11_batch_6 : decode cX11_batch 6 = .ok (.getfield 14, 3) := by decide +kernel
theorem dX11_batch_9 : decode cX11_batch 9 = .ok (.getfield 92, 3) := by decide +kernel
theorem dX11_batch_12 : decode cX11_batch 12 = .ok (.if_icmp .le 5, 3) := by decide +kernel
theorem dX11_batch_15 : decode cX11_batch 15 = .ok (.iconst (-1), 1) := by decide +kernel
theorem dX11_batch_16 : decode cX11_batch 16 = .ok (.ireturn, 1) := by decide +kernel
theorem dX11_batch_17 : decode cX11_batch 17 = .ok (.aload_n 0, 1) := by decide +kernel
theorem dX11_batch_18 : decode cX11_batch 18 = .ok (.getfield 14, 3) := by decide +kernel
theorem dX11_batch_21 : decode cX11_batch 21 = .ok (.iconst 0, 1) := by decide +kernel
theorem dX11_batch_22 : decode cX11_batch 22 = .ok (.putfield 92, 3) := by decide +kernel
theorem dX11_batch_25 : decode cX11_batch 25 = .ok (.aload_n 0, 1) := by decide +kernel
theorem dX11_batch_26 : decode cX11_batch 26 = .ok (.getfield 82, 3) := by decide +kernel
theorem dX11_batch_29 : decode cX11_batch 29 = .ok (.astore_n 2, 1) := by decide +kernel
theorem dX11_batch_30 : decode cX11_batch 30 = .ok (.aload_n 2, 1) := by decide +kernel
theorem dX11_batch_31 : decode cX11_batch 31 = .ok (.aload_n 0, 1) := by decide +kernel
theorem dX11_batch_32 : decode cX11_batch 32 = .ok (.getfield 14, 3) := by decide +kernel
theorem dX11_batch_35 : decode cX11_batch 35 = .ok (.getfield 98, 3) := by decide +kernel
theorem dX11_batch_38 : decode cX11_batch 38 = .ok (.iload_n 1, 1) := by decide +kernel
theorem dX11_batch_39 : decode cX11_batch 39 = .ok (.invokevirtual 196, 3) := by decide +kernel
theorem dX11_batch_42 : decode cX11_batch 42 = .ok (.ifCond .ne 6, 3) := by decide +kernel
theorem dX11_batch_45 : decode cX11_batch 45 = .ok (.bipush (-2), 2) := by decide +kernel
theorem dX11_batch_47 : decode cX11_batch 47 = .ok (.ireturn, 1) := by decide +kernel
theorem dX11_batch_48 : decode cX11_batch 48 = .ok (.aload_n 0, 1) := by decide +kernel
theorem dX11_batch_49 : decode cX11_batch 49 = .ok (.aload_n 0, 1) := by decide +kernel
theorem dX11_batch_50 : decode cX11_batch 50 = .ok (.getfield 200, 3) := by decide +kernel
theorem dX11_batch_53 : decode cX11_batch 53 = .ok (.ifnonnull 13, 3) := by decide +kernel
theorem dX11_batch_56 : decode cX11_batch 56 = .ok (.new 71, 3) := by decide +kernel
theorem dX11_batch_59 : decode cX11_batch 59 = .ok (.dup, 1) := by decide +kernel
theorem dX11_batch_60 : decode cX11_batch 60 = .ok (.invokespecial 81, 3) := by decide +kernel
theorem dX11_batch_63 : decode cX11_batch 63 = .ok (.goto 7, 3) := by decide +kernel
theorem dX11_batch_66 : decode cX11_batch 66 = .ok (.aload_n 0, 1) := by decide +kernel
theorem dX11_batch_67 : decode cX11_batch 67 = .ok (.getfield 200, 3) := by decide +kernel
theorem dX11_batch_70 : decode cX11_batch 70 = .ok (.putfield 82, 3) := by decide +kernel
theorem dX11_batch_73 : decode cX11_batch 73 = .ok (.aload_n 0, 1) := by decide +kernel
theorem dX11_batch_74 : decode cX11_batch 74 = .ok (.aload_n 2, 1) := by decide +kernel
theorem dX11_batch_75 : decode cX11_batch 75 = .ok (.putfield 200, 3) := by decide +kernel
theorem dX11_batch_78 : decode cX11_batch 78 = .ok (.aload_n 0, 1) := by decide +kernel
theorem dX11_batch_79 : decode cX11_batch 79 = .ok (.bipush (-2), 2) := by decide +kernel
theorem dX11_batch_81 : decode cX11_batch 81 = .ok (.putfield 89, 3) := by decide +kernel
theorem dX11_batch_84 : decode cX11_batch 84 = .ok (.aload_n 2, 1) := by decide +kernel
theorem dX11_batch_85 : decode cX11_batch 85 = .ok (.aload_n 0, 1) := by decide +kernel
theorem dX11_batch_86 : decode cX11_batch 86 = .ok (.getfield 41, 3) := by decide +kernel
theorem dX11_batch_89 : decode cX11_batch 89 = .ok (.getfield 203, 3) := by decide +kernel
theorem dX11_batch_92 : decode cX11_batch 92 = .ok (.invokevirtual 207, 3) := by decide +kernel
theorem dX11_batch_95 : decode cX11_batch 95 = .ok (.iconst 0, 1) := by decide +kernel
theorem dX11_batch_96 : decode cX11_batch 96 = .ok (.istore_n 3, 1) := by decide +kernel
theorem dX11_batch_97 : decode cX11_batch 97 = .ok (.iload_n 3, 1) := by decide +kernel
theorem dX11_batch_98 : decode cX11_batch 98 = .ok (.aload_n 2, 1) := by decide +kernel
theorem dX11_batch_99 : decode cX11_batch 99 = .ok (.getfield 168, 3) := by decide +kernel
theorem dX11_batch_102 : decode cX11_batch 102 = .ok (.if_icmp .ge 63, 3) := by decide +kernel
theorem dX11_batch_105 : decode cX11_batch 105 = .ok (.aload_n 2, 1) := by decide +kernel
theorem dX11_batch_106 : decode cX11_batch 106 = .ok (.getfield 174, 3) := by decide +kernel
theorem dX11_batch_109 : decode cX11_batch 109 = .ok (.aload_n 2, 1) := by decide +kernel
theorem dX11_batch_110 : decode cX11_batch 110 = .ok (.getfield 182, 3) := by decide +kernel
theorem dX11_batch_113 : decode cX11_batch 113 = .ok (.iload_n 3, 1) := by decide +kernel
theorem dX11_batch_114 : decode cX11_batch 114 = .ok (.iaload, 1) := by decide +kernel
theorem dX11_batch_115 : decode cX11_batch 115 = .ok (.aload_n 2, 1) := by decide +kernel
theorem dX11_batch_116 : decode cX11_batch 116 = .ok (.getfield 185, 3) := by decide +kernel
theorem dX11_batch_119 : decode cX11_batch 119 = .ok (.iload_n 3, 1) := by decide +kernel
theorem dX11_batch_120 : decode cX11_batch 120 = .ok (.iaload, 1) := by decide +kernel
theorem dX11_batch_121 : decode cX11_batch 121 = .ok (.invokestatic 211, 3) := by decide +kernel
theorem dX11_batch_124 : decode cX11_batch 124 = .ok (.astore 4, 2) := by decide +kernel
theorem dX11_batch_126 : decode cX11_batch 126 = .ok (.aload_n 2, 1) := by decide +kernel
theorem dX11_batch_127 : decode cX11_batch 127 = .ok (.getfield 178, 3) := by decide +kernel
theorem dX11_batch_130 : decode cX11_batch 130 = .ok (.iload_n 3, 1) := by decide +kernel
theorem dX11_batch_131 : decode cX11_batch 131 = .ok (.aload_n 0, 1) := by decide +kernel
theorem dX11_batch_132 : decode cX11_batch 132 = .ok (.getfield 41, 3) := by decide +kernel
theorem dX11_batch_135 : decode cX11_batch 135 = .ok (.aload_n 2, 1) := by decide +kernel
theorem dX11_batch_136 : decode cX11_batch 136 = .ok (.iload_n 3, 1) := by decide +kernel
theorem dX11_batch_137 : decode cX11_batch 137 = .ok (.aload_n 0, 1) := by decide +kernel
theorem dX11_batch_138 : decode cX11_batch 138 = .ok (.getfield 41, 3) := by decide +kernel
theorem dX11_batch_141 : decode cX11_batch 141 = .ok (.getfield 217, 3) := by decide +kernel
theorem dX11_batch_144 : decode cX11_batch 144 = .ok (.invokevirtual 221, 3) := by decide +kernel
theorem dX11_batch_147 : decode cX11_batch 147 = .ok (.aload 4, 2) := by decide +kernel
theorem dX11_batch_149 : decode cX11_batch 149 = .ok (.aload_n 2, 1) := by decide +kernel
theorem dX11_batch_150 : decode cX11_batch 150 = .ok (.getfield 225, 3) := by decide +kernel
theorem dX11_batch_153 : decode cX11_batch 153 = .ok (.iload_n 3, 1) := by decide +kernel
theorem dX11_batch_154 : decode cX11_batch 154 = .ok (.iaload, 1) := by decide +kernel
theorem dX11_batch_155 : decode cX11_batch 155 = .ok (.invokevirtual 228, 3) := by decide +kernel
theorem dX11_batch_158 : decode cX11_batch 158 = .ok (.aastore, 1) := by decide +kernel
theorem dX11_batch_159 : decode cX11_batch 159 = .ok (.iinc 3 1, 3) := by decide +kernel
theorem dX11_batch_162 : decode cX11_batch 162 = .ok (.goto (-65), 3) := by decide +kernel
theorem dX11_batch_165 : decode cX11_batch 165 = .ok (.aload_n 2, 1) := by decide +kernel
theorem dX11_batch_166 : decode cX11_batch 166 = .ok (.getfield 168, 3) := by decide +kernel
theorem dX11_batch_169 : decode cX11_batch 169 = .ok (.ireturn, 1) := by decide +kernel
def EX1_decodeU : List (Nat × Nat) := [(3, 3), (173, 0)]
def EX11_batchU : List (Nat × Nat) := [(2, 1), (3, 3), (3, 4), (7, 5), (7, 10), (8, 3), (11, 2), (11, 3), (11, 4), (11, 5), (11, 6), (11, 7), (11, 8), (12, 3), (12, 4), (12, 5), (12, 7), (12, 8), (12, 10), (13, 15), (13, 16), (13, 18), (101, 0), (102, 0), (132, 0), (133, 0), (171, 0), (172, 0), (173, 0), (210, 0), (211, 0), (280, 0), (290, 0), (291, 0), (292, 0), (293, 0)]
set_option maxHeartbeats 4000000 in
set_option maxRecDepth 20000 in
theorem uX1_decodeU (l : Launch) (dC : Nat → ClassId) (dI : Nat → Nat → Nat) (ca : Nat → ClassId) (base : Nat) (B : jF) (hB : jBok B) (hAp : jAp (dC, dI)) (hB3 : ∀ n G a H, B 3 n G a H ↔ jOb (dC, dI) 3 17 (F3 n G) a H) (hB100 : ∀ n G a H, B 100 n G a H ↔ jAr (dC, dI) (ca 0) (fun j z => True) n a H) (hB173 : ∀ n G a H, B 173 n G a H ↔ jAr (dC, dI) (ca 1) (fun j z => True) n a H) (hB197 : ∀ n G a H, B 197 n G a H ↔ jAr (dC, dI) (ca 0) (fun j z => jBf j z) n a H) (G0 : jT) (H0 : Heap) (r0 : Nat) (r1 : Nat) (a2 : Int32) (n0 : Nat) (tx_ : Nat) (tq : jDtl) (fb : Nat → Int32) (ft : Nat → Int32) : Met l yX1_decode (jw yX1_decode cX1_decode 7 (some .boolean)) ({ frames := 1, cells := 0, slots := 0, locals := 27 }) (va_Pc [.ref r0, .ref r1, .int a2] (fun U => U.heap = H0 ∧ jX B base G0 [] H0 ∧ jG dC dI ca base U ∧ G0 r0 = some (3, n0) ∧ G0 r1 = some (197, 4000) ∧ G0 tx_ = some (173, 1500) ∧ jP (dC, dI) G0 H0 [(r0, 3, 2, .ref tx_)] ∧ jMc (dC, dI) G0 H0 [(r1, 197, 4000, ca 0, fb), (tx_, 173, 1500, ca 1, ft)] ∧ jIs (dC, dI) G0 H0 [(jFcd, jCD dC dI ca G0 (some r0) tq)] ∧ 0 ≤ a2.toInt ∧ a2.toInt ≤ 4000)) (va_Qi (S := Int32 × (Nat → Int32)) (fun r u => (r = 0 ∨ r = 1) ∧ (0 ≤ u.1.toInt ∧ u.1.toInt ≤ 1500 ∧ u.1.toInt ≤ a2.toInt + 3 ∧ jVdc (jB8 fb) a2.toInt r.toInt u.1.toInt u.2)) (fun u t => (jRt (dC, dI) B base G0 EX1_decodeU H0 [(r0, 3, 3, .int u.1)] t.heap ∧ jMc (dC, dI) G0 t.heap [(tx_, 173, 1500, ca 1, u.2)]) ∧ jIs (dC, dI) G0 t.heap [(jFcd, jCD dC dI ca G0 (some r0) tq)]) (jA base)) 0 0 (jA base) := by
  refine Met.ofW (cc := cX1_decode) (maxL := 7) (ret := (some .boolean)) (by decide) rfl ?_
  intro p e s m args below meth c s₁ Bd hml hv
  obtain ⟨rfl, hH0, hX, hG, hg_r0, hg_r1, hg_tx_, hP0, hM0, hI0, hp0, hp1⟩ := hv
  have hK := hG.1
  have hx := Bd.exec
  have hb := Bd.bytes
  have hr := Bd.returns
  have hts := atoms_spec (ws := (jw yX1_decode cX1_decode 7 (some .boolean))) Bd.pre
  have htw : ∀ w ∈ jWl, w.before _ s = true := fun w h => hts w (List.mem_cons_of_mem _ h)
  have hown : s.vm.findClass RX1 = some m.cls := findClass_of_methodNamed Bd.named
  have hlocks := Bd.notSynchronized
  obtain ⟨Q, hQ⟩ : ∃ Q, Q = MQ below (va_Qi (S := Int32 × (Nat → Int32)) (fun r u => (r = 0 ∨ r = 1) ∧ (0 ≤ u.1.toInt ∧ u.1.toInt ≤ 1500 ∧ u.1.toInt ≤ a2.toInt + 3 ∧ jVdc (jB8 fb) a2.toInt r.toInt u.1.toInt u.2)) (fun u t => (jRt (dC, dI) B base G0 EX1_decodeU H0 [(r0, 3, 3, .int u.1)] t.heap ∧ jMc (dC, dI) G0 t.heap [(tx_, 173, 1500, ca 1, u.2)]) ∧ jIs (dC, dI) G0 t.heap [(jFcd, jCD dC dI ca G0 (some r0) tq)]) (jA base)) ([.ref r0, .ref r1, .int a2] : List Value).toArray s 0 0 (jA base) := ⟨_, rfl⟩
  rw [← hQ]
  have hl := lv_entry ([.ref r0, .ref r1, .int a2]) (n := 7) (Nat.le_of_ble_eq_true rfl)
  rw [lg_entry_eq]
  generalize (lg_sl ([.ref r0, .ref r1, .int a2]) ++ List.replicate (7 - (lg_sl ([.ref r0, .ref r1, .int a2])).length) Slot.unset).toArray = ls at hl ⊢
  have hl : lv_has ls 7 [(0, .ref r0), (1, .ref r1), (2, .int a2)] := hl
  generalize hR : (headSpec (jw yX1_decode cX1_decode 7 (some .boolean)) ({ frames := 1, cells := 0, slots := 0, locals := 27 })).room = R
  subst hH0
  have hh : jSt (dC, dI) B base G0 G0 EX1_decodeU s.heap 0 0 [(r0, 3, 2, .ref tx_)] [(r1, 197, 4000, ca 0, fb), (tx_, 173, 1500, ca 1, ft)] [(jFcd, jCD dC dI ca G0 (some r0) tq)] s.heap [] := jSt.start hX hP0 hM0 hI0
  clear hX hP0
  have hk0 : (0 : Int32).toInt = 0 := by decide
  have hk1 : (1 : Int32).toInt = 1 := by decide
  have hk2 : (2 : Int32).toInt = 2 := by decide
  have hk10 : (10 : Int32).toInt = 10 := by decide
  have hk1023 : (1023 : Int32).toInt = 1023 := by decide
  have hk1500 : (1500 : Int32).toInt = 1500 := by decide
  have hk55296 : (55296 : Int32).toInt = 55296 := by decide
  have hk56320 : (56320 : Int32).toInt = 56320 := by decide
  have hk65533 : (65533 : Int32).toInt = 65533 := by decide
  have hk65536 : (65536 : Int32).toInt = 65536 := by decide
  have hly_3_2 := htw (u_lay RX1 TX1 2) (jWc_wsX10 _ (u_in_lay (by decide)))
  have hly_3_3 := htw (u_lay RX1 TX1 3) (jWc_wsX10 _ (u_in_lay (by decide)))
  have hlk_42 := (htw (.fieldLink RX1 42 "ProofServer$Document" "length" "I") (jWr_29 _ (List.mem_of_getElem? (i := 5) rfl)))
  have hcs_65 := htw (.constant RX1 65 65536) (jWr_93 _ (List.mem_of_getElem? (i := 20) rfl))
  have hlk_15 := (htw (.fieldLink RX1 15 "ProofServer$Document" "text" "[I") (jWr_10 _ (List.mem_of_getElem? (i := 6) rfl)))
  have hcs_66 := htw (.constant RX1 66 55296) (jWr_93 _ (List.mem_of_getElem? (i := 21) rfl))
  have hcs_67 := htw (.constant RX1 67 56320) (jWr_93 _ (List.mem_of_getElem? (i := 22) rfl))
  have hcs_68 := htw (.constant RX1 68 65533) (jWr_93 _ (List.mem_of_getElem? (i := 23) rfl))
  have hrg_a2 := jb_rng a2
  refine lv_aload_n hx hb dX1_decode_0 rfl (lv_at hl 0 rfl) ?_
  refine lv_iconst (v := 0) hx hb dX1_decode_1 (by decide) ?_
  have hd_2 := hh.iv 0 rfl
  have hd_22 := hh.at 0 rfl
  have hh_3 := hh.sub (L1 := [(r0, 3, 2, .ref tx_)]) [0] rfl (M1 := [(r1, 197, 4000, ca 0, fb), (tx_, 173, 1500, ca 1, ft)]) [0, 1] rfl (I1 := []) [] rfl
  clear hh
  refine j7_putX hx hb hown hK hh_3 hB hAp hB3 (C := RX1) (T := TX1) (N := 17) rfl (by decide) hg_r0 (i := 3) (by decide) hly_3_3 rfl hlk_42 rfl (ty := .int) (v := .int 0) (by decide +kernel) rfl rfl (⟨_, rfl, by omega, by omega⟩) rfl (L1 := [(r0, 3, 2, .ref tx_)]) [0] rfl rfl rfl dX1_decode_2 (fun H_1 locs_1 hr_1 hh_1 => ?_)
  clear hh_3
  have hd_2n := jCD.fld hd_2 hg_r0 hr_1 hd_22 (hh_1.at 1 rfl)
  have hh_4 := hh_1.addI (jCD.ie hd_2n)
  clear hh_1
  clear hd_2 hd_2n hd_22 hr_1
  refine lv_iconst (v := 0) hx hb dX1_decode_5 (by decide) ?_
  refine lv_istore_n (lv' := [(3, .int 0), (0, .ref r0), (1, .ref r1), (2, .int a2)]) hx hb dX1_decode_6 rfl hl (by decide) rfl (fun ls hl => ?_)
  refine lv_iconst (v := 0) hx hb dX1_decode_7 (by decide) ?_
  refine lv_istore (lv' := [(4, .int 0), (3, .int 0), (0, .ref r0), (1, .ref r1), (2, .int a2)]) hx hb dX1_decode_8 hl (by decide) rfl (fun ls hl => ?_)
  have L10 : ∀ (N : Nat) (v3_5 : Int32) (v4_5 : Int32) (wl_5 : Int32) (ft_5 : Nat → Int32) (H_5 : Heap) (locs_5 : List Loc), jSt (dC, dI) B base G0 G0 EX1_decodeU s.heap 0 0 [(r0, 3, 3, .int wl_5), (r0, 3, 2, .ref tx_)] [(tx_, 173, 1500, ca 1, ft_5), (r1, 197, 4000, ca 0, fb)] [(jFcd, jCD dC dI ca G0 (some r0) tq)] H_5 locs_5 → (0 ≤ v4_5.toInt ∧ v4_5.toInt ≤ v3_5.toInt ∧ v3_5.toInt ≤ a2.toInt + 3 ∧ 0 ≤ wl_5.toInt ∧ wl_5.toInt ≤ 1500 ∧ wl_5.toInt ≤ v3_5.toInt ∧ jDe (jB8 fb) a2.toInt ft_5 wl_5.toInt v3_5.toInt) → (((a2.toInt - v4_5.toInt).toNat : Int) : Int) < N → ∀ ls : Array Slot, lv_has ls 7 [(0, .ref r0), (1, .ref r1), (2, .int a2), (3, .int v3_5), (4, .int v4_5)] → W p l e R s m ([.ref r0, .ref r1, .int a2] : List Value).toArray below meth c H_5 locs_5 0 0 Q (F0 m 10 ls []) := by
    intro N
    induction N with
    | zero => intro v3_5 v4_5 wl_5 ft_5 H_5 locs_5 hh_5  hi_5 hm; exact absurd hm (by omega)
    | succ N L10 =>
      intro v3_5 v4_5 wl_5 ft_5 H_5 locs_5 hh_5  hi_5 hm_5 ls hl
      obtain ⟨hi_5_0, hi_5_1, hi_5_2, hi_5_3, hi_5_4, hi_5_5, hi_5_6⟩ := hi_5
      refine lv_iload hx hb dX1_decode_10 (lv_at hl 4 rfl) ?_
      refine lv_iload_n hx hb dX1_decode_12 rfl (lv_at hl 2 rfl) ?_
      refine lv_icmp_ge (tgt := 165) hx hb dX1_decode_13 (by decide) (fun c_6 => ?_) (fun c_6 => ?_)
      · skip
        have c_6' : v4_5.toInt ≥ a2.toInt := jb_ge (rfl) (rfl) c_6
        refine lv_iconst (v := 1) hx hb dX1_decode_165 (by decide) ?_
        rw [hQ]
        exact W.zret (v := 1) hx hb hr (jb_nz (Or.inr rfl)) (fun t ht hW => ⟨⟨1, (wl_5, ft_5), rfl, ⟨(Or.inr rfl), by (try dsimp only); refine ⟨by omega, by omega, by omega, ?_⟩; exact Or.inr ⟨by omega, hi_5_6.done (by omega)⟩⟩, ⟨⟨hh_5.rt (M1 := [(r0, 3, 3, .int wl_5)]) [0] rfl ht, by rw [ht]; exact hh_5.2.2.2.2.2.2.2.1.sub [0] rfl⟩, by rw [ht]; exact hh_5.2.2.2.2.2.2.2.2.sub (L1 := [(jFcd, jCD dC dI ca G0 (some r0) tq)]) [0] rfl⟩⟩, by rw [ht]; try exact hh_5.1.1, fun q h9 hq => by rw [ht]; try exact hh_5.1.2.1 q h9 hq⟩) hh_5.1.2.2 dX1_decode_166
      · skip
        have c_6' : v4_5.toInt < a2.toInt := jb_ge_n (rfl) (rfl) c_6
        refine lv_iload_n hx hb dX1_decode_16 rfl (lv_at hl 3 rfl) ?_
        refine lv_iload_n hx hb dX1_decode_17 rfl (lv_at hl 2 rfl) ?_
        refine lv_icmp_ge (tgt := 165) hx hb dX1_decode_18 (by decide) (fun c_7 => ?_) (fun c_7 => ?_)
        · skip
          have c_7' : v3_5.toInt ≥ a2.toInt := jb_ge (rfl) (rfl) c_7
          refine lv_iconst (v := 1) hx hb dX1_decode_165 (by decide) ?_
          rw [hQ]
          exact W.zret (v := 1) hx hb hr (jb_nz (Or.inr rfl)) (fun t ht hW => ⟨⟨1, (wl_5, ft_5), rfl, ⟨(Or.inr rfl), by (try dsimp only); refine ⟨by omega, by omega, by omega, ?_⟩; exact Or.inr ⟨by omega, hi_5_6.done (by omega)⟩⟩, ⟨⟨hh_5.rt (M1 := [(r0, 3, 3, .int wl_5)]) [0] rfl ht, by rw [ht]; exact hh_5.2.2.2.2.2.2.2.1.sub [0] rfl⟩, by rw [ht]; exact hh_5.2.2.2.2.2.2.2.2.sub (L1 := [(jFcd, jCD dC dI ca G0 (some r0) tq)]) [0] rfl⟩⟩, by rw [ht]; try exact hh_5.1.1, fun q h9 hq => by rw [ht]; try exact hh_5.1.2.1 q h9 hq⟩) hh_5.1.2.2 dX1_decode_166
        · skip
          have c_7' : v3_5.toInt < a2.toInt := jb_ge_n (rfl) (rfl) c_7
          refine lv_aload_n hx hb dX1_decode_21 rfl (lv_at hl 1 rfl) ?_
          refine lv_iload_n hx hb dX1_decode_22 rfl (lv_at hl 3 rfl) ?_
          refine lv_iload_n hx hb dX1_decode_23 rfl (lv_at hl 2 rfl) ?_
          refine va_calli (A0 := jA base) (H0 := s.heap) (va_runS (As := [.ref r1, .int v3_5, .int a2]) (rest := []) ⟨hx, hb, hml, hown, hts⟩ (uX0_decodedP l dC dI ca base B hB hAp hB197 G0 H_5 r1 v3_5 a2 fb) (va_cwS 3 hts (jgS (jWr_94 _ (List.mem_of_getElem? (i := 0) rfl)) (jWr_20 _ (List.mem_of_getElem? (i := 13) rfl)) (jWr_1 _ (List.mem_of_getElem? (i := 14) rfl)) (jWr_20 _ (List.mem_of_getElem? (i := 14) rfl))) rfl rfl rfl (by decide +kernel) ⟨by rw [← hR]; exact Nat.le_of_ble_eq_true rfl, by rw [← hR]; exact Nat.le_of_ble_eq_true rfl⟩) ⟨fun a U g mk q => by obtain ⟨q0, q1, q2, qK, q10, q11, q12, q13⟩ := q; exact ⟨q0, q1, q2, jG.calling g mk a qK, q10, q11, q12, q13⟩, fun U hU hW => ⟨rfl, hU, hh_5.2.1, hG.step hW hU hh_5.1, hg_r1, jP.nil, (hh_5.2.2.2.2.2.2.2.1.sub (L1 := [(r1, 197, 4000, ca 0, fb)]) [1] rfl), by first | omega | (refine ⟨?_, ?_, ?_⟩ <;> (first | omega | rfl | assumption | decide | exact Or.inl rfl | exact Or.inr rfl | (simp only; omega)))⟩⟩ rfl rfl hl.1 rfl (lv_room (Nat.le_of_ble_eq_true rfl)) dX1_decode_24 ⟨Nat.zero_le _, Nat.zero_le _⟩) hh_5.1 (fun q _ h => h) (fun q h => h) (fun r_9 u_8 t_8 H_8 locs_8 ht_8 hvm_8 hr_9 hb_8 hz_8 hk_8 hS_8 => ?_)
          rw [ht_8] at hb_8
          obtain ⟨hb_81, hb_82, hb_83, hb_84, hb_85⟩ := hb_8
          have hh_8 : jSt (dC, dI) B base G0 G0 EX1_decodeU s.heap 0 0 [(r0, 3, 3, .int wl_5), (r0, 3, 2, .ref tx_)] [(tx_, 173, 1500, ca 1, ft_5), (r1, 197, 4000, ca 0, fb)] [(jFcd, jCD dC dI ca G0 (some r0) tq)] H_8 locs_8 := ((hh_5.call hb_81 hb_82 hb_83 hb_84 hS_8 rfl (L1 := [(r0, 3, 3, .int wl_5), (r0, 3, 2, .ref tx_)]) [0, 1] rfl rfl (M1 := [(tx_, 173, 1500, ca 1, ft_5), (r1, 197, 4000, ca 0, fb)]) [0, 1] rfl rfl (I1 := [(jFcd, jCD dC dI ca G0 (some r0) tq)]) [0] rfl rfl).more hb_85)
          clear hh_5 ht_8 hvm_8 hz_8 hk_8 hS_8 hb_81 hb_82 hb_83 hb_84 hb_85
          obtain ⟨hr_9_0, hr_9_1, hr_9_2⟩ := hr_9
          refine lv_istore (lv' := [(5, .int r_9), (0, .ref r0), (1, .ref r1), (2, .int a2), (3, .int v3_5), (4, .int v4_5)]) hx hb dX1_decode_27 hl (by decide) rfl (fun ls hl => ?_)
          refine lv_iload_n hx hb dX1_decode_29 rfl (lv_at hl 4 rfl) ?_
          refine lv_iload hx hb dX1_decode_30 (lv_at hl 0 rfl) ?_
          refine lv_if_ge (tgt := 39) hx hb dX1_decode_32 (by decide) (fun c_10 => ?_) (fun c_10 => ?_)
          · skip
            have c_10' : r_9.toInt ≥ 0 := jb_ge (rfl) ((by decide)) c_10
            refine lv_iload hx hb dX1_decode_39 (lv_at hl 0 rfl) ?_
            refine va_calli (A0 := jA base) (H0 := s.heap) (va_runS (As := [.int r_9]) (rest := [.int v3_5]) ⟨hx, hb, hml, hown, hts⟩ (uX0_decodedSizeP l dC dI ca base B hB hAp G0 H_8 r_9) (va_cwS 1 hts (jgS (jWr_94 _ (List.mem_of_getElem? (i := 1) rfl)) (jWr_22 _ (List.mem_of_getElem? (i := 1) rfl)) (jWr_1 _ (List.mem_of_getElem? (i := 14) rfl)) (jWr_22 _ (List.mem_of_getElem? (i := 2) rfl))) rfl rfl rfl (by decide +kernel) ⟨by rw [← hR]; exact Nat.le_of_ble_eq_true rfl, by rw [← hR]; exact Nat.le_of_ble_eq_true rfl⟩) ⟨fun a U g mk q => by obtain ⟨q0, q1, q2, qK, q10, q11⟩ := q; exact ⟨q0, q1, q2, jG.calling g mk a qK, q10, q11⟩, fun U hU hW => ⟨rfl, hU, hh_8.2.1, hG.step hW hU hh_8.1, jP.nil, trivial⟩⟩ rfl rfl hl.1 rfl (lv_room (Nat.le_of_ble_eq_true rfl)) dX1_decode_41 ⟨Nat.zero_le _, Nat.zero_le _⟩) hh_8.1 (fun q _ h => h) (fun q h => h) (fun r_12 u_11 t_11 H_11 locs_11 ht_11 hvm_11 hr_12 hb_11 hz_11 hk_11 hS_11 => ?_)
            rw [ht_11] at hb_11
            obtain ⟨hb_111, hb_112, hb_113, hb_114, hb_115⟩ := hb_11
            have hh_11 : jSt (dC, dI) B base G0 G0 EX1_decodeU s.heap 0 0 [(r0, 3, 3, .int wl_5), (r0, 3, 2, .ref tx_)] [(tx_, 173, 1500, ca 1, ft_5), (r1, 197, 4000, ca 0, fb)] [(jFcd, jCD dC dI ca G0 (some r0) tq)] H_11 locs_11 := ((hh_8.call hb_111 hb_112 hb_113 hb_114 hS_11 rfl (L1 := [(r0, 3, 3, .int wl_5), (r0, 3, 2, .ref tx_)]) [0, 1] rfl rfl (M1 := [(tx_, 173, 1500, ca 1, ft_5), (r1, 197, 4000, ca 0, fb)]) [0, 1] rfl rfl (I1 := [(jFcd, jCD dC dI ca G0 (some r0) tq)]) [0] rfl rfl).more hb_115)
            clear hh_8 ht_11 hvm_11 hz_11 hk_11 hS_11 hb_111 hb_112 hb_113 hb_114 hb_115
            obtain ⟨hr_12_0, hr_12_1, hr_12_2, hr_12_3⟩ := hr_12
            refine lv_iadd hx hb dX1_decode_44 ?_
            refine lv_topi (fun z_13 ez_13 => ?_)
            have hz_13 : z_13.toInt = v3_5.toInt + r_12.toInt := by rw [ez_13]; exact jb_iadd2 (rfl) (rfl) (by omega)
            refine lv_istore_n (lv' := [(3, .int z_13), (5, .int r_9), (0, .ref r0), (1, .ref r1), (2, .int a2), (4, .int v4_5)]) hx hb dX1_decode_45 rfl hl (by decide) rfl (fun ls hl => ?_)
            refine lv_iload hx hb dX1_decode_46 (lv_at hl 1 rfl) ?_
            refine lv_ldc hx hb hown hcs_65 dX1_decode_48 ?_
            refine lv_icmp_lt (tgt := 57) hx hb dX1_decode_50 (by decide) (fun c_14 => ?_) (fun c_14 => ?_)
            · skip
              have c_14' : r_9.toInt < 65536 := jb_lt (rfl) ((by decide)) c_14
              first | (have hr_12_3q := hr_12_3.resolve_left (by omega); clear hr_12_3) | (have hr_12_3q := hr_12_3.resolve_right (by omega); clear hr_12_3) | try clear hr_12_3
              refine lv_iconst (v := 1) hx hb dX1_decode_57 (by decide) ?_
              refine lv_istore (lv' := [(6, .int 1), (3, .int z_13), (5, .int r_9), (0, .ref r0), (1, .ref r1), (2, .int a2), (4, .int v4_5)]) hx hb dX1_decode_58 hl (by decide) rfl (fun ls hl => ?_)
              refine lv_aload_n hx hb dX1_decode_60 rfl (lv_at hl 3 rfl) ?_
              refine j7_read hx hb hown hK (C := RX1) (T := TX1) (N := 17) rfl hly_3_3 hlk_42 (hh_11.at 0 rfl) dX1_decode_61 ?_
              refine lv_iload hx hb dX1_decode_64 (lv_at hl 0 rfl) ?_
              refine lv_iadd hx hb dX1_decode_66 ?_
              refine lv_topi (fun z_15 ez_15 => ?_)
              have hz_15 : z_15.toInt = wl_5.toInt + 1 := by rw [ez_15]; exact jb_iadd2 (rfl) ((by decide)) (by omega)
              refine lv_sipush (v := 1500) hx hb dX1_decode_67 (by decide) ?_
              refine lv_icmp_le (tgt := 75) hx hb dX1_decode_70 (by decide) (fun c_16 => ?_) (fun c_16 => ?_)
              · skip
                have c_16' : z_15.toInt ≤ 1500 := jb_le (rfl) ((by decide)) c_16
                refine lv_iload hx hb dX1_decode_75 (lv_at hl 0 rfl) ?_
                refine lv_iconst (v := 2) hx hb dX1_decode_77 (by decide) ?_
                refine lv_icmp_ne (tgt := 127) hx hb dX1_decode_78 (by decide) (fun c_17 => ?_) (fun c_17 => ?_)
                · skip
                  refine lv_aload_n hx hb dX1_decode_127 rfl (lv_at hl 3 rfl) ?_
                  refine j7_read hx hb hown hK (C := RX1) (T := TX1) (N := 17) rfl hly_3_2 hlk_15 (hh_11.at 1 rfl) dX1_decode_128 ?_
                  refine lv_aload_n hx hb dX1_decode_131 rfl (lv_at hl 3 rfl) ?_
                  refine j7_read hx hb hown hK (C := RX1) (T := TX1) (N := 17) rfl hly_3_3 hlk_42 (hh_11.at 0 rfl) dX1_decode_132 ?_
                  refine lv_iload hx hb dX1_decode_135 (lv_at hl 2 rfl) ?_
                  refine lv_if_ge (tgt := 145) hx hb dX1_decode_137 (by decide) (fun c_18 => ?_) (fun c_18 => ?_)
                  · skip
                    have c_18' : r_9.toInt ≥ 0 := jb_ge (rfl) ((by decide)) c_18
                    refine lv_iload hx hb dX1_decode_145 (lv_at hl 2 rfl) ?_
                    have hd_20 := hh_11.iv 0 rfl
                    have hh_21 := hh_11.sub (L1 := [(r0, 3, 3, .int wl_5), (r0, 3, 2, .ref tx_)]) [0, 1] rfl (M1 := [(tx_, 173, 1500, ca 1, ft_5), (r1, 197, 4000, ca 0, fb)]) [0, 1] rfl (I1 := []) [] rfl
                    clear hh_11
                    have hd_20f := hh_21.at 1 rfl
                    refine j7_iastX hx hb hK hh_21 hB hB173 1 rfl (by decide) (by decide) rfl 0 rfl (M1 := [(r1, 197, 4000, ca 0, fb)]) [1] rfl rfl rfl hg_tx_ (x := wl_5.toInt) (rfl) (by omega) (trivial) dX1_decode_147 (fun H_19 locs_19 fs_22 hv_19 ho_19 hr_19 hh_19 => ?_)
                    have hv_19 : jSo fs_22 (wl_5.toInt) = r_9.toInt := by unfold jSo; rw [hv_19]; try exact rfl
                    clear hh_21
                    have hd_20n := jCD.arr hd_20 hg_r0 hg_tx_ hd_20f hr_19
                    have hh_23 := hh_19.addI (jCD.ie hd_20n)
                    clear hh_19
                    clear hd_20 hd_20f hd_20n hr_19
                    refine lv_aload_n hx hb dX1_decode_148 rfl (lv_at hl 3 rfl) ?_
                    refine lv_dup hx hb dX1_decode_149 rfl ?_
                    refine j7_read hx hb hown hK (C := RX1) (T := TX1) (N := 17) rfl hly_3_3 hlk_42 (hh_23.at 0 rfl) dX1_decode_150 ?_
                    refine lv_iload hx hb dX1_decode_153 (lv_at hl 0 rfl) ?_
                    refine lv_iadd hx hb dX1_decode_155 ?_
                    refine lv_topi (fun z_24 ez_24 => ?_)
                    have hz_24 : z_24.toInt = wl_5.toInt + 1 := by rw [ez_24]; exact jb_iadd2 (rfl) ((by decide)) (by omega)
                    have hd_26 := hh_23.iv 0 rfl
                    have hd_262 := hh_23.at 1 rfl
                    have hh_27 := hh_23.sub (L1 := [(r0, 3, 3, .int wl_5), (r0, 3, 2, .ref tx_)]) [0, 1] rfl (M1 := [(tx_, 173, 1500, ca 1, fs_22), (r1, 197, 4000, ca 0, fb)]) [0, 1] rfl (I1 := []) [] rfl
                    clear hh_23
                    refine j7_putX hx hb hown hK hh_27 hB hAp hB3 (C := RX1) (T := TX1) (N := 17) rfl (by decide) hg_r0 (i := 3) (by decide) hly_3_3 rfl hlk_42 rfl (ty := .int) (v := .int z_24) (by decide +kernel) rfl rfl (⟨_, rfl, by omega, by omega⟩) rfl (L1 := [(r0, 3, 2, .ref tx_)]) [1] rfl rfl rfl dX1_decode_156 (fun H_25 locs_25 hr_25 hh_25 => ?_)
                    clear hh_27
                    have hd_26n := jCD.fld hd_26 hg_r0 hr_25 hd_262 (hh_25.at 1 rfl)
                    have hh_28 := hh_25.addI (jCD.ie hd_26n)
                    clear hh_25
                    clear hd_26 hd_26n hd_262 hr_25
                    obtain ⟨z_29, ez_29⟩ : ∃ y : Int32, y = v4_5 + 1 := ⟨_, rfl⟩
                    refine lv_iinc (v := z_29) (lv' := [(4, .int z_29), (6, .int 1), (3, .int z_13), (5, .int r_9), (0, .ref r0), (1, .ref r1), (2, .int a2)]) hx hb dX1_decode_159 hl (k := 6) rfl (by rw [ez_29]; rfl) (by decide) rfl (fun ls hl => ?_)
                    have hz_29 : z_29.toInt = v4_5.toInt + 1 := by rw [ez_29]; exact jb_iadd2 (rfl) (by decide) (by omega)
                    refine lv_goto (tgt := 10) hx hb dX1_decode_162 (by decide) ?_
                    exact L10 z_13 z_29 z_24 fs_22 _ _ hh_28 (by refine ⟨by omega, by omega, by omega, by omega, by omega, by omega, ?_⟩; first | (exfalso; omega) | (exact hi_5_6.oneC (by omega) hr_9_0 (by omega) (jOth.ho (jOth.mk (n := 1500) ho_19 rfl (by omega)) rfl (by omega)) hv_19 (by omega) (by omega) (by omega))) (by omega) _ (lv_sub hl [4, 5, 6, 2, 0] rfl)
                  · skip
                    have c_18' : r_9.toInt < 0 := jb_ge_n (rfl) ((by decide)) c_18
                    refine lv_ldc hx hb hown hcs_68 dX1_decode_140 ?_
                    refine lv_goto (tgt := 147) hx hb dX1_decode_142 (by decide) ?_
                    have hd_31 := hh_11.iv 0 rfl
                    have hh_32 := hh_11.sub (L1 := [(r0, 3, 3, .int wl_5), (r0, 3, 2, .ref tx_)]) [0, 1] rfl (M1 := [(tx_, 173, 1500, ca 1, ft_5), (r1, 197, 4000, ca 0, fb)]) [0, 1] rfl (I1 := []) [] rfl
                    clear hh_11
                    have hd_31f := hh_32.at 1 rfl
                    refine j7_iastX hx hb hK hh_32 hB hB173 1 rfl (by decide) (by decide) rfl 0 rfl (M1 := [(r1, 197, 4000, ca 0, fb)]) [1] rfl rfl rfl hg_tx_ (x := wl_5.toInt) (rfl) (by omega) (trivial) dX1_decode_147 (fun H_30 locs_30 fs_33 hv_30 ho_30 hr_30 hh_30 => ?_)
                    have hv_30 : jSo fs_33 (wl_5.toInt) = 65533 := by unfold jSo; rw [hv_30]; try exact (by decide)
                    clear hh_32
                    have hd_31n := jCD.arr hd_31 hg_r0 hg_tx_ hd_31f hr_30
                    have hh_34 := hh_30.addI (jCD.ie hd_31n)
                    clear hh_30
                    clear hd_31 hd_31f hd_31n hr_30
                    refine lv_aload_n hx hb dX1_decode_148 rfl (lv_at hl 3 rfl) ?_
                    refine lv_dup hx hb dX1_decode_149 rfl ?_
                    refine j7_read hx hb hown hK (C := RX1) (T := TX1) (N := 17) rfl hly_3_3 hlk_42 (hh_34.at 0 rfl) dX1_decode_150 ?_
                    refine lv_iload hx hb dX1_decode_153 (lv_at hl 0 rfl) ?_
                    refine lv_iadd hx hb dX1_decode_155 ?_
                    refine lv_topi (fun z_35 ez_35 => ?_)
                    have hz_35 : z_35.toInt = wl_5.toInt + 1 := by rw [ez_35]; exact jb_iadd2 (rfl) ((by decide)) (by omega)
                    have hd_37 := hh_34.iv 0 rfl
                    have hd_372 := hh_34.at 1 rfl
                    have hh_38 := hh_34.sub (L1 := [(r0, 3, 3, .int wl_5), (r0, 3, 2, .ref tx_)]) [0, 1] rfl (M1 := [(tx_, 173, 1500, ca 1, fs_33), (r1, 197, 4000, ca 0, fb)]) [0, 1] rfl (I1 := []) [] rfl
                    clear hh_34
                    refine j7_putX hx hb hown hK hh_38 hB hAp hB3 (C := RX1) (T := TX1) (N := 17) rfl (by decide) hg_r0 (i := 3) (by decide) hly_3_3 rfl hlk_42 rfl (ty := .int) (v := .int z_35) (by decide +kernel) rfl rfl (⟨_, rfl, by omega, by omega⟩) rfl (L1 := [(r0, 3, 2, .ref tx_)]) [1] rfl rfl rfl dX1_decode_156 (fun H_36 locs_36 hr_36 hh_36 => ?_)
                    clear hh_38
                    have hd_37n := jCD.fld hd_37 hg_r0 hr_36 hd_372 (hh_36.at 1 rfl)
                    have hh_39 := hh_36.addI (jCD.ie hd_37n)
                    clear hh_36
                    clear hd_37 hd_37n hd_372 hr_36
                    obtain ⟨z_40, ez_40⟩ : ∃ y : Int32, y = v4_5 + 1 := ⟨_, rfl⟩
                    refine lv_iinc (v := z_40) (lv' := [(4, .int z_40), (6, .int 1), (3, .int z_13), (5, .int r_9), (0, .ref r0), (1, .ref r1), (2, .int a2)]) hx hb dX1_decode_159 hl (k := 6) rfl (by rw [ez_40]; rfl) (by decide) rfl (fun ls hl => ?_)
                    have hz_40 : z_40.toInt = v4_5.toInt + 1 := by rw [ez_40]; exact jb_iadd2 (rfl) (by decide) (by omega)
                    refine lv_goto (tgt := 10) hx hb dX1_decode_162 (by decide) ?_
                    exact L10 z_13 z_40 z_35 fs_33 _ _ hh_39 (by refine ⟨by omega, by omega, by omega, by omega, by omega, by omega, ?_⟩; first | (exfalso; omega) | (exact hi_5_6.oneC (by omega) hr_9_0 (by omega) (jOth.ho (jOth.mk (n := 1500) ho_30 rfl (by omega)) rfl (by omega)) hv_30 (by omega) (by omega) (by omega))) (by omega) _ (lv_sub hl [4, 5, 6, 2, 0] rfl)
                · skip
                  exact absurd c_17 (by decide)
              · skip
                have c_16' : z_15.toInt > 1500 := jb_le_n (rfl) ((by decide)) c_16
                refine lv_iconst (v := 0) hx hb dX1_decode_73 (by decide) ?_
                rw [hQ]
                exact W.zret (v := 0) hx hb hr (jb_nz (Or.inl rfl)) (fun t ht hW => ⟨⟨0, (wl_5, ft_5), rfl, ⟨(Or.inl rfl), by (try dsimp only); refine ⟨by omega, by omega, by omega, ?_⟩; exact Or.inl ⟨by omega, hi_5_6.long (by omega) hr_9_0 (s := 1) (by omega) (by omega)⟩⟩, ⟨⟨hh_11.rt (M1 := [(r0, 3, 3, .int wl_5)]) [0] rfl ht, by rw [ht]; exact hh_11.2.2.2.2.2.2.2.1.sub [0] rfl⟩, by rw [ht]; exact hh_11.2.2.2.2.2.2.2.2.sub (L1 := [(jFcd, jCD dC dI ca G0 (some r0) tq)]) [0] rfl⟩⟩, by rw [ht]; try exact hh_11.1.1, fun q h9 hq => by rw [ht]; try exact hh_11.1.2.1 q h9 hq⟩) hh_11.1.2.2 dX1_decode_74
            · skip
              have c_14' : r_9.toInt ≥ 65536 := jb_lt_n (rfl) ((by decide)) c_14
              first | (have hr_12_3q := hr_12_3.resolve_left (by omega); clear hr_12_3) | (have hr_12_3q := hr_12_3.resolve_right (by omega); clear hr_12_3) | try clear hr_12_3
              refine lv_iconst (v := 2) hx hb dX1_decode_53 (by decide) ?_
              refine lv_goto (tgt := 58) hx hb dX1_decode_54 (by decide) ?_
              refine lv_istore (lv' := [(6, .int 2), (3, .int z_13), (5, .int r_9), (0, .ref r0), (1, .ref r1), (2, .int a2), (4, .int v4_5)]) hx hb dX1_decode_58 hl (by decide) rfl (fun ls hl => ?_)
              refine lv_aload_n hx hb dX1_decode_60 rfl (lv_at hl 3 rfl) ?_
              refine j7_read hx hb hown hK (C := RX1) (T := TX1) (N := 17) rfl hly_3_3 hlk_42 (hh_11.at 0 rfl) dX1_decode_61 ?_
              refine lv_iload hx hb dX1_decode_64 (lv_at hl 0 rfl) ?_
              refine lv_iadd hx hb dX1_decode_66 ?_
              refine lv_topi (fun z_41 ez_41 => ?_)
              have hz_41 : z_41.toInt = wl_5.toInt + 2 := by rw [ez_41]; exact jb_iadd2 (rfl) ((by decide)) (by omega)
              refine lv_sipush (v := 1500) hx hb dX1_decode_67 (by decide) ?_
              refine lv_icmp_le (tgt := 75) hx hb dX1_decode_70 (by decide) (fun c_42 => ?_) (fun c_42 => ?_)
              · skip
                have c_42' : z_41.toInt ≤ 1500 := jb_le (rfl) ((by decide)) c_42
                refine lv_iload hx hb dX1_decode_75 (lv_at hl 0 rfl) ?_
                refine lv_iconst (v := 2) hx hb dX1_decode_77 (by decide) ?_
                refine lv_icmp_ne (tgt := 127) hx hb dX1_decode_78 (by decide) (fun c_43 => ?_) (fun c_43 => ?_)
                · skip
                  exact absurd c_43 (by decide)
                · skip
                  refine lv_aload_n hx hb dX1_decode_81 rfl (lv_at hl 3 rfl) ?_
                  refine j7_read hx hb hown hK (C := RX1) (T := TX1) (N := 17) rfl hly_3_2 hlk_15 (hh_11.at 1 rfl) dX1_decode_82 ?_
                  refine lv_aload_n hx hb dX1_decode_85 rfl (lv_at hl 3 rfl) ?_
                  refine j7_read hx hb hown hK (C := RX1) (T := TX1) (N := 17) rfl hly_3_3 hlk_42 (hh_11.at 0 rfl) dX1_decode_86 ?_
                  refine lv_ldc hx hb hown hcs_66 dX1_decode_89 ?_
                  refine lv_iload hx hb dX1_decode_91 (lv_at hl 2 rfl) ?_
                  refine lv_ldc hx hb hown hcs_65 dX1_decode_93 ?_
                  refine lv_isub hx hb dX1_decode_95 ?_
                  refine lv_topi (fun z_44 ez_44 => ?_)
                  have hz_44 : z_44.toInt = r_9.toInt - 65536 := by rw [ez_44]; exact jb_isub2 (rfl) ((by decide)) (by omega)
                  refine lv_bipush (v := 10) hx hb dX1_decode_96 (by decide) ?_
                  refine lv_ishr hx hb dX1_decode_98 ?_
                  refine lv_topi (fun z_45 ez_45 => ?_)
                  have hz_45 : z_45.toInt = z_44.toInt / 2 ^ 10 := by rw [ez_45]; exact jb_ishr 10 (rfl) (by decide)
                  have hsr := jb_shr10 ez_45 (by omega)
                  refine lv_iadd hx hb dX1_decode_99 ?_
                  refine lv_topi (fun z_46 ez_46 => ?_)
                  have hz_46 : z_46.toInt = 55296 + z_45.toInt := by rw [ez_46]; exact jb_iadd2 ((by decide)) (rfl) (by omega)
                  have hd_48 := hh_11.iv 0 rfl
                  have hh_49 := hh_11.sub (L1 := [(r0, 3, 3, .int wl_5), (r0, 3, 2, .ref tx_)]) [0, 1] rfl (M1 := [(tx_, 173, 1500, ca 1, ft_5), (r1, 197, 4000, ca 0, fb)]) [0, 1] rfl (I1 := []) [] rfl
                  clear hh_11
                  have hd_48f := hh_49.at 1 rfl
                  refine j7_iastX hx hb hK hh_49 hB hB173 1 rfl (by decide) (by decide) rfl 0 rfl (M1 := [(r1, 197, 4000, ca 0, fb)]) [1] rfl rfl rfl hg_tx_ (x := wl_5.toInt) (rfl) (by omega) (trivial) dX1_decode_100 (fun H_47 locs_47 fs_50 hv_47 ho_47 hr_47 hh_47 => ?_)
                  have hv_47 : jSo fs_50 (wl_5.toInt) = z_46.toInt := by unfold jSo; rw [hv_47]; try exact rfl
                  clear hh_49
                  have hd_48n := jCD.arr hd_48 hg_r0 hg_tx_ hd_48f hr_47
                  have hh_51 := hh_47.addI (jCD.ie hd_48n)
                  clear hh_47
                  clear hd_48 hd_48f hd_48n hr_47
                  refine lv_aload_n hx hb dX1_decode_101 rfl (lv_at hl 3 rfl) ?_
                  refine j7_read hx hb hown hK (C := RX1) (T := TX1) (N := 17) rfl hly_3_2 hlk_15 (hh_51.at 1 rfl) dX1_decode_102 ?_
                  refine lv_aload_n hx hb dX1_decode_105 rfl (lv_at hl 3 rfl) ?_
                  refine j7_read hx hb hown hK (C := RX1) (T := TX1) (N := 17) rfl hly_3_3 hlk_42 (hh_51.at 0 rfl) dX1_decode_106 ?_
                  refine lv_iconst (v := 1) hx hb dX1_decode_109 (by decide) ?_
                  refine lv_iadd hx hb dX1_decode_110 ?_
                  refine lv_topi (fun z_52 ez_52 => ?_)
                  have hz_52 : z_52.toInt = wl_5.toInt + 1 := by rw [ez_52]; exact jb_iadd2 (rfl) ((by decide)) (by omega)
                  refine lv_ldc hx hb hown hcs_67 dX1_decode_111 ?_
                  refine lv_iload hx hb dX1_decode_113 (lv_at hl 2 rfl) ?_
                  refine lv_ldc hx hb hown hcs_65 dX1_decode_115 ?_
                  refine lv_isub hx hb dX1_decode_117 ?_
                  refine lv_topi (fun z_53 ez_53 => ?_)
                  have hz_53 : z_53.toInt = r_9.toInt - 65536 := by rw [ez_53]; exact jb_isub2 (rfl) ((by decide)) (by omega)
                  refine lv_sipush (v := 1023) hx hb dX1_decode_118 (by decide) ?_
                  refine lv_iand hx hb dX1_decode_121 ?_
                  refine lv_topi (fun z_54 ez_54 => ?_)
                  have hz_54 : 0 ≤ z_54.toInt ∧ z_54.toInt ≤ 1023 := by rw [ez_54]; exact jb_and z_53 (m := 1023) (k := 10) (by decide) (by decide)
                  have had := jb_a1023 ez_54
                  refine lv_iadd hx hb dX1_decode_122 ?_
                  refine lv_topi (fun z_55 ez_55 => ?_)
                  have hz_55 : z_55.toInt = 56320 + z_54.toInt := by rw [ez_55]; exact jb_iadd2 ((by decide)) (rfl) (by omega)
                  have hd_57 := hh_51.iv 0 rfl
                  have hh_58 := hh_51.sub (L1 := [(r0, 3, 3, .int wl_5), (r0, 3, 2, .ref tx_)]) [0, 1] rfl (M1 := [(tx_, 173, 1500, ca 1, fs_50), (r1, 197, 4000, ca 0, fb)]) [0, 1] rfl (I1 := []) [] rfl
                  clear hh_51
                  have hd_57f := hh_58.at 1 rfl
                  refine j7_iastX hx hb hK hh_58 hB hB173 1 rfl (by decide) (by decide) rfl 0 rfl (M1 := [(r1, 197, 4000, ca 0, fb)]) [1] rfl rfl rfl hg_tx_ (x := z_52.toInt) (rfl) (by omega) (trivial) dX1_decode_123 (fun H_56 locs_56 fs_59 hv_56 ho_56 hr_56 hh_56 => ?_)
                  have hv_56 : jSo fs_59 (z_52.toInt) = z_55.toInt := by unfold jSo; rw [hv_56]; try exact rfl
                  rw [show z_52.toInt = (wl_5.toInt + 1) by omega] at hv_56 ho_56
                  clear hh_58
                  have hd_57n := jCD.arr hd_57 hg_r0 hg_tx_ hd_57f hr_56
                  have hh_60 := hh_56.addI (jCD.ie hd_57n)
                  clear hh_56
                  clear hd_57 hd_57f hd_57n hr_56
                  refine lv_goto (tgt := 148) hx hb dX1_decode_124 (by decide) ?_
                  refine lv_aload_n hx hb dX1_decode_148 rfl (lv_at hl 3 rfl) ?_
                  refine lv_dup hx hb dX1_decode_149 rfl ?_
                  refine j7_read hx hb hown hK (C := RX1) (T := TX1) (N := 17) rfl hly_3_3 hlk_42 (hh_60.at 0 rfl) dX1_decode_150 ?_
                  refine lv_iload hx hb dX1_decode_153 (lv_at hl 0 rfl) ?_
                  refine lv_iadd hx hb dX1_decode_155 ?_
                  refine lv_topi (fun z_61 ez_61 => ?_)
                  have hz_61 : z_61.toInt = wl_5.toInt + 2 := by rw [ez_61]; exact jb_iadd2 (rfl) ((by decide)) (by omega)
                  have hd_63 := hh_60.iv 0 rfl
                  have hd_632 := hh_60.at 1 rfl
                  have hh_64 := hh_60.sub (L1 := [(r0, 3, 3, .int wl_5), (r0, 3, 2, .ref tx_)]) [0, 1] rfl (M1 := [(tx_, 173, 1500, ca 1, fs_59), (r1, 197, 4000, ca 0, fb)]) [0, 1] rfl (I1 := []) [] rfl
                  clear hh_60
                  refine j7_putX hx hb hown hK hh_64 hB hAp hB3 (C := RX1) (T := TX1) (N := 17) rfl (by decide) hg_r0 (i := 3) (by decide) hly_3_3 rfl hlk_42 rfl (ty := .int) (v := .int z_61) (by decide +kernel) rfl rfl (⟨_, rfl, by omega, by omega⟩) rfl (L1 := [(r0, 3, 2, .ref tx_)]) [1] rfl rfl rfl dX1_decode_156 (fun H_62 locs_62 hr_62 hh_62 => ?_)
                  clear hh_64
                  have hd_63n := jCD.fld hd_63 hg_r0 hr_62 hd_632 (hh_62.at 1 rfl)
                  have hh_65 := hh_62.addI (jCD.ie hd_63n)
                  clear hh_62
                  clear hd_63 hd_63n hd_632 hr_62
                  obtain ⟨z_66, ez_66⟩ : ∃ y : Int32, y = v4_5 + 1 := ⟨_, rfl⟩
                  refine lv_iinc (v := z_66) (lv' := [(4, .int z_66), (6, .int 2), (3, .int z_13), (5, .int r_9), (0, .ref r0), (1, .ref r1), (2, .int a2)]) hx hb dX1_decode_159 hl (k := 6) rfl (by rw [ez_66]; rfl) (by decide) rfl (fun ls hl => ?_)
                  have hz_66 : z_66.toInt = v4_5.toInt + 1 := by rw [ez_66]; exact jb_iadd2 (rfl) (by decide) (by omega)
                  refine lv_goto (tgt := 10) hx hb dX1_decode_162 (by decide) ?_
                  exact L10 z_13 z_66 z_61 fs_59 _ _ hh_65 (by refine ⟨by omega, by omega, by omega, by omega, by omega, by omega, ?_⟩; first | (exfalso; omega) | (exact hi_5_6.twoC (by omega) hr_9_0 (by omega) (jOth.ho2 (jOth.mk (n := 1500) ho_47 rfl (by omega)) (jOth.mk (n := 1500) ho_56 rfl (by omega)) rfl (by omega) (by omega)) (((jOth.mk (n := 1500) ho_56 rfl (by omega) : jOth 1500 _ _ _) _ (by omega) (by omega) (by omega)).trans hv_47) (jSoA hv_56 (by omega)) (by omega) (by omega) (by omega) (by omega))) (by omega) _ (lv_sub hl [4, 5, 6, 2, 0] rfl)
              · skip
                have c_42' : z_41.toInt > 1500 := jb_le_n (rfl) ((by decide)) c_42
                refine lv_iconst (v := 0) hx hb dX1_decode_73 (by decide) ?_
                rw [hQ]
                exact W.zret (v := 0) hx hb hr (jb_nz (Or.inl rfl)) (fun t ht hW => ⟨⟨0, (wl_5, ft_5), rfl, ⟨(Or.inl rfl), by (try dsimp only); refine ⟨by omega, by omega, by omega, ?_⟩; exact Or.inl ⟨by omega, hi_5_6.long (by omega) hr_9_0 (s := 2) (by omega) (by omega)⟩⟩, ⟨⟨hh_11.rt (M1 := [(r0, 3, 3, .int wl_5)]) [0] rfl ht, by rw [ht]; exact hh_11.2.2.2.2.2.2.2.1.sub [0] rfl⟩, by rw [ht]; exact hh_11.2.2.2.2.2.2.2.2.sub (L1 := [(jFcd, jCD dC dI ca G0 (some r0) tq)]) [0] rfl⟩⟩, by rw [ht]; try exact hh_11.1.1, fun q h9 hq => by rw [ht]; try exact hh_11.1.2.1 q h9 hq⟩) hh_11.1.2.2 dX1_decode_74
          · skip
            have c_10' : r_9.toInt < 0 := jb_ge_n (rfl) ((by decide)) c_10
            refine lv_iconst (v := 1) hx hb dX1_decode_35 (by decide) ?_
            refine lv_goto (tgt := 44) hx hb dX1_decode_36 (by decide) ?_
            refine lv_iadd hx hb dX1_decode_44 ?_
            refine lv_topi (fun z_67 ez_67 => ?_)
            have hz_67 : z_67.toInt = v3_5.toInt + 1 := by rw [ez_67]; exact jb_iadd2 (rfl) ((by decide)) (by omega)
            refine lv_istore_n (lv' := [(3, .int z_67), (5, .int r_9), (0, .ref r0), (1, .ref r1), (2, .int a2), (4, .int v4_5)]) hx hb dX1_decode_45 rfl hl (by decide) rfl (fun ls hl => ?_)
            refine lv_iload hx hb dX1_decode_46 (lv_at hl 1 rfl) ?_
            refine lv_ldc hx hb hown hcs_65 dX1_decode_48 ?_
            refine lv_icmp_lt (tgt := 57) hx hb dX1_decode_50 (by decide) (fun c_68 => ?_) (fun c_68 => ?_)
            · skip
              have c_68' : r_9.toInt < 65536 := jb_lt (rfl) ((by decide)) c_68
              refine lv_iconst (v := 1) hx hb dX1_decode_57 (by decide) ?_
              refine lv_istore (lv' := [(6, .int 1), (3, .int z_67), (5, .int r_9), (0, .ref r0), (1, .ref r1), (2, .int a2), (4, .int v4_5)]) hx hb dX1_decode_58 hl (by decide) rfl (fun ls hl => ?_)
              refine lv_aload_n hx hb dX1_decode_60 rfl (lv_at hl 3 rfl) ?_
              refine j7_read hx hb hown hK (C := RX1) (T := TX1) (N := 17) rfl hly_3_3 hlk_42 (hh_8.at 0 rfl) dX1_decode_61 ?_
              refine lv_iload hx hb dX1_decode_64 (lv_at hl 0 rfl) ?_
              refine lv_iadd hx hb dX1_decode_66 ?_
              refine lv_topi (fun z_69 ez_69 => ?_)
              have hz_69 : z_69.toInt = wl_5.toInt + 1 := by rw [ez_69]; exact jb_iadd2 (rfl) ((by decide)) (by omega)
              refine lv_sipush (v := 1500) hx hb dX1_decode_67 (by decide) ?_
              refine lv_icmp_le (tgt := 75) hx hb dX1_decode_70 (by decide) (fun c_70 => ?_) (fun c_70 => ?_)
              · skip
                have c_70' : z_69.toInt ≤ 1500 := jb_le (rfl) ((by decide)) c_70
                refine lv_iload hx hb dX1_decode_75 (lv_at hl 0 rfl) ?_
                refine lv_iconst (v := 2) hx hb dX1_decode_77 (by decide) ?_
                refine lv_icmp_ne (tgt := 127) hx hb dX1_decode_78 (by decide) (fun c_71 => ?_) (fun c_71 => ?_)
                · skip
                  refine lv_aload_n hx hb dX1_decode_127 rfl (lv_at hl 3 rfl) ?_
                  refine j7_read hx hb hown hK (C := RX1) (T := TX1) (N := 17) rfl hly_3_2 hlk_15 (hh_8.at 1 rfl) dX1_decode_128 ?_
                  refine lv_aload_n hx hb dX1_decode_131 rfl (lv_at hl 3 rfl) ?_
                  refine j7_read hx hb hown hK (C := RX1) (T := TX1) (N := 17) rfl hly_3_3 hlk_42 (hh_8.at 0 rfl) dX1_decode_132 ?_
                  refine lv_iload hx hb dX1_decode_135 (lv_at hl 2 rfl) ?_
                  refine lv_if_ge (tgt := 145) hx hb dX1_decode_137 (by decide) (fun c_72 => ?_) (fun c_72 => ?_)
                  · skip
                    have c_72' : r_9.toInt ≥ 0 := jb_ge (rfl) ((by decide)) c_72
                    refine lv_iload hx hb dX1_decode_145 (lv_at hl 2 rfl) ?_
                    have hd_74 := hh_8.iv 0 rfl
                    have hh_75 := hh_8.sub (L1 := [(r0, 3, 3, .int wl_5), (r0, 3, 2, .ref tx_)]) [0, 1] rfl (M1 := [(tx_, 173, 1500, ca 1, ft_5), (r1, 197, 4000, ca 0, fb)]) [0, 1] rfl (I1 := []) [] rfl
                    clear hh_8
                    have hd_74f := hh_75.at 1 rfl
                    refine j7_iastX hx hb hK hh_75 hB hB173 1 rfl (by decide) (by decide) rfl 0 rfl (M1 := [(r1, 197, 4000, ca 0, fb)]) [1] rfl rfl rfl hg_tx_ (x := wl_5.toInt) (rfl) (by omega) (trivial) dX1_decode_147 (fun H_73 locs_73 fs_76 hv_73 ho_73 hr_73 hh_73 => ?_)
                    have hv_73 : jSo fs_76 (wl_5.toInt) = r_9.toInt := by unfold jSo; rw [hv_73]; try exact rfl
                    clear hh_75
                    have hd_74n := jCD.arr hd_74 hg_r0 hg_tx_ hd_74f hr_73
                    have hh_77 := hh_73.addI (jCD.ie hd_74n)
                    clear hh_73
                    clear hd_74 hd_74f hd_74n hr_73
                    refine lv_aload_n hx hb dX1_decode_148 rfl (lv_at hl 3 rfl) ?_
                    refine lv_dup hx hb dX1_decode_149 rfl ?_
                    refine j7_read hx hb hown hK (C := RX1) (T := TX1) (N := 17) rfl hly_3_3 hlk_42 (hh_77.at 0 rfl) dX1_decode_150 ?_
                    refine lv_iload hx hb dX1_decode_153 (lv_at hl 0 rfl) ?_
                    refine lv_iadd hx hb dX1_decode_155 ?_
                    refine lv_topi (fun z_78 ez_78 => ?_)
                    have hz_78 : z_78.toInt = wl_5.toInt + 1 := by rw [ez_78]; exact jb_iadd2 (rfl) ((by decide)) (by omega)
                    have hd_80 := hh_77.iv 0 rfl
                    have hd_802 := hh_77.at 1 rfl
                    have hh_81 := hh_77.sub (L1 := [(r0, 3, 3, .int wl_5), (r0, 3, 2, .ref tx_)]) [0, 1] rfl (M1 := [(tx_, 173, 1500, ca 1, fs_76), (r1, 197, 4000, ca 0, fb)]) [0, 1] rfl (I1 := []) [] rfl
                    clear hh_77
                    refine j7_putX hx hb hown hK hh_81 hB hAp hB3 (C := RX1) (T := TX1) (N := 17) rfl (by decide) hg_r0 (i := 3) (by decide) hly_3_3 rfl hlk_42 rfl (ty := .int) (v := .int z_78) (by decide +kernel) rfl rfl (⟨_, rfl, by omega, by omega⟩) rfl (L1 := [(r0, 3, 2, .ref tx_)]) [1] rfl rfl rfl dX1_decode_156 (fun H_79 locs_79 hr_79 hh_79 => ?_)
                    clear hh_81
                    have hd_80n := jCD.fld hd_80 hg_r0 hr_79 hd_802 (hh_79.at 1 rfl)
                    have hh_82 := hh_79.addI (jCD.ie hd_80n)
                    clear hh_79
                    clear hd_80 hd_80n hd_802 hr_79
                    obtain ⟨z_83, ez_83⟩ : ∃ y : Int32, y = v4_5 + 1 := ⟨_, rfl⟩
                    refine lv_iinc (v := z_83) (lv' := [(4, .int z_83), (6, .int 1), (3, .int z_67), (5, .int r_9), (0, .ref r0), (1, .ref r1), (2, .int a2)]) hx hb dX1_decode_159 hl (k := 6) rfl (by rw [ez_83]; rfl) (by decide) rfl (fun ls hl => ?_)
                    have hz_83 : z_83.toInt = v4_5.toInt + 1 := by rw [ez_83]; exact jb_iadd2 (rfl) (by decide) (by omega)
                    refine lv_goto (tgt := 10) hx hb dX1_decode_162 (by decide) ?_
                    exact L10 z_67 z_83 z_78 fs_76 _ _ hh_82 (by refine ⟨by omega, by omega, by omega, by omega, by omega, by omega, ?_⟩; first | (exfalso; omega) | (exact hi_5_6.oneC (by omega) hr_9_0 (by omega) (jOth.ho (jOth.mk (n := 1500) ho_73 rfl (by omega)) rfl (by omega)) hv_73 (by omega) (by omega) (by omega))) (by omega) _ (lv_sub hl [4, 5, 6, 2, 0] rfl)
                  · skip
                    have c_72' : r_9.toInt < 0 := jb_ge_n (rfl) ((by decide)) c_72
                    refine lv_ldc hx hb hown hcs_68 dX1_decode_140 ?_
                    refine lv_goto (tgt := 147) hx hb dX1_decode_142 (by decide) ?_
                    have hd_85 := hh_8.iv 0 rfl
                    have hh_86 := hh_8.sub (L1 := [(r0, 3, 3, .int wl_5), (r0, 3, 2, .ref tx_)]) [0, 1] rfl (M1 := [(tx_, 173, 1500, ca 1, ft_5), (r1, 197, 4000, ca 0, fb)]) [0, 1] rfl (I1 := []) [] rfl
                    clear hh_8
                    have hd_85f := hh_86.at 1 rfl
                    refine j7_iastX hx hb hK hh_86 hB hB173 1 rfl (by decide) (by decide) rfl 0 rfl (M1 := [(r1, 197, 4000, ca 0, fb)]) [1] rfl rfl rfl hg_tx_ (x := wl_5.toInt) (rfl) (by omega) (trivial) dX1_decode_147 (fun H_84 locs_84 fs_87 hv_84 ho_84 hr_84 hh_84 => ?_)
                    have hv_84 : jSo fs_87 (wl_5.toInt) = 65533 := by unfold jSo; rw [hv_84]; try exact (by decide)
                    clear hh_86
                    have hd_85n := jCD.arr hd_85 hg_r0 hg_tx_ hd_85f hr_84
                    have hh_88 := hh_84.addI (jCD.ie hd_85n)
                    clear hh_84
                    clear hd_85 hd_85f hd_85n hr_84
                    refine lv_aload_n hx hb dX1_decode_148 rfl (lv_at hl 3 rfl) ?_
                    refine lv_dup hx hb dX1_decode_149 rfl ?_
                    refine j7_read hx hb hown hK (C := RX1) (T := TX1) (N := 17) rfl hly_3_3 hlk_42 (hh_88.at 0 rfl) dX1_decode_150 ?_
                    refine lv_iload hx hb dX1_decode_153 (lv_at hl 0 rfl) ?_
                    refine lv_iadd hx hb dX1_decode_155 ?_
                    refine lv_topi (fun z_89 ez_89 => ?_)
                    have hz_89 : z_89.toInt = wl_5.toInt + 1 := by rw [ez_89]; exact jb_iadd2 (rfl) ((by decide)) (by omega)
                    have hd_91 := hh_88.iv 0 rfl
                    have hd_912 := hh_88.at 1 rfl
                    have hh_92 := hh_88.sub (L1 := [(r0, 3, 3, .int wl_5), (r0, 3, 2, .ref tx_)]) [0, 1] rfl (M1 := [(tx_, 173, 1500, ca 1, fs_87), (r1, 197, 4000, ca 0, fb)]) [0, 1] rfl (I1 := []) [] rfl
                    clear hh_88
                    refine j7_putX hx hb hown hK hh_92 hB hAp hB3 (C := RX1) (T := TX1) (N := 17) rfl (by decide) hg_r0 (i := 3) (by decide) hly_3_3 rfl hlk_42 rfl (ty := .int) (v := .int z_89) (by decide +kernel) rfl rfl (⟨_, rfl, by omega, by omega⟩) rfl (L1 := [(r0, 3, 2, .ref tx_)]) [1] rfl rfl rfl dX1_decode_156 (fun H_90 locs_90 hr_90 hh_90 => ?_)
                    clear hh_92
                    have hd_91n := jCD.fld hd_91 hg_r0 hr_90 hd_912 (hh_90.at 1 rfl)
                    have hh_93 := hh_90.addI (jCD.ie hd_91n)
                    clear hh_90
                    clear hd_91 hd_91n hd_912 hr_90
                    obtain ⟨z_94, ez_94⟩ : ∃ y : Int32, y = v4_5 + 1 := ⟨_, rfl⟩
                    refine lv_iinc (v := z_94) (lv' := [(4, .int z_94), (6, .int 1), (3, .int z_67), (5, .int r_9), (0, .ref r0), (1, .ref r1), (2, .int a2)]) hx hb dX1_decode_159 hl (k := 6) rfl (by rw [ez_94]; rfl) (by decide) rfl (fun ls hl => ?_)
                    have hz_94 : z_94.toInt = v4_5.toInt + 1 := by rw [ez_94]; exact jb_iadd2 (rfl) (by decide) (by omega)
                    refine lv_goto (tgt := 10) hx hb dX1_decode_162 (by decide) ?_
                    exact L10 z_67 z_94 z_89 fs_87 _ _ hh_93 (by refine ⟨by omega, by omega, by omega, by omega, by omega, by omega, ?_⟩; first | (exfalso; omega) | (exact hi_5_6.oneC (by omega) hr_9_0 (by omega) (jOth.ho (jOth.mk (n := 1500) ho_84 rfl (by omega)) rfl (by omega)) hv_84 (by omega) (by omega) (by omega))) (by omega) _ (lv_sub hl [4, 5, 6, 2, 0] rfl)
                · skip
                  exact absurd c_71 (by decide)
              · skip
                have c_70' : z_69.toInt > 1500 := jb_le_n (rfl) ((by decide)) c_70
                refine lv_iconst (v := 0) hx hb dX1_decode_73 (by decide) ?_
                rw [hQ]
                exact W.zret (v := 0) hx hb hr (jb_nz (Or.inl rfl)) (fun t ht hW => ⟨⟨0, (wl_5, ft_5), rfl, ⟨(Or.inl rfl), by (try dsimp only); refine ⟨by omega, by omega, by omega, ?_⟩; exact Or.inl ⟨by omega, hi_5_6.long (by omega) hr_9_0 (s := 1) (by omega) (by omega)⟩⟩, ⟨⟨hh_8.rt (M1 := [(r0, 3, 3, .int wl_5)]) [0] rfl ht, by rw [ht]; exact hh_8.2.2.2.2.2.2.2.1.sub [0] rfl⟩, by rw [ht]; exact hh_8.2.2.2.2.2.2.2.2.sub (L1 := [(jFcd, jCD dC dI ca G0 (some r0) tq)]) [0] rfl⟩⟩, by rw [ht]; try exact hh_8.1.1, fun q h9 hq => by rw [ht]; try exact hh_8.1.2.1 q h9 hq⟩) hh_8.1.2.2 dX1_decode_74
            · skip
              have c_68' : r_9.toInt ≥ 65536 := jb_lt_n (rfl) ((by decide)) c_68
              refine lv_iconst (v := 2) hx hb dX1_decode_53 (by decide) ?_
              refine lv_goto (tgt := 58) hx hb dX1_decode_54 (by decide) ?_
              refine lv_istore (lv' := [(6, .int 2), (3, .int z_67), (5, .int r_9), (0, .ref r0), (1, .ref r1), (2, .int a2), (4, .int v4_5)]) hx hb dX1_decode_58 hl (by decide) rfl (fun ls hl => ?_)
              refine lv_aload_n hx hb dX1_decode_60 rfl (lv_at hl 3 rfl) ?_
              refine j7_read hx hb hown hK (C := RX1) (T := TX1) (N := 17) rfl hly_3_3 hlk_42 (hh_8.at 0 rfl) dX1_decode_61 ?_
              refine lv_iload hx hb dX1_decode_64 (lv_at hl 0 rfl) ?_
              refine lv_iadd hx hb dX1_decode_66 ?_
              refine lv_topi (fun z_95 ez_95 => ?_)
              have hz_95 : z_95.toInt = wl_5.toInt + 2 := by rw [ez_95]; exact jb_iadd2 (rfl) ((by decide)) (by omega)
              refine lv_sipush (v := 1500) hx hb dX1_decode_67 (by decide) ?_
              refine lv_icmp_le (tgt := 75) hx hb dX1_decode_70 (by decide) (fun c_96 => ?_) (fun c_96 => ?_)
              · skip
                have c_96' : z_95.toInt ≤ 1500 := jb_le (rfl) ((by decide)) c_96
                refine lv_iload hx hb dX1_decode_75 (lv_at hl 0 rfl) ?_
                refine lv_iconst (v := 2) hx hb dX1_decode_77 (by decide) ?_
                refine lv_icmp_ne (tgt := 127) hx hb dX1_decode_78 (by decide) (fun c_97 => ?_) (fun c_97 => ?_)
                · skip
                  exact absurd c_97 (by decide)
                · skip
                  refine lv_aload_n hx hb dX1_decode_81 rfl (lv_at hl 3 rfl) ?_
                  refine j7_read hx hb hown hK (C := RX1) (T := TX1) (N := 17) rfl hly_3_2 hlk_15 (hh_8.at 1 rfl) dX1_decode_82 ?_
                  refine lv_aload_n hx hb dX1_decode_85 rfl (lv_at hl 3 rfl) ?_
                  refine j7_read hx hb hown hK (C := RX1) (T := TX1) (N := 17) rfl hly_3_3 hlk_42 (hh_8.at 0 rfl) dX1_decode_86 ?_
                  refine lv_ldc hx hb hown hcs_66 dX1_decode_89 ?_
                  refine lv_iload hx hb dX1_decode_91 (lv_at hl 2 rfl) ?_
                  refine lv_ldc hx hb hown hcs_65 dX1_decode_93 ?_
                  refine lv_isub hx hb dX1_decode_95 ?_
                  refine lv_topi (fun z_98 ez_98 => ?_)
                  have hz_98 : z_98.toInt = r_9.toInt - 65536 := by rw [ez_98]; exact jb_isub2 (rfl) ((by decide)) (by omega)
                  refine lv_bipush (v := 10) hx hb dX1_decode_96 (by decide) ?_
                  refine lv_ishr hx hb dX1_decode_98 ?_
                  refine lv_topi (fun z_99 ez_99 => ?_)
                  have hz_99 : z_99.toInt = z_98.toInt / 2 ^ 10 := by rw [ez_99]; exact jb_ishr 10 (rfl) (by decide)
                  have hsr := jb_shr10 ez_99 (by omega)
                  refine lv_iadd hx hb dX1_decode_99 ?_
                  refine lv_topi (fun z_100 ez_100 => ?_)
                  have hz_100 : z_100.toInt = 55296 + z_99.toInt := by rw [ez_100]; exact jb_iadd2 ((by decide)) (rfl) (by omega)
                  have hd_102 := hh_8.iv 0 rfl
                  have hh_103 := hh_8.sub (L1 := [(r0, 3, 3, .int wl_5), (r0, 3, 2, .ref tx_)]) [0, 1] rfl (M1 := [(tx_, 173, 1500, ca 1, ft_5), (r1, 197, 4000, ca 0, fb)]) [0, 1] rfl (I1 := []) [] rfl
                  clear hh_8
                  have hd_102f := hh_103.at 1 rfl
                  refine j7_iastX hx hb hK hh_103 hB hB173 1 rfl (by decide) (by decide) rfl 0 rfl (M1 := [(r1, 197, 4000, ca 0, fb)]) [1] rfl rfl rfl hg_tx_ (x := wl_5.toInt) (rfl) (by omega) (trivial) dX1_decode_100 (fun H_101 locs_101 fs_104 hv_101 ho_101 hr_101 hh_101 => ?_)
                  have hv_101 : jSo fs_104 (wl_5.toInt) = z_100.toInt := by unfold jSo; rw [hv_101]; try exact rfl
                  clear hh_103
                  have hd_102n := jCD.arr hd_102 hg_r0 hg_tx_ hd_102f hr_101
                  have hh_105 := hh_101.addI (jCD.ie hd_102n)
                  clear hh_101
                  clear hd_102 hd_102f hd_102n hr_101
                  refine lv_aload_n hx hb dX1_decode_101 rfl (lv_at hl 3 rfl) ?_
                  refine j7_read hx hb hown hK (C := RX1) (T := TX1) (N := 17) rfl hly_3_2 hlk_15 (hh_105.at 1 rfl) dX1_decode_102 ?_
                  refine lv_aload_n hx hb dX1_decode_105 rfl (lv_at hl 3 rfl) ?_
                  refine j7_read hx hb hown hK (C := RX1) (T := TX1) (N := 17) rfl hly_3_3 hlk_42 (hh_105.at 0 rfl) dX1_decode_106 ?_
                  refine lv_iconst (v := 1) hx hb dX1_decode_109 (by decide) ?_
                  refine lv_iadd hx hb dX1_decode_110 ?_
                  refine lv_topi (fun z_106 ez_106 => ?_)
                  have hz_106 : z_106.toInt = wl_5.toInt + 1 := by rw [ez_106]; exact jb_iadd2 (rfl) ((by decide)) (by omega)
                  refine lv_ldc hx hb hown hcs_67 dX1_decode_111 ?_
                  refine lv_iload hx hb dX1_decode_113 (lv_at hl 2 rfl) ?_
                  refine lv_ldc hx hb hown hcs_65 dX1_decode_115 ?_
                  refine lv_isub hx hb dX1_decode_117 ?_
                  refine lv_topi (fun z_107 ez_107 => ?_)
                  have hz_107 : z_107.toInt = r_9.toInt - 65536 := by rw [ez_107]; exact jb_isub2 (rfl) ((by decide)) (by omega)
                  refine lv_sipush (v := 1023) hx hb dX1_decode_118 (by decide) ?_
                  refine lv_iand hx hb dX1_decode_121 ?_
                  refine lv_topi (fun z_108 ez_108 => ?_)
                  have hz_108 : 0 ≤ z_108.toInt ∧ z_108.toInt ≤ 1023 := by rw [ez_108]; exact jb_and z_107 (m := 1023) (k := 10) (by decide) (by decide)
                  have had := jb_a1023 ez_108
                  refine lv_iadd hx hb dX1_decode_122 ?_
                  refine lv_topi (fun z_109 ez_109 => ?_)
                  have hz_109 : z_109.toInt = 56320 + z_108.toInt := by rw [ez_109]; exact jb_iadd2 ((by decide)) (rfl) (by omega)
                  have hd_111 := hh_105.iv 0 rfl
                  have hh_112 := hh_105.sub (L1 := [(r0, 3, 3, .int wl_5), (r0, 3, 2, .ref tx_)]) [0, 1] rfl (M1 := [(tx_, 173, 1500, ca 1, fs_104), (r1, 197, 4000, ca 0, fb)]) [0, 1] rfl (I1 := []) [] rfl
                  clear hh_105
                  have hd_111f := hh_112.at 1 rfl
                  refine j7_iastX hx hb hK hh_112 hB hB173 1 rfl (by decide) (by decide) rfl 0 rfl (M1 := [(r1, 197, 4000, ca 0, fb)]) [1] rfl rfl rfl hg_tx_ (x := z_106.toInt) (rfl) (by omega) (trivial) dX1_decode_123 (fun H_110 locs_110 fs_113 hv_110 ho_110 hr_110 hh_110 => ?_)
                  have hv_110 : jSo fs_113 (z_106.toInt) = z_109.toInt := by unfold jSo; rw [hv_110]; try exact rfl
                  rw [show z_106.toInt = (wl_5.toInt + 1) by omega] at hv_110 ho_110
                  clear hh_112
                  have hd_111n := jCD.arr hd_111 hg_r0 hg_tx_ hd_111f hr_110
                  have hh_114 := hh_110.addI (jCD.ie hd_111n)
                  clear hh_110
                  clear hd_111 hd_111f hd_111n hr_110
                  refine lv_goto (tgt := 148) hx hb dX1_decode_124 (by decide) ?_
                  refine lv_aload_n hx hb dX1_decode_148 rfl (lv_at hl 3 rfl) ?_
                  refine lv_dup hx hb dX1_decode_149 rfl ?_
                  refine j7_read hx hb hown hK (C := RX1) (T := TX1) (N := 17) rfl hly_3_3 hlk_42 (hh_114.at 0 rfl) dX1_decode_150 ?_
                  refine lv_iload hx hb dX1_decode_153 (lv_at hl 0 rfl) ?_
                  refine lv_iadd hx hb dX1_decode_155 ?_
                  refine lv_topi (fun z_115 ez_115 => ?_)
                  have hz_115 : z_115.toInt = wl_5.toInt + 2 := by rw [ez_115]; exact jb_iadd2 (rfl) ((by decide)) (by omega)
                  have hd_117 := hh_114.iv 0 rfl
                  have hd_1172 := hh_114.at 1 rfl
                  have hh_118 := hh_114.sub (L1 := [(r0, 3, 3, .int wl_5), (r0, 3, 2, .ref tx_)]) [0, 1] rfl (M1 := [(tx_, 173, 1500, ca 1, fs_113), (r1, 197, 4000, ca 0, fb)]) [0, 1] rfl (I1 := []) [] rfl
                  clear hh_114
                  refine j7_putX hx hb hown hK hh_118 hB hAp hB3 (C := RX1) (T := TX1) (N := 17) rfl (by decide) hg_r0 (i := 3) (by decide) hly_3_3 rfl hlk_42 rfl (ty := .int) (v := .int z_115) (by decide +kernel) rfl rfl (⟨_, rfl, by omega, by omega⟩) rfl (L1 := [(r0, 3, 2, .ref tx_)]) [1] rfl rfl rfl dX1_decode_156 (fun H_116 locs_116 hr_116 hh_116 => ?_)
                  clear hh_118
                  have hd_117n := jCD.fld hd_117 hg_r0 hr_116 hd_1172 (hh_116.at 1 rfl)
                  have hh_119 := hh_116.addI (jCD.ie hd_117n)
                  clear hh_116
                  clear hd_117 hd_117n hd_1172 hr_116
                  obtain ⟨z_120, ez_120⟩ : ∃ y : Int32, y = v4_5 + 1 := ⟨_, rfl⟩
                  refine lv_iinc (v := z_120) (lv' := [(4, .int z_120), (6, .int 2), (3, .int z_67), (5, .int r_9), (0, .ref r0), (1, .ref r1), (2, .int a2)]) hx hb dX1_decode_159 hl (k := 6) rfl (by rw [ez_120]; rfl) (by decide) rfl (fun ls hl => ?_)
                  have hz_120 : z_120.toInt = v4_5.toInt + 1 := by rw [ez_120]; exact jb_iadd2 (rfl) (by decide) (by omega)
                  refine lv_goto (tgt := 10) hx hb dX1_decode_162 (by decide) ?_
                  exact L10 z_67 z_120 z_115 fs_113 _ _ hh_119 (by refine ⟨by omega, by omega, by omega, by omega, by omega, by omega, ?_⟩; first | (exfalso; omega) | (exact hi_5_6.twoC (by omega) hr_9_0 (by omega) (jOth.ho2 (jOth.mk (n := 1500) ho_101 rfl (by omega)) (jOth.mk (n := 1500) ho_110 rfl (by omega)) rfl (by omega) (by omega)) (((jOth.mk (n := 1500) ho_110 rfl (by omega) : jOth 1500 _ _ _) _ (by omega) (by omega) (by omega)).trans hv_101) (jSoA hv_110 (by omega)) (by omega) (by omega) (by omega) (by omega))) (by omega) _ (lv_sub hl [4, 5, 6, 2, 0] rfl)
              · skip
                have c_96' : z_95.toInt > 1500 := jb_le_n (rfl) ((by decide)) c_96
                refine lv_iconst (v := 0) hx hb dX1_decode_73 (by decide) ?_
                rw [hQ]
                exact W.zret (v := 0) hx hb hr (jb_nz (Or.inl rfl)) (fun t ht hW => ⟨⟨0, (wl_5, ft_5), rfl, ⟨(Or.inl rfl), by (try dsimp only); refine ⟨by omega, by omega, by omega, ?_⟩; exact Or.inl ⟨by omega, hi_5_6.long (by omega) hr_9_0 (s := 2) (by omega) (by omega)⟩⟩, ⟨⟨hh_8.rt (M1 := [(r0, 3, 3, .int wl_5)]) [0] rfl ht, by rw [ht]; exact hh_8.2.2.2.2.2.2.2.1.sub [0] rfl⟩, by rw [ht]; exact hh_8.2.2.2.2.2.2.2.2.sub (L1 := [(jFcd, jCD dC dI ca G0 (some r0) tq)]) [0] rfl⟩⟩, by rw [ht]; try exact hh_8.1.1, fun q h9 hq => by rw [ht]; try exact hh_8.1.2.1 q h9 hq⟩) hh_8.1.2.2 dX1_decode_74
  exact L10 (((a2.toInt - (0 : Int32).toInt).toNat : Int) : Int).toNat.succ 0 0 0 ft _ _ (hh_4.sub (L1 := [(r0, 3, 3, .int 0), (r0, 3, 2, .ref tx_)]) [0, 1] rfl (M1 := [(tx_, 173, 1500, ca 1, ft), (r1, 197, 4000, ca 0, fb)]) [1, 0] rfl (I1 := [(jFcd, jCD dC dI ca G0 (some r0) tq)]) [0] rfl) (by refine ⟨by omega, by omega, by omega, by omega, by omega, by omega, jDe.start _ _ _ (by omega) (by omega)⟩) (by omega) _ (lv_sub hl [2, 3, 4, 1, 0] rfl)
set_option maxHeartbeats 4000000 in
set_option maxRecDepth 20000 in
theorem uX11_batchU (l : Launch) (dC : Nat → ClassId) (dI : Nat → Nat → Nat) (ca : Nat → ClassId) (base : Nat) (B : jF) (hB : jBok B) (hAp : jAp (dC, dI)) (hB1 : ∀ n G a H, B 1 n G a H ↔ jOb (dC, dI) 1 3 (F1 n G) a H) (hB2 : ∀ n G a H, B 2 n G a H ↔ jOb (dC, dI) 2 2 (F2 n G) a H) (hB3 : ∀ n G a H, B 3 n G a H ↔ jOb (dC, dI) 3 17 (F3 n G) a H) (hB5 : ∀ n G a H, B 5 n G a H ↔ jOb (dC, dI) 5 4 (F5 n G) a H) (hB7 : ∀ n G a H, B 7 n G a H ↔ jOb (dC, dI) 7 11 (F7 n G) a H) (hB8 : ∀ n G a H, B 8 n G a H ↔ jOb (dC, dI) 8 4 (F8 n G) a H) (hB11 : ∀ n G a H, B 11 n G a H ↔ jOb (dC, dI) 11 9 (F11 n G) a H) (hB12 : ∀ n G a H, B 12 n G a H ↔ jOb (dC, dI) 12 11 (F12b n G) a H) (hB13 : ∀ n G a H, B 13 n G a H ↔ jOb (dC, dI) 13 19 (F13 n G) a H) (hB100 : ∀ n G a H, B 100 n G a H ↔ jAr (dC, dI) (ca 0) (fun j z => True) n a H) (hB101 : ∀ n G a H, B 101 n G a H ↔ jAr (dC, dI) (ca 1) (fun j z => True) n a H) (hB102 : ∀ n G a H, B 102 n G a H ↔ jAl (dC, dI) (ca 2) n a H) (hB132 : ∀ n G a H, B 132 n G a H ↔ jAr (dC, dI) (ca 1) (fun j z => 0 ≤ z.toInt ∧ z.toInt ≤ 10) n a H) (hB133 : ∀ n G a H, B 133 n G a H ↔ jAr (dC, dI) (ca 1) (fun j z => 0 ≤ z.toInt ∧ z.toInt ≤ 8192) n a H) (hB171 : ∀ n G a H, B 171 n G a H ↔ jAr (dC, dI) (ca 1) (fun j z => 0 ≤ z.toInt ∧ z.toInt ≤ 1500) n a H) (hB172 : ∀ n G a H, B 172 n G a H ↔ jAr (dC, dI) (ca 1) (fun j z => 0 ≤ z.toInt ∧ z.toInt ≤ 1500) n a H) (hB173 : ∀ n G a H, B 173 n G a H ↔ jAr (dC, dI) (ca 1) (fun j z => True) n a H) (hB174 : ∀ n G a H, B 174 n G a H ↔ jAr (dC, dI) (ca 1) (fun j z => True) n a H) (hB196 : ∀ n G a H, B 196 n G a H ↔ jAr (dC, dI) (ca 0) (fun j z => jBf j z) n a H) (hB197 : ∀ n G a H, B 197 n G a H ↔ jAr (dC, dI) (ca 0) (fun j z => jBf j z) n a H) (hB210 : ∀ n G a H, B 210 n G a H ↔ jAq (dC, dI) (ca 6) (jQn 11 0) n G a H) (hB211 : ∀ n G a H, B 211 n G a H ↔ jAq (dC, dI) (ca 7) (jQh) n G a H) (hB214 : ∀ n G a H, B 214 n G a H ↔ jAq (dC, dI) (ca 7) (jQg) n G a H) (hB221 : ∀ n G a H, B 221 n G a H ↔ jAq (dC, dI) (ca 9) (jQn 3 0) n G a H) (hB280 : ∀ n G a H, B 280 n G a H ↔ jAr (dC, dI) (ca 1) (fun j z => -1 ≤ z.toInt) n a H) (hB290 : ∀ n G a H, B 290 n G a H ↔ jAr (dC, dI) (ca 1) (fun j z => 0 ≤ z.toInt ∧ z.toInt ≤ 3000) n a H) (hB291 : ∀ n G a H, B 291 n G a H ↔ jAr (dC, dI) (ca 1) (fun j z => 0 ≤ z.toInt ∧ z.toInt ≤ 3000) n a H) (hB292 : ∀ n G a H, B 292 n G a H ↔ jAr (dC, dI) (ca 1) (fun j z => 0 ≤ z.toInt ∧ z.toInt ≤ 8191) n a H) (hB293 : ∀ n G a H, B 293 n G a H ↔ jAr (dC, dI) (ca 1) (fun j z => -1 ≤ z.toInt ∧ z.toInt ≤ 8191) n a H) (hB313 : ∀ n G a H, B 313 n G a H ↔ jAq (dC, dI) (ca 8) (jQk 280 80) n G a H) (hB315 : ∀ n G a H, B 315 n G a H ↔ jAqZ (dC, dI) (ca 8) n a H) (G0 : jT) (H0 : Heap) (r0 : Nat) (a1 : Int32) (ta : Nat) (pt : Int32) (tr_ : Nat) (op : Nat) (ph : Nat) (tq : jDtl) (wl : jWl9) (fa : Nat → Int32) (LC LS : Nat) : Met l yX11_batch (jw yX11_batch cX11_batch 5 (some .int)) ({ frames := 71, cells := LC - H0.size, slots := LS - jTot H0, locals := 2283 }) (va_Pc [.ref r0, .int a1] (fun U => U.heap = H0 ∧ jX B base G0 [] H0 ∧ jG dC dI ca base U ∧ jK2 dC dI ca U ∧ jK5 dC dI ca U ∧ jK6 U ∧ jK8 U ∧ G0 r0 = some (13, 0) ∧ G0 ta = some (2, 4000) ∧ G0 tr_ = some (197, 4000) ∧ G0 op = some (1, 1) ∧ jP (dC, dI) G0 H0 [(r0, 13, 0, .ref ta), (ta, 2, 1, .int pt), (ta, 2, 0, .ref tr_), (r0, 13, 7, .ref op)] ∧ jMc (dC, dI) G0 H0 [(tr_, 197, 4000, ca 0, fa)] ∧ jIs (dC, dI) G0 H0 [(jFy, jYb dC dI G0), (jFs11, jSef dC dI G0), (jFl, jLs dC dI ca G0 3 none wl), (jFdo, jDcc dC dI ca G0 none ph), (jFcd, jCD dC dI ca G0 none tq)] ∧ H0.size + 8 + 24 * (pt.toInt.toNat + 3) ≤ LC ∧ jTot H0 + 1720 + 185 * (pt.toInt.toNat + 3) ≤ LS ∧ 0 ≤ pt.toInt ∧ pt.toInt ≤ 4000 ∧ jdIv tq wl)) (va_Qi (S := Int32 × Nat × Nat × jDtl × jT) (fun r u => (((a1.toInt < 0 ∨ pt.toInt < a1.toInt) ∧ u.1.toInt = pt.toInt ∨ 0 ≤ a1.toInt ∧ a1.toInt ≤ pt.toInt ∧ u.1.toInt = 0) ∧ u.2.1 ≤ ph + 1500 ∧ u.2.2.1 = pt.toInt - u.1.toInt ∧ jVba (jB8 fa) pt.toInt a1.toInt r.toInt ∧ jdIv u.2.2.2.1 wl ∧ jdCs u.2.2.2.1 wl = jdCs tq wl)) (fun u t => jRa (dC, dI) B base G0 u.2.2.2.2 EX11_batchU H0 (80 + 24 * u.2.2.1) (2275 + 185 * u.2.2.1) [(ta, 2, 1, .int u.1)] t.heap ∧ (jNk [0, 1, 2, 4, 6, 7, 8, 9, 10, 12, 13, 14, 15, 16]) G0 u.2.2.2.2 ∧ jOl (dC, dI) G0 2 [ta] H0 t.heap ∧ jIs (dC, dI) u.2.2.2.2 t.heap [(jFy, jYb dC dI u.2.2.2.2), (jFs11, jSef dC dI u.2.2.2.2), (jFl, jLs dC dI ca u.2.2.2.2 3 none wl), (jFdo, jDcc dC dI ca u.2.2.2.2 none (u.2.1)), (jFcd, jCD dC dI ca u.2.2.2.2 none (u.2.2.2.1))]) (jA base)) (LC - H0.size) (LS - jTot H0) (jA base) := by
  refine Met.ofW (cc := cX11_batch) (maxL := 5) (ret := (some .int)) (by decide) rfl ?_
  intro p e s m args below meth c s₁ Bd hml hv
  obtain ⟨rfl, hH0, hX, hG, hK2, hK5, hK6, hK8, hg_r0, hg_ta, hg_tr_, hg_op, hP0, hM0, hI0, hLC0, hLS0, hp0, hp1, hp2⟩ := hv
  have hK := hG.1
  have hx := Bd.exec
  have hb := Bd.bytes
  have hr := Bd.returns
  have hts := atoms_spec (ws := (jw yX11_batch cX11_batch 5 (some .int))) Bd.pre
  have htw : ∀ w ∈ jWl, w.before _ s = true := fun w h => hts w (List.mem_cons_of_mem _ h)
  have hown : s.vm.findClass RX11 = some m.cls := findClass_of_methodNamed Bd.named
  have hlocks := Bd.notSynchronized
  obtain ⟨Q, hQ⟩ : ∃ Q, Q = MQ below (va_Qi (S := Int32 × Nat × Nat × jDtl × jT) (fun r u => (((a1.toInt < 0 ∨ pt.toInt < a1.toInt) ∧ u.1.toInt = pt.toInt ∨ 0 ≤ a1.toInt ∧ a1.toInt ≤ pt.toInt ∧ u.1.toInt = 0) ∧ u.2.1 ≤ ph + 1500 ∧ u.2.2.1 = pt.toInt - u.1.toInt ∧ jVba (jB8 fa) pt.toInt a1.toInt r.toInt ∧ jdIv u.2.2.2.1 wl ∧ jdCs u.2.2.2.1 wl = jdCs tq wl)) (fun u t => jRa (dC, dI) B base G0 u.2.2.2.2 EX11_batchU H0 (80 + 24 * u.2.2.1) (2275 + 185 * u.2.2.1) [(ta, 2, 1, .int u.1)] t.heap ∧ (jNk [0, 1, 2, 4, 6, 7, 8, 9, 10, 12, 13, 14, 15, 16]) G0 u.2.2.2.2 ∧ jOl (dC, dI) G0 2 [ta] H0 t.heap ∧ jIs (dC, dI) u.2.2.2.2 t.heap [(jFy, jYb dC dI u.2.2.2.2), (jFs11, jSef dC dI u.2.2.2.2), (jFl, jLs dC dI ca u.2.2.2.2 3 none wl), (jFdo, jDcc dC dI ca u.2.2.2.2 none (u.2.1)), (jFcd, jCD dC dI ca u.2.2.2.2 none (u.2.2.2.1))]) (jA base)) ([.ref r0, .int a1] : List Value).toArray s (LC - H0.size) (LS - jTot H0) (jA base) := ⟨_, rfl⟩
  rw [← hQ]
  have hl := lv_entry ([.ref r0, .int a1]) (n := 5) (Nat.le_of_ble_eq_true rfl)
  rw [lg_entry_eq]
  generalize (lg_sl ([.ref r0, .int a1]) ++ List.replicate (5 - (lg_sl ([.ref r0, .int a1])).length) Slot.unset).toArray = ls at hl ⊢
  have hl : lv_has ls 5 [(0, .ref r0), (1, .int a1)] := hl
  generalize hR : (headSpec (jw yX11_batch cX11_batch 5 (some .int)) ({ frames := 71, cells := LC - H0.size, slots := LS - jTot H0, locals := 2283 })).room = R
  subst hH0
  have hh : jSt (dC, dI) B base G0 G0 EX11_batchU s.heap 0 0 [(r0, 13, 0, .ref ta), (ta, 2, 1, .int pt), (ta, 2, 0, .ref tr_), (r0, 13, 7, .ref op)] [(tr_, 197, 4000, ca 0, fa)] [(jFy, jYb dC dI G0), (jFs11, jSef dC dI G0), (jFl, jLs dC dI ca G0 3 none wl), (jFdo, jDcc dC dI ca G0 none ph), (jFcd, jCD dC dI ca G0 none tq)] s.heap [] := jSt.start hX hP0 hM0 hI0
  clear hX hP0
  have hkm2 : ((-2) : Int32).toInt = (-2) := by decide
  have hkm1 : ((-1) : Int32).toInt = (-1) := by decide
  have hk0 : (0 : Int32).toInt = 0 := by decide
  have hk1 : (1 : Int32).toInt = 1 := by decide
  have hly_2_0 := htw (u_lay RX0 TX0 0) (jWc_wsX00 _ (u_in_lay (by decide)))
  have hly_2_1 := htw (u_lay RX0 TX0 1) (jWc_wsX00 _ (u_in_lay (by decide)))
  have hly_3_2 := htw (u_lay RX1 TX1 2) (jWc_wsX10 _ (u_in_lay (by decide)))
  have hly_3_4 := htw (u_lay RX1 TX1 4) (jWc_wsX10 _ (u_in_lay (by decide)))
  have hly_3_5 := htw (u_lay RX1 TX1 5) (jWc_wsX10 _ (u_in_lay (by decide)))
  have hly_3_6 := htw (u_lay RX1 TX1 6) (jWc_wsX10 _ (u_in_lay (by decide)))
  have hly_3_8 := htw (u_lay RX1 TX1 8) (jWc_wsX10 _ (u_in_lay (by decide)))
  have hly_3_9 := htw (u_lay RX1 TX1 9) (jWc_wsX10 _ (u_in_lay (by decide)))
  have hly_7_1 := htw (u_lay RX5 TX5 1) (jWc_wsX50 _ (u_in_lay (by decide)))
  have hly_7_2 := htw (u_lay RX5 TX5 2) (jWc_wsX50 _ (u_in_lay (by decide)))
  have hly_13_0 := htw (u_lay RX11 TX11 0) (jWc_wsX110 _ (u_in_lay (by decide)))
  have hly_13_5 := htw (u_lay RX11 TX11 5) (jWc_wsX110 _ (u_in_lay (by decide)))
  have hly_13_15 := htw (u_lay RX11 TX11 15) (jWc_wsX110 _ (u_in_lay (by decide)))
  have hly_13_16 := htw (u_lay RX11 TX11 16) (jWc_wsX110 _ (u_in_lay (by decide)))
  have hly_13_18 := htw (u_lay RX11 TX11 18) (jWc_wsX110 _ (u_in_lay (by decide)))
  have hlk_14 := (htw (.fieldLink RX11 14 "ProofServer" "tape" "LProofServer$Bytes;") (jWr_1 _ (List.mem_of_getElem? (i := 15) rfl)))
  have hlk_92 := (htw (.fieldLink RX11 92 "ProofServer$Bytes" "count" "I") (jWr_15 _ (List.mem_of_getElem? (i := 18) rfl)))
  have hlk_82 := (htw (.fieldLink RX11 82 "ProofServer" "spare" "LProofServer$Document;") (jWr_2 _ (List.mem_of_getElem? (i := 22) rfl)))
  have hlk_98 := (htw (.fieldLink RX11 98 "ProofServer$Bytes" "row" "[B") (jWr_17 _ (List.mem_of_getElem? (i := 7) rfl)))
  have hlk_200 := (htw (.fieldLink RX11 200 "ProofServer" "latest" "LProofServer$Document;") (jWr_93 _ (List.mem_of_getElem? (i := 14) rfl)))
  have hlk_89 := (htw (.fieldLink RX11 89 "ProofServer" "shownOf" "I") (jWr_3 _ (List.mem_of_getElem? (i := 0) rfl)))
  have hlk_41 := (htw (.fieldLink RX11 41 "ProofServer" "kernel" "LProofServer$Kernel;") (jWr_2 _ (List.mem_of_getElem? (i := 5) rfl)))
  have hlk_203 := (htw (.fieldLink RX11 203 "ProofServer$Kernel" "syntax" "LProofServer$Syntax;") (jWr_35 _ (List.mem_of_getElem? (i := 16) rfl)))
  have hlk_168 := (htw (.fieldLink RX11 168 "ProofServer$Document" "sentences" "I") (jWr_35 _ (List.mem_of_getElem? (i := 4) rfl)))
  have hlk_174 := (htw (.fieldLink RX11 174 "ProofServer$Document" "text" "[I") (jWr_77 _ (List.mem_of_getElem? (i := 15) rfl)))
  have hlk_182 := (htw (.fieldLink RX11 182 "ProofServer$Document" "starts" "[I") (jWr_40 _ (List.mem_of_getElem? (i := 13) rfl)))
  have hlk_185 := (htw (.fieldLink RX11 185 "ProofServer$Document" "ends" "[I") (jWr_40 _ (List.mem_of_getElem? (i := 14) rfl)))
  have hlk_178 := (htw (.fieldLink RX11 178 "ProofServer$Document" "behind" "[LProofServer$State;") (jWr_39 _ (List.mem_of_getElem? (i := 23) rfl)))
  have hlk_217 := (htw (.fieldLink RX11 217 "ProofServer$Kernel" "start" "LProofServer$State;") (jWr_30 _ (List.mem_of_getElem? (i := 6) rfl)))
  have hlk_225 := (htw (.fieldLink RX11 225 "ProofServer$Document" "early" "[I") (jWr_93 _ (List.mem_of_getElem? (i := 15) rfl)))
  have hrg_a1 := jb_rng a1
  have hbs : base ≤ s.heap.size := Nat.le_of_lt (Nat.lt_of_le_of_lt (hh.ab hg_r0).1 (hh.ab hg_r0).2)
  have hRc : R.cells = LC - s.heap.size := by rw [← hR]; rfl
  have hRs : R.slots = LS - jTot s.heap := by rw [← hR]; rfl
  have hh_1 := hh.addI (jOl.ie (dC := dC) (dI := dI) (G0 := G0) (k := 2) (rs := [ta]) (H0 := s.heap) (F := [(2, 0), (2, 1)]) (C := RX0) (T := TX0) (N := 2) rfl (by decide) hh.2.2.2.2.1 (jOl.rf))
  clear hh
  have hel9 := jLs.el (hh_1.iv 3 rfl) hg_op hh_1.2.1 rfl hB221
  have hpIV := hp2
  refine lv_iload_n hx hb dX11_batch_0 rfl (lv_at hl 1 rfl) ?_
  refine lv_if_lt (tgt := 15) hx hb dX11_batch_1 (by decide) (fun c_2 => ?_) (fun c_2 => ?_)
  · skip
    have c_2' : a1.toInt < 0 := jb_lt (rfl) ((by decide)) c_2
    obtain ⟨hfi9, hfs9⟩ : jdIv tq wl ∧ jdCs tq wl = jdCs tq wl := ⟨hpIV, rfl⟩
    refine lv_iconst (v := (-1)) hx hb dX11_batch_15 (by decide) ?_
    have hsz_3 := hh_1.2.2.2.2.2.1
    have htt_3 := hh_1.2.2.2.2.2.2.1
    refine W.room (fun hrc_3 hrs_3 => ?_)
    refine W.widen (k := LC - s.heap.size) (n := LS - jTot s.heap) (by omega) (by omega) ?_
    rw [hQ]
    exact W.iret (v := (-1)) hx hb hr (fun t ht hW => ⟨⟨(-1), (pt, ph, (pt.toInt.toNat - (pt.toInt : Int).toNat), tq, G0), rfl, by skip; (try dsimp only); refine ⟨by omega, by omega, by omega, ?_, hfi9, hfs9⟩; exact Or.inl ⟨by omega, by omega⟩, ⟨hh_1.ra (by first | (simp only; omega) | omega) (by first | (simp only; omega) | omega) (M1 := [(ta, 2, 1, .int pt)]) [1] rfl ht, jNk.rf, by rw [ht]; exact hh_1.iv 0 rfl, by rw [ht]; exact hh_1.2.2.2.2.2.2.2.2.sub (L1 := [(jFy, jYb dC dI G0), (jFs11, jSef dC dI G0), (jFl, jLs dC dI ca G0 3 none wl), (jFdo, jDcc dC dI ca G0 none ph), (jFcd, jCD dC dI ca G0 none tq)]) [1, 2, 3, 4, 5] rfl⟩⟩, by rw [ht]; try exact hh_1.1.1, fun q h9 hq => by rw [ht]; try exact hh_1.1.2.1 q h9 hq⟩) hh_1.1.2.2 dX11_batch_16
  · skip
    have c_2' : a1.toInt ≥ 0 := jb_lt_n (rfl) ((by decide)) c_2
    refine lv_iload_n hx hb dX11_batch_4 rfl (lv_at hl 1 rfl) ?_
    refine lv_aload_n hx hb dX11_batch_5 rfl (lv_at hl 0 rfl) ?_
    refine j7_read hx hb hown hK (C := RX11) (T := TX11) (N := 19) rfl hly_13_0 hlk_14 (hh_1.at 0 rfl) dX11_batch_6 ?_
    refine j7_read hx hb hown hK (C := RX0) (T := TX0) (N := 2) rfl hly_2_1 hlk_92 (hh_1.at 1 rfl) dX11_batch_9 ?_
    refine lv_icmp_le (tgt := 17) hx hb dX11_batch_12 (by decide) (fun c_4 => ?_) (fun c_4 => ?_)
    · skip
      have c_4' : a1.toInt ≤ pt.toInt := jb_le (rfl) (rfl) c_4
      refine lv_aload_n hx hb dX11_batch_17 rfl (lv_at hl 0 rfl) ?_
      refine j7_read hx hb hown hK (C := RX11) (T := TX11) (N := 19) rfl hly_13_0 hlk_14 (hh_1.at 0 rfl) dX11_batch_18 ?_
      refine lv_iconst (v := 0) hx hb dX11_batch_21 (by decide) ?_
      have hd_6 := hh_1.iv 0 rfl
      have hd_7 := hh_1.iv 1 rfl
      have hh_8 := hh_1.sub (L1 := [(r0, 13, 0, .ref ta), (ta, 2, 1, .int pt), (ta, 2, 0, .ref tr_), (r0, 13, 7, .ref op)]) [0, 1, 2, 3] rfl (M1 := [(tr_, 197, 4000, ca 0, fa)]) [0] rfl (I1 := [(jFs11, jSef dC dI G0), (jFl, jLs dC dI ca G0 3 none wl), (jFdo, jDcc dC dI ca G0 none ph), (jFcd, jCD dC dI ca G0 none tq)]) [2, 3, 4, 5] rfl
      clear hh_1
      refine j7_putX hx hb hown hK hh_8 hB hAp hB2 (C := RX0) (T := TX0) (N := 2) rfl (by decide) hg_ta (i := 1) (by decide) hly_2_1 rfl hlk_92 rfl (ty := .int) (v := .int 0) (by decide +kernel) rfl rfl (⟨_, rfl, by omega, by omega, by omega⟩) rfl (L1 := [(r0, 13, 0, .ref ta), (ta, 2, 0, .ref tr_), (r0, 13, 7, .ref op)]) [0, 2, 3] rfl rfl rfl dX11_batch_22 (fun H_5 locs_5 hr_5 hh_5 => ?_)
      clear hh_8
      have hd_7n := jYb.put hd_7 hr_5 hg_ta (fun h9 => by cases h9)
      have hd_6n := jOl.put hd_6 hr_5 (by simp)
      have hh_9 := hh_5.addI (jYb.ie hd_7n)
      clear hh_5
      have hh_10 := hh_9.addI (jOl.ie (dC := dC) (dI := dI) (G0 := G0) (k := 2) (rs := [ta]) (H0 := s.heap) (F := [(2, 0), (2, 1)]) (C := RX0) (T := TX0) (N := 2) rfl (by decide) hh_9.2.2.2.2.1 (hd_6n))
      clear hh_9
      clear hd_6 hd_6n hd_7 hd_7n hr_5
      refine lv_aload_n hx hb dX11_batch_25 rfl (lv_at hl 0 rfl) ?_
      obtain ⟨v_11, hv_11, hh_12⟩ := hh_10.pin (C := RX11) (T := TX11) (N := 19) hB13 rfl (by decide) hg_r0 (i := 15) (by decide) rfl
      clear hh_10
      obtain ⟨spare_13, rfl, hg_spare_13⟩ := hv_11
      refine j7_read hx hb hown hK (C := RX11) (T := TX11) (N := 19) rfl hly_13_15 hlk_82 (hh_12.at 0 rfl) dX11_batch_26 ?_
      refine lv_astore_n (lv' := [(2, .ref spare_13), (0, .ref r0), (1, .int a1)]) hx hb dX11_batch_29 rfl hl (by decide) rfl (fun ls hl => ?_)
      have hnsp9 : ∀ i : Nat, (i : Int) < wl.1 → wl.2 i ≠ some spare_13 := fun i hi q => absurd ((hel9 i _ hi q).symm.trans hg_spare_13) (by decide)
      obtain ⟨⟨ut_14, uz_14, hgt_14, hgz_14, huP_14, huM_14, hul9_14⟩, hU_14⟩ := jCD.opn (hh_12.iv 5 rfl) hg_spare_13
      have hh_15 := ((hh_12.sub (L1 := [(r0, 13, 15, .ref spare_13), (ta, 2, 1, .int 0), (r0, 13, 0, .ref ta), (ta, 2, 0, .ref tr_), (r0, 13, 7, .ref op)]) [0, 1, 2, 3, 4] rfl (M1 := [(tr_, 197, 4000, ca 0, fa)]) [0] rfl (I1 := [([(2, 0), (2, 1)], jOl (dC, dI) G0 2 [ta] s.heap), (jFy, jYb dC dI G0), (jFs11, jSef dC dI G0), (jFl, jLs dC dI ca G0 3 none wl), (jFdo, jDcc dC dI ca G0 none ph), (jFcd, jCD dC dI ca G0 none tq)]) [0, 1, 2, 3, 4, 5] rfl).more huP_14).moreM huM_14
      clear hh_12
      have hh_16 := hh_15.sub (L1 := [(spare_13, 3, 2, .ref ut_14), (spare_13, 3, 1, .int (tq.ve spare_13)), (spare_13, 3, 3, .int (tq.ln spare_13)), (spare_13, 3, 0, .ref uz_14), (r0, 13, 15, .ref spare_13), (ta, 2, 1, .int 0), (r0, 13, 0, .ref ta), (ta, 2, 0, .ref tr_), (r0, 13, 7, .ref op)]) [0, 1, 2, 3, 4, 5, 6, 7, 8] rfl (M1 := [(ut_14, 173, 1500, ca 1, (tq.tx spare_13)), (uz_14, 174, (tq.ul spare_13), ca 1, (tq.ux spare_13)), (tr_, 197, 4000, ca 0, fa)]) [0, 1, 2] rfl (I1 := [([(2, 0), (2, 1)], jOl (dC, dI) G0 2 [ta] s.heap), (jFy, jYb dC dI G0), (jFs11, jSef dC dI G0), (jFl, jLs dC dI ca G0 3 none wl), (jFdo, jDcc dC dI ca G0 none ph)]) [0, 1, 2, 3, 4] rfl
      clear hh_15
      have hh_17 := hh_16.addI (jCD.ie hU_14)
      clear hh_16
      refine lv_aload_n hx hb dX11_batch_30 rfl (lv_at hl 0 rfl) ?_
      refine lv_aload_n hx hb dX11_batch_31 rfl (lv_at hl 1 rfl) ?_
      refine j7_read hx hb hown hK (C := RX11) (T := TX11) (N := 19) rfl hly_13_0 hlk_14 (hh_17.at 6 rfl) dX11_batch_32 ?_
      refine j7_read hx hb hown hK (C := RX0) (T := TX0) (N := 2) rfl hly_2_0 hlk_98 (hh_17.at 7 rfl) dX11_batch_35 ?_
      refine lv_iload_n hx hb dX11_batch_38 rfl (lv_at hl 2 rfl) ?_
      have hsz_18 := hh_17.2.2.2.2.2.1
      have htt_18 := hh_17.2.2.2.2.2.2.1
      refine W.room (fun hrc_18 hrs_18 => ?_)
      refine va_calli (A0 := jA base) (H0 := s.heap) (va_runV (As := [.ref tr_, .int a1]) (rest := []) ⟨hx, hb, hml, hown, hts⟩ (uX1_decodeU l dC dI ca base B hB hAp hB3 hB100 hB173 hB197 G0 H_5 spare_13 tr_ a1 1 ut_14 tq fa (tq.tx spare_13)) (cwV 2 hts (jgV (jWr_93 _ (List.mem_of_getElem? (i := 16) rfl)) (jWr_93 _ (List.mem_of_getElem? (i := 17) rfl)) (jWr_93 _ (List.mem_of_getElem? (i := 18) rfl)) (jWr_2 _ (List.mem_of_getElem? (i := 21) rfl)) (jWr_93 _ (List.mem_of_getElem? (i := 19) rfl))) rfl rfl rfl (by decide +kernel) ⟨by rw [← hR]; exact Nat.le_of_ble_eq_true rfl, by rw [← hR]; exact Nat.le_of_ble_eq_true rfl⟩) ⟨fun a U g mk q => by obtain ⟨q0, q1, q2, qK, q10, q11, q12, q13, q14, q15, q16⟩ := q; exact ⟨q0, q1, q2, jG.calling g mk a qK, q10, q11, q12, q13, q14, q15, q16⟩, hh_17.recv (C := RX1) (T := TX1) (N := 17) hB3 rfl (by decide) hg_spare_13 hK, fun U hU hW => ⟨rfl, hU, hh_17.2.1, hG.step hW hU hh_17.1, hg_spare_13, hg_tr_, hgt_14, (hh_17.2.2.1.sub (L1 := [(spare_13, 3, 2, .ref ut_14)]) [0] rfl), (hh_17.2.2.2.2.2.2.2.1.sub (L1 := [(tr_, 197, 4000, ca 0, fa), (ut_14, 173, 1500, ca 1, (tq.tx spare_13))]) [2, 0] rfl), (hh_17.2.2.2.2.2.2.2.2.sub (L1 := [(jFcd, jCD dC dI ca G0 (some spare_13) tq)]) [0] rfl), ⟨(by first | (with_reducible assumption) | omega | rfl | fail), (by first | (with_reducible assumption) | omega | rfl | fail)⟩⟩⟩ rfl rfl hl.1 rfl (lv_room (Nat.le_of_ble_eq_true rfl)) dX11_batch_39 ⟨by rw [hRc]; show _ + 0 ≤ _; omega, by rw [hRs]; show _ + 0 ≤ _; omega⟩) hh_17.1 (fun q _ h => h) (fun q h => h) (fun r_19 u_18 t_18 H_18 locs_18 ht_18 hvm_18 hr_19 hb_18 hz_18 hk_18 hS_18 => ?_)
      obtain ⟨ql_18, gt_18⟩ := u_18
      rw [ht_18] at hb_18
      obtain ⟨hb_18, hbE_18⟩ := hb_18
      obtain ⟨⟨hb_181, hb_182, hb_183, hb_184, hb_185⟩, hb_186⟩ := hb_18
      have hh_18 : jSt (dC, dI) B base G0 G0 EX11_batchU s.heap 0 0 [(spare_13, 3, 3, .int ql_18), (spare_13, 3, 2, .ref ut_14), (spare_13, 3, 1, .int (tq.ve spare_13)), (spare_13, 3, 0, .ref uz_14), (r0, 13, 15, .ref spare_13), (ta, 2, 1, .int 0), (r0, 13, 0, .ref ta), (ta, 2, 0, .ref tr_), (r0, 13, 7, .ref op)] [(ut_14, 173, 1500, ca 1, gt_18), (uz_14, 174, (tq.ul spare_13), ca 1, (tq.ux spare_13)), (tr_, 197, 4000, ca 0, fa)] [(jFcd, jCD dC dI ca G0 (some spare_13) tq), ([(2, 0), (2, 1)], jOl (dC, dI) G0 2 [ta] s.heap), (jFy, jYb dC dI G0), (jFs11, jSef dC dI G0), (jFl, jLs dC dI ca G0 3 none wl), (jFdo, jDcc dC dI ca G0 none ph)] H_18 locs_18 := (((hh_17.call hb_181 hb_182 hb_183 hb_184 hS_18 rfl (L1 := [(spare_13, 3, 2, .ref ut_14), (spare_13, 3, 1, .int (tq.ve spare_13)), (spare_13, 3, 0, .ref uz_14), (r0, 13, 15, .ref spare_13), (ta, 2, 1, .int 0), (r0, 13, 0, .ref ta), (ta, 2, 0, .ref tr_), (r0, 13, 7, .ref op)]) [0, 1, 3, 4, 5, 6, 7, 8] rfl rfl (M1 := [(uz_14, 174, (tq.ul spare_13), ca 1, (tq.ux spare_13)), (tr_, 197, 4000, ca 0, fa)]) [1, 2] rfl rfl (I1 := [([(2, 0), (2, 1)], jOl (dC, dI) G0 2 [ta] s.heap), (jFy, jYb dC dI G0), (jFs11, jSef dC dI G0), (jFl, jLs dC dI ca G0 3 none wl), (jFdo, jDcc dC dI ca G0 none ph)]) [1, 2, 3, 4, 5] rfl rfl).more hb_185).moreM hb_186).addIs hbE_18
      clear hh_17 ht_18 hvm_18 hz_18 hk_18 hS_18 hb_181 hb_182 hb_183 hb_184 hb_185
      clear hb_186
      clear  hbE_18
      try simp only at hr_19
      obtain ⟨hr_19b, hr_19p⟩ := hr_19
      obtain ⟨hr_19p_0, hr_19p_1, hr_19p_2, hr_19p_3⟩ := hr_19p
      have hr_19' := jb_01 hr_19b
      refine lv_if_ne (tgt := 48) hx hb dX11_batch_42 (by decide) (fun c_20 => ?_) (fun c_20 => ?_)
      · skip
        have c_20' : r_19.toInt ≠ 0 := jb_ne (rfl) ((by decide)) c_20
        have hF_21 := jCD.full (hh_18.iv 0 rfl) hg_spare_13 (hh_18.at 1 rfl) (hh_18.at 2 rfl) (hh_18.at 0 rfl) (hh_18.at 3 rfl) (hh_18.2.2.2.2.2.2.2.1.sub (L1 := [(ut_14, 173, 1500, ca 1, gt_18), (uz_14, 174, (tq.ul spare_13), ca 1, (tq.ux spare_13))]) [0, 1] rfl) (by omega)
        obtain ⟨t_21, ht_22⟩ : ∃ q : jDtl, q = tq.put spare_13 (tq.ve spare_13) ql_18 gt_18 (tq.ul spare_13) (tq.ux spare_13) := ⟨_, rfl⟩
        rw [← ht_22] at hF_21
        have hh_23 := hh_18.sub (L1 := [(spare_13, 3, 3, .int ql_18), (spare_13, 3, 2, .ref ut_14), (spare_13, 3, 1, .int (tq.ve spare_13)), (spare_13, 3, 0, .ref uz_14), (r0, 13, 15, .ref spare_13), (ta, 2, 1, .int 0), (r0, 13, 0, .ref ta), (ta, 2, 0, .ref tr_), (r0, 13, 7, .ref op)]) [0, 1, 2, 3, 4, 5, 6, 7, 8] rfl (M1 := [(ut_14, 173, 1500, ca 1, gt_18), (uz_14, 174, (tq.ul spare_13), ca 1, (tq.ux spare_13)), (tr_, 197, 4000, ca 0, fa)]) [0, 1, 2] rfl (I1 := [([(2, 0), (2, 1)], jOl (dC, dI) G0 2 [ta] s.heap), (jFy, jYb dC dI G0), (jFs11, jSef dC dI G0), (jFl, jLs dC dI ca G0 3 none wl), (jFdo, jDcc dC dI ca G0 none ph)]) [1, 2, 3, 4, 5] rfl
        clear hh_18
        have hh_24 := hh_23.addI (jCD.ie hF_21)
        clear hh_23
        refine lv_aload_n hx hb dX11_batch_48 rfl (lv_at hl 1 rfl) ?_
        refine lv_aload_n hx hb dX11_batch_49 rfl (lv_at hl 1 rfl) ?_
        obtain ⟨v_25, hv_25, hh_26⟩ := hh_24.pin (C := RX11) (T := TX11) (N := 19) hB13 rfl (by decide) hg_r0 (i := 16) (by decide) rfl
        clear hh_24
        rcases hv_25 with rfl | ⟨latest_27, rfl, hg_latest_27⟩
        · refine j7_read hx hb hown hK (C := RX11) (T := TX11) (N := 19) rfl hly_13_16 hlk_200 (hh_26.at 0 rfl) dX11_batch_50 ?_
          refine lv_ifnonnullN hx hb dX11_batch_53 ?_
          have hsz_28 := hh_26.2.2.2.2.2.1
          have htt_28 := hh_26.2.2.2.2.2.2.1
          refine j7_newo (k := 3) (C := RX1) (T := TX1) (N := 17) (fs := [.null, .int 0, .null, .int 0, .int 0, .null, .null, .null, .null, .null, .int 0, .null, .null, .int 0, .int 0, .int 0, .int 0]) hx hb htw jWc_wsX10 (fun k => ([(.array .int), .int, (.array .int), .int, .int, (.array .int), (.array .int), (.array .int), (.array .int), (.array (.object "ProofServer$State")), .int, (.array .int), (.object "ProofServer$State"), .int, .int, .int, .int] : List FieldType).getD k .int) (by decide +kernel) hown (htw (.classLink RX11 71 RX1) (jWr_2 _ (List.mem_of_getElem? (i := 17) rfl))) (htw (.instantiable RX1 17) (jWr_2 _ (List.mem_of_getElem? (i := 20) rfl))) (htw (.initialized RX1) (jWr_2 _ (List.mem_of_getElem? (i := 21) rfl))) hK rfl (fun j hj => by rcases (by omega : j = 0 ∨ j = 1 ∨ j = 2 ∨ j = 3 ∨ j = 4 ∨ j = 5 ∨ j = 6 ∨ j = 7 ∨ j = 8 ∨ j = 9 ∨ j = 10 ∨ j = 11 ∨ j = 12 ∨ j = 13 ∨ j = 14 ∨ j = 15 ∨ j = 16) with rfl | rfl | rfl | rfl | rfl | rfl | rfl | rfl | rfl | rfl | rfl | rfl | rfl | rfl | rfl | rfl | rfl <;> rfl) hh_26 hB (by rw [hRc]; omega) (by rw [hRs]; omega) dX11_batch_56 (fun H_28 hraw_28 hfr_28 hnr_28 hh_28 => ?_)
          have hke_28 : jKe G0 G0 H_18 H_28 := jKe.raw hfr_28
          have hbr_28 : base ≤ H_18.size := Nat.le_trans hbs hh_26.1.1
          have hsy_28 : s.heap.size ≤ H_18.size := hh_26.1.1
          clear hh_26
          refine lv_dup hx hb dX11_batch_59 rfl ?_
          have hnin9 : ∀ i : Nat, (i : Int) < wl.1 → wl.2 i ≠ some H_18.size := fun i hi q => hnr_28 _ (hel9 i _ hi q)
          have hsz_29 := hh_28.2.2.2.2.2.1
          have htt_29 := hh_28.2.2.2.2.2.2.1
          refine W.room (fun hrc_29 hrs_29 => ?_)
          refine va_callv (A0 := jA base) (H0 := s.heap) (va_runIN (As := []) (rest := [.ref H_18.size, .ref r0]) ⟨hx, hb, hml, hown, hts⟩ (uX1_initU l dC dI ca base B hB hAp hB3 hB11 hB101 hB171 hB172 hB173 hB174 hB210 G0 H_28 H_18.size 1 (ph) t_21 LC LS) ⟨va_cnB 0 hts (jgW (jWr_10 _ (List.mem_of_getElem? (i := 3) rfl))) rfl rfl rfl (hG.2.2.1 RX11 81 yX1_init "ProofServer" (List.mem_of_getElem? (i := 434) (by decide +kernel))) (htw (.initialized RX1) (jWr_2 _ (List.mem_of_getElem? (i := 21) rfl))) (by decide +kernel) ⟨by rw [← hR]; exact Nat.le_of_ble_eq_true rfl, by rw [← hR]; exact Nat.le_of_ble_eq_true rfl⟩, rfl, htw (.instanceMethod yX1_init) (jWr_10 _ (List.mem_of_getElem? (i := 2) rfl))⟩ ⟨fun a U g mk q => by obtain ⟨q0, q1, q2, qK, q10, q11, q12, q13, q14, q15, q16, q17⟩ := q; exact ⟨q0, q1, q2, jG.calling g mk a qK, (va_K.moved (Vm.Alike.refl U.vm) q10), (jK6.moved (Vm.Alike.refl U.vm) q11), q12, q13, q14, q15, q16, q17⟩, fun U hU hW => ⟨rfl, hU, hh_28.2.1, hG.step hW hU hh_28.1, va_K.moved hW.alike hK2, jK6.moved hW.alike hK6, hraw_28, hnr_28, hbr_28, jP.nil, (hh_28.2.2.2.2.2.2.2.2.sub (L1 := [(jFdo, jDcc dC dI ca G0 none ph), (jFcd, jCD dC dI ca G0 none t_21)]) [5, 0] rfl), (by omega), (by omega), trivial⟩⟩ rfl rfl hl.1 rfl (lv_room (Nat.le_of_ble_eq_true rfl)) dX11_batch_60 ⟨by rw [hRc]; omega, by rw [hRs]; omega⟩) hh_28.1 (fun q _ h => h) (fun q h => h) (fun u_29 t_29 H_29 locs_29 ht_29 hvm_29 hr_30 hb_29 hz_29 hk_29 hS_29 => ?_)
          obtain ⟨qk_29, qs_29, ql_29, qtd_29, G_29⟩ := u_29
          rw [ht_29] at hb_29
          simp only at hb_29
          obtain ⟨⟨hb_291, hb_292, hb_293, hb_294, hb_295, hb_296⟩, hN_29, hgc_29, hbX_29, hbE_29⟩ := hb_29
          have hM_29 := hN_29
          have hN_29 : (jNk [0, 1, 2, 4, 6, 7, 8, 9, 10, 12, 13, 14, 15, 16]) G0 G_29 := hN_29.sub (by decide)
          have hh_29 : jSt (dC, dI) B base G0 G_29 EX11_batchU s.heap ((0 + 1) + (7)) ((0 + 17) + (1700)) [(H_18.size, 3, 10, .int qk_29), (H_18.size, 3, 4, .int qs_29), (H_18.size, 3, 3, .int ql_29), (r0, 13, 16, .null), (spare_13, 3, 3, .int ql_18), (spare_13, 3, 2, .ref ut_14), (spare_13, 3, 1, .int (tq.ve spare_13)), (spare_13, 3, 0, .ref uz_14), (r0, 13, 15, .ref spare_13), (ta, 2, 1, .int 0), (r0, 13, 0, .ref ta), (ta, 2, 0, .ref tr_), (r0, 13, 7, .ref op)] [(ut_14, 173, 1500, ca 1, gt_18), (uz_14, 174, (tq.ul spare_13), ca 1, (tq.ux spare_13)), (tr_, 197, 4000, ca 0, fa)] [([(2, 0), (2, 1)], jOl (dC, dI) G0 2 [ta] s.heap), (jFy, jYb dC dI G0), (jFs11, jSef dC dI G0), (jFl, jLs dC dI ca G0 3 none wl)] H_29 locs_29 := (hh_28.callG hb_291 hb_292 hb_293 hb_294 hb_295 hS_29 rfl (L1 := [(r0, 13, 16, .null), (spare_13, 3, 3, .int ql_18), (spare_13, 3, 2, .ref ut_14), (spare_13, 3, 1, .int (tq.ve spare_13)), (spare_13, 3, 0, .ref uz_14), (r0, 13, 15, .ref spare_13), (ta, 2, 1, .int 0), (r0, 13, 0, .ref ta), (ta, 2, 0, .ref tr_), (r0, 13, 7, .ref op)]) [0, 1, 2, 3, 4, 5, 6, 7, 8, 9] rfl rfl (M1 := [(ut_14, 173, 1500, ca 1, gt_18), (uz_14, 174, (tq.ul spare_13), ca 1, (tq.ux spare_13)), (tr_, 197, 4000, ca 0, fa)]) [0, 1, 2] rfl rfl (I1 := [([(2, 0), (2, 1)], jOl (dC, dI) G0 2 [ta] s.heap), (jFy, jYb dC dI G0), (jFs11, jSef dC dI G0), (jFl, jLs dC dI ca G0 3 none wl)]) [1, 2, 3, 4] rfl rfl).more hb_296
          have hNn_29 : (jNk [0, 1, 2, 4, 6, 7, 8, 9, 10, 12, 13, 14, 15, 16]) G0 G_29 := (jNk.rf).tr hN_29
          have hg_31 := hb_292 _ _ hg_spare_13
          have hg_32 := hb_292 _ _ hg_r0
          have hg_33 := hb_292 _ _ hgt_14
          have hg_34 := hb_292 _ _ hgz_14
          have hg_35 := hb_292 _ _ hg_ta
          have hg_36 := hb_292 _ _ hg_tr_
          have hg_37 := hb_292 _ _ hg_op
          have hd_38 := jYb.grow (hh_29.iv 1 rfl) hb_292 hN_29 (by decide)
          have hh_39 := hh_29.sub (L1 := [(H_18.size, 3, 10, .int qk_29), (H_18.size, 3, 4, .int qs_29), (H_18.size, 3, 3, .int ql_29), (r0, 13, 16, .null), (spare_13, 3, 3, .int ql_18), (spare_13, 3, 2, .ref ut_14), (spare_13, 3, 1, .int (tq.ve spare_13)), (spare_13, 3, 0, .ref uz_14), (r0, 13, 15, .ref spare_13), (ta, 2, 1, .int 0), (r0, 13, 0, .ref ta), (ta, 2, 0, .ref tr_), (r0, 13, 7, .ref op)]) [0, 1, 2, 3, 4, 5, 6, 7, 8, 9, 10, 11, 12] rfl (M1 := [(ut_14, 173, 1500, ca 1, gt_18), (uz_14, 174, (tq.ul spare_13), ca 1, (tq.ux spare_13)), (tr_, 197, 4000, ca 0, fa)]) [0, 1, 2] rfl (I1 := [([(2, 0), (2, 1)], jOl (dC, dI) G0 2 [ta] s.heap), (jFs11, jSef dC dI G0), (jFl, jLs dC dI ca G0 3 none wl)]) [0, 2, 3] rfl
          clear hh_29
          have hh_40 := hh_39.addI (jYb.ie hd_38)
          clear hh_39
          have hd_41 := jSef.grow (hh_40.iv 2 rfl) hb_292 hM_29 (by decide)
          have hh_42 := hh_40.sub (L1 := [(H_18.size, 3, 10, .int qk_29), (H_18.size, 3, 4, .int qs_29), (H_18.size, 3, 3, .int ql_29), (r0, 13, 16, .null), (spare_13, 3, 3, .int ql_18), (spare_13, 3, 2, .ref ut_14), (spare_13, 3, 1, .int (tq.ve spare_13)), (spare_13, 3, 0, .ref uz_14), (r0, 13, 15, .ref spare_13), (ta, 2, 1, .int 0), (r0, 13, 0, .ref ta), (ta, 2, 0, .ref tr_), (r0, 13, 7, .ref op)]) [0, 1, 2, 3, 4, 5, 6, 7, 8, 9, 10, 11, 12] rfl (M1 := [(ut_14, 173, 1500, ca 1, gt_18), (uz_14, 174, (tq.ul spare_13), ca 1, (tq.ux spare_13)), (tr_, 197, 4000, ca 0, fa)]) [0, 1, 2] rfl (I1 := [(jFy, jYb dC dI G_29), ([(2, 0), (2, 1)], jOl (dC, dI) G0 2 [ta] s.heap), (jFl, jLs dC dI ca G0 3 none wl)]) [0, 1, 3] rfl
          clear hh_40
          have hh_43 := hh_42.addI (jSef.ie hd_41)
          clear hh_42
          have hd_44 := jLs.grow (hh_43.iv 3 rfl) hb_292 hN_29 (by decide)
          have hh_45 := hh_43.sub (L1 := [(H_18.size, 3, 10, .int qk_29), (H_18.size, 3, 4, .int qs_29), (H_18.size, 3, 3, .int ql_29), (r0, 13, 16, .null), (spare_13, 3, 3, .int ql_18), (spare_13, 3, 2, .ref ut_14), (spare_13, 3, 1, .int (tq.ve spare_13)), (spare_13, 3, 0, .ref uz_14), (r0, 13, 15, .ref spare_13), (ta, 2, 1, .int 0), (r0, 13, 0, .ref ta), (ta, 2, 0, .ref tr_), (r0, 13, 7, .ref op)]) [0, 1, 2, 3, 4, 5, 6, 7, 8, 9, 10, 11, 12] rfl (M1 := [(ut_14, 173, 1500, ca 1, gt_18), (uz_14, 174, (tq.ul spare_13), ca 1, (tq.ux spare_13)), (tr_, 197, 4000, ca 0, fa)]) [0, 1, 2] rfl (I1 := [(jFs11, jSef dC dI G_29), (jFy, jYb dC dI G_29), ([(2, 0), (2, 1)], jOl (dC, dI) G0 2 [ta] s.heap)]) [0, 1, 2] rfl
          clear hh_43
          have hh_46 := hh_45.addI (jLs.ie hd_44)
          clear hh_45
          have hh_47 := hh_46.addIs hbE_29
          try simp only at hr_30
          obtain ⟨hr_30_0, hr_30_1, hr_30_2, hr_30_3⟩ := hr_30
          refine lv_goto (tgt := 70) hx hb dX11_batch_63 (by decide) ?_
          refine j7_put hx hb hown hK hh_47 hB hAp hB13 (C := RX11) (T := TX11) (N := 19) rfl (by decide) hg_32 (i := 15) (by decide) hly_13_15 rfl hlk_82 rfl (ty := (.object "ProofServer$Document")) (v := .ref H_18.size) (by decide +kernel) rfl rfl (⟨_, rfl, hgc_29⟩) rfl (L1 := [(H_18.size, 3, 10, .int qk_29), (H_18.size, 3, 4, .int qs_29), (H_18.size, 3, 3, .int ql_29), (r0, 13, 16, .null), (spare_13, 3, 3, .int ql_18), (spare_13, 3, 2, .ref ut_14), (spare_13, 3, 1, .int (tq.ve spare_13)), (spare_13, 3, 0, .ref uz_14), (ta, 2, 1, .int 0), (r0, 13, 0, .ref ta), (ta, 2, 0, .ref tr_), (r0, 13, 7, .ref op)]) [0, 1, 2, 3, 4, 5, 6, 7, 9, 10, 11, 12] rfl rfl rfl dX11_batch_70 (fun H_48 locs_48 hh_48 => ?_)
          clear hh_47
          refine lv_aload_n hx hb dX11_batch_73 rfl (lv_at hl 1 rfl) ?_
          refine lv_aload_n hx hb dX11_batch_74 rfl (lv_at hl 0 rfl) ?_
          refine j7_put hx hb hown hK hh_48 hB hAp hB13 (C := RX11) (T := TX11) (N := 19) rfl (by decide) hg_32 (i := 16) (by decide) hly_13_16 rfl hlk_200 rfl (ty := (.object "ProofServer$Document")) (v := .ref spare_13) (by decide +kernel) rfl rfl (Or.inr ⟨_, rfl, hg_31⟩) rfl (L1 := [(r0, 13, 15, .ref H_18.size), (H_18.size, 3, 10, .int qk_29), (H_18.size, 3, 4, .int qs_29), (H_18.size, 3, 3, .int ql_29), (spare_13, 3, 3, .int ql_18), (spare_13, 3, 2, .ref ut_14), (spare_13, 3, 1, .int (tq.ve spare_13)), (spare_13, 3, 0, .ref uz_14), (ta, 2, 1, .int 0), (r0, 13, 0, .ref ta), (ta, 2, 0, .ref tr_), (r0, 13, 7, .ref op)]) [0, 1, 2, 3, 5, 6, 7, 8, 9, 10, 11, 12] rfl rfl rfl dX11_batch_75 (fun H_49 locs_49 hh_49 => ?_)
          clear hh_48
          refine lv_aload_n hx hb dX11_batch_78 rfl (lv_at hl 1 rfl) ?_
          refine lv_bipush (v := (-2)) hx hb dX11_batch_79 (by decide) ?_
          refine j7_put hx hb hown hK hh_49 hB hAp hB13 (C := RX11) (T := TX11) (N := 19) rfl (by decide) hg_32 (i := 18) (by decide) hly_13_18 rfl hlk_89 rfl (ty := .int) (v := .int (-2)) (by decide +kernel) rfl rfl (⟨_, rfl⟩) rfl (L1 := [(r0, 13, 16, .ref spare_13), (r0, 13, 15, .ref H_18.size), (H_18.size, 3, 10, .int qk_29), (H_18.size, 3, 4, .int qs_29), (H_18.size, 3, 3, .int ql_29), (spare_13, 3, 3, .int ql_18), (spare_13, 3, 2, .ref ut_14), (spare_13, 3, 1, .int (tq.ve spare_13)), (spare_13, 3, 0, .ref uz_14), (ta, 2, 1, .int 0), (r0, 13, 0, .ref ta), (ta, 2, 0, .ref tr_), (r0, 13, 7, .ref op)]) [0, 1, 2, 3, 4, 5, 6, 7, 8, 9, 10, 11, 12] rfl rfl rfl dX11_batch_81 (fun H_50 locs_50 hh_50 => ?_)
          clear hh_49
          obtain ⟨yb_51, ye_51, w_51, pho_51, fb_51, fe_51, ps_51, pk_51, vc_51, hgb_51, hge_51, h5_51, h6_51, hd_51, hpq_51, hE_51, hpl_51, hpw_51⟩ := jDcc.opn (hh_50.iv 0 rfl) hg_31
          have hh_53 := hh_50.sub (L1 := [(r0, 13, 18, .int (-2)), (r0, 13, 16, .ref spare_13), (r0, 13, 15, .ref H_18.size), (H_18.size, 3, 10, .int qk_29), (H_18.size, 3, 4, .int qs_29), (H_18.size, 3, 3, .int ql_29), (spare_13, 3, 3, .int ql_18), (spare_13, 3, 2, .ref ut_14), (spare_13, 3, 1, .int (tq.ve spare_13)), (spare_13, 3, 0, .ref uz_14), (ta, 2, 1, .int 0), (r0, 13, 0, .ref ta), (ta, 2, 0, .ref tr_), (r0, 13, 7, .ref op)]) [0, 1, 2, 3, 4, 5, 6, 7, 8, 9, 10, 11, 12, 13] rfl (M1 := [(ut_14, 173, 1500, ca 1, gt_18), (uz_14, 174, (tq.ul spare_13), ca 1, (tq.ux spare_13)), (tr_, 197, 4000, ca 0, fa)]) [0, 1, 2] rfl (I1 := [(jFcd, jCD dC dI ca G_29 none qtd_29), (jFl, jLs dC dI ca G_29 3 none wl), (jFs11, jSef dC dI G_29), (jFy, jYb dC dI G_29), ([(2, 0), (2, 1)], jOl (dC, dI) G0 2 [ta] s.heap)]) [1, 2, 3, 4, 5] rfl
          clear hh_50
          have hh_54 := (hh_53.more (P1 := [(spare_13, 3, 4, .int ps_51), (spare_13, 3, 10, .int pk_51), (spare_13, 3, 5, .ref yb_51), (spare_13, 3, 6, .ref ye_51)]) (jP.cons hg_31 (hd_51.1 _ (List.mem_of_getElem? (i := 0) rfl)).2 (jP.cons hg_31 (hd_51.1 _ (List.mem_of_getElem? (i := 1) rfl)).2 (jP.cons hg_31 h5_51 (jP.cons hg_31 h6_51 jP.nil))))).moreM hd_51.2.1
          have hh_55 := hh_54.addI (jDcc.ie hE_51)
          clear hh_54
          have hps_51 := hd_51.2.2.2
          have hsn_51 := hd_51.2.2.1
          obtain ⟨v_56, hv_56, hh_51⟩ := hh_55.pin (C := RX1) (T := TX1) (N := 17) hB3 rfl (by decide) hg_31 (i := 11) (by decide) rfl
          have hvq_51 : vc_51 = v_56 := jf.uniq (hd_51.1 _ (List.mem_of_getElem? (i := 2) rfl)).2 (hh_51.at 0 rfl)
          subst hvq_51
          clear hh_55
          rcases hv_56 with rfl | ⟨chk_57, nchk_57, rfl, hg_chk_57, hlen_chk_57⟩
          · skip
            refine lv_aload_n hx hb dX11_batch_84 rfl (lv_at hl 0 rfl) ?_
            refine lv_aload_n hx hb dX11_batch_85 rfl (lv_at hl 1 rfl) ?_
            obtain ⟨v_59, hv_59, hh_60⟩ := hh_51.pin (C := RX11) (T := TX11) (N := 19) hB13 rfl (by decide) hg_32 (i := 5) (by decide) rfl
            clear hh_51
            obtain ⟨kernel_61, rfl, hg_kernel_61⟩ := hv_59
            refine j7_read hx hb hown hK (C := RX11) (T := TX11) (N := 19) rfl hly_13_5 hlk_41 (hh_60.at 0 rfl) dX11_batch_86 ?_
            obtain ⟨v_62, hv_62, hh_63⟩ := hh_60.pin (C := RX5) (T := TX5) (N := 11) hB7 rfl (by decide) hg_kernel_61 (i := 1) (by decide) rfl
            clear hh_60
            obtain ⟨syntax_64, rfl, hg_syntax_64⟩ := hv_62
            refine j7_read hx hb hown hK (C := RX5) (T := TX5) (N := 11) rfl hly_7_1 hlk_203 (hh_63.at 0 rfl) dX11_batch_89 ?_
            have hsz_65 := hh_63.2.2.2.2.2.1
            have htt_65 := hh_63.2.2.2.2.2.2.1
            refine W.room (fun hrc_65 hrs_65 => ?_)
            refine va_callv (A0 := jA base) (H0 := s.heap) (va_runV (As := [.ref syntax_64]) (rest := []) ⟨hx, hb, hml, hown, hts⟩ (uX1_partP l dC dI ca base B hB hAp hB3 hB8 hB12 hB101 hB102 hB132 hB133 hB171 hB172 hB173 hB293 G_29 H_50 spare_13 syntax_64 1 ql_18 yb_51 ye_51 ut_14 (pho_51) fb_51 fe_51 gt_18) (cwV 1 hts (jgV (jWr_36 _ (List.mem_of_getElem? (i := 2) rfl)) (jWr_36 _ (List.mem_of_getElem? (i := 3) rfl)) (jWr_36 _ (List.mem_of_getElem? (i := 4) rfl)) (jWr_2 _ (List.mem_of_getElem? (i := 21) rfl)) (jWr_36 _ (List.mem_of_getElem? (i := 5) rfl))) rfl rfl rfl (by decide +kernel) ⟨by rw [← hR]; exact Nat.le_of_ble_eq_true rfl, by rw [← hR]; exact Nat.le_of_ble_eq_true rfl⟩) ⟨fun a U g mk q => by obtain ⟨q0, q1, q2, qK, q10, q11, q12, q13, q14, q15, q16, q17, q18⟩ := q; exact ⟨q0, q1, q2, jG.calling g mk a qK, q10, q11, q12, q13, q14, q15, q16, q17, q18⟩, hh_63.recv (C := RX1) (T := TX1) (N := 17) hB3 rfl (by decide) hg_31 hK, fun U hU hW => ⟨rfl, hU, hh_63.2.1, hG.step hW hU hh_63.1, hg_31, hg_syntax_64, hgb_51, hge_51, hg_33, (hh_63.2.2.1.sub (L1 := [(spare_13, 3, 3, .int ql_18), (spare_13, 3, 5, .ref yb_51), (spare_13, 3, 6, .ref ye_51), (spare_13, 3, 2, .ref ut_14)]) [13, 5, 6, 14] rfl), (hh_63.2.2.2.2.2.2.2.1.sub (L1 := [(yb_51, 171, 40, ca 1, fb_51), (ye_51, 172, 40, ca 1, fe_51), (ut_14, 173, 1500, ca 1, gt_18)]) [0, 1, 2] rfl), (hh_63.2.2.2.2.2.2.2.2.sub (L1 := [(jFdo, jDcc dC dI ca G_29 (some spare_13) pho_51)]) [0] rfl), ⟨(by first | (with_reducible assumption) | omega | rfl | fail), (by first | (with_reducible assumption) | omega | rfl | fail)⟩⟩⟩ rfl rfl hl.1 rfl (lv_room (Nat.le_of_ble_eq_true rfl)) dX11_batch_92 ⟨by rw [hRc]; show _ + 0 ≤ _; omega, by rw [hRs]; show _ + 0 ≤ _; omega⟩) hh_63.1 (fun q _ h => h) (fun q h => h) (fun u_65 t_65 H_65 locs_65 ht_65 hvm_65 hr_66 hb_65 hz_65 hk_65 hS_65 => ?_)
            obtain ⟨qs_65, gb_65, ge_65⟩ := u_65
            rw [ht_65] at hb_65
            obtain ⟨hb_65, hbE_65⟩ := hb_65
            obtain ⟨hb_65, hbO_65⟩ := hb_65
            obtain ⟨⟨hb_651, hb_652, hb_653, hb_654, hb_655⟩, hb_656⟩ := hb_65
            have hh_65 : jSt (dC, dI) B base G0 G_29 EX11_batchU s.heap ((0 + 1) + (7)) ((0 + 17) + (1700)) [(spare_13, 3, 4, .int qs_65), (kernel_61, 7, 1, .ref syntax_64), (r0, 13, 5, .ref kernel_61), (spare_13, 3, 11, .null), (spare_13, 3, 10, .int pk_51), (spare_13, 3, 5, .ref yb_51), (spare_13, 3, 6, .ref ye_51), (r0, 13, 18, .int (-2)), (r0, 13, 16, .ref spare_13), (r0, 13, 15, .ref H_18.size), (H_18.size, 3, 10, .int qk_29), (H_18.size, 3, 3, .int ql_29), (spare_13, 3, 3, .int ql_18), (spare_13, 3, 2, .ref ut_14), (spare_13, 3, 1, .int (tq.ve spare_13)), (spare_13, 3, 0, .ref uz_14), (ta, 2, 1, .int 0), (r0, 13, 0, .ref ta), (ta, 2, 0, .ref tr_), (r0, 13, 7, .ref op)] [(yb_51, 171, 40, ca 1, gb_65), (ye_51, 172, 40, ca 1, ge_65), (ut_14, 173, 1500, ca 1, gt_18), (uz_14, 174, (tq.ul spare_13), ca 1, (tq.ux spare_13)), (tr_, 197, 4000, ca 0, fa)] [(jFdo, jDcc dC dI ca G_29 (some spare_13) pho_51), (jFcd, jCD dC dI ca G_29 none qtd_29), (jFl, jLs dC dI ca G_29 3 none wl), (jFs11, jSef dC dI G_29), (jFy, jYb dC dI G_29), ([(2, 0), (2, 1)], jOl (dC, dI) G0 2 [ta] s.heap)] H_65 locs_65 := (((hh_63.call hb_651 hb_652 hb_653 hb_654 hS_65 rfl (L1 := [(kernel_61, 7, 1, .ref syntax_64), (r0, 13, 5, .ref kernel_61), (spare_13, 3, 11, .null), (spare_13, 3, 10, .int pk_51), (spare_13, 3, 5, .ref yb_51), (spare_13, 3, 6, .ref ye_51), (r0, 13, 18, .int (-2)), (r0, 13, 16, .ref spare_13), (r0, 13, 15, .ref H_18.size), (H_18.size, 3, 10, .int qk_29), (H_18.size, 3, 3, .int ql_29), (spare_13, 3, 3, .int ql_18), (spare_13, 3, 2, .ref ut_14), (spare_13, 3, 1, .int (tq.ve spare_13)), (spare_13, 3, 0, .ref uz_14), (ta, 2, 1, .int 0), (r0, 13, 0, .ref ta), (ta, 2, 0, .ref tr_), (r0, 13, 7, .ref op)]) [0, 1, 2, 4, 5, 6, 7, 8, 9, 10, 12, 13, 14, 15, 16, 17, 18, 19, 20] rfl rfl (M1 := [(ut_14, 173, 1500, ca 1, gt_18), (uz_14, 174, (tq.ul spare_13), ca 1, (tq.ux spare_13)), (tr_, 197, 4000, ca 0, fa)]) [2, 3, 4] rfl rfl (I1 := [(jFcd, jCD dC dI ca G_29 none qtd_29), (jFl, jLs dC dI ca G_29 3 none wl), (jFs11, jSef dC dI G_29), (jFy, jYb dC dI G_29), ([(2, 0), (2, 1)], jOl (dC, dI) G0 2 [ta] s.heap)]) [1, 2, 3, 4, 5] rfl rfl).more hb_655).moreM hb_656).addIs hbE_65
            clear hh_63 ht_65 hvm_65 hz_65 hk_65 hS_65 hb_651 hb_652 hb_653 hb_654 hb_655
            clear hb_656
            clear  hbE_65
            try simp only at hr_66
            obtain ⟨hr_66_0, hr_66_1, hr_66_2, hr_66_3⟩ := hr_66
            obtain ⟨phn_67, hphn_67⟩ : ∃ q : Nat, q = pho_51 := ⟨_, rfl⟩
            have hF_67 := jDcc.full (ph1 := phn_67) (hh_65.iv 0 rfl) hg_31 (hh_65.at 5 rfl) (hh_65.at 6 rfl) ⟨(hh_65.2.2.1.sub (L1 := [(spare_13, 3, 4, .int qs_65), (spare_13, 3, 10, .int pk_51), (spare_13, 3, 11, .null)]) [0, 4, 3] rfl), (hh_65.2.2.2.2.2.2.2.1.sub (L1 := [(yb_51, 171, 40, ca 1, gb_65), (ye_51, 172, 40, ca 1, ge_65)]) [0, 1] rfl), (hr_66_2.mono (by omega)), by omega⟩ (w := (575 * (qs_65.toInt - pk_51.toInt) + (1500 - jEd ge_65 pk_51.toInt)).toNat) (fun h9 => absurd h9 (by decide)) (by omega) (fun h9 => absurd h9 (by decide))
            have hh_68 := hh_65.sub (L1 := [(spare_13, 3, 4, .int qs_65), (kernel_61, 7, 1, .ref syntax_64), (r0, 13, 5, .ref kernel_61), (spare_13, 3, 11, .null), (spare_13, 3, 10, .int pk_51), (spare_13, 3, 5, .ref yb_51), (spare_13, 3, 6, .ref ye_51), (r0, 13, 18, .int (-2)), (r0, 13, 16, .ref spare_13), (r0, 13, 15, .ref H_18.size), (H_18.size, 3, 10, .int qk_29), (H_18.size, 3, 3, .int ql_29), (spare_13, 3, 3, .int ql_18), (spare_13, 3, 2, .ref ut_14), (spare_13, 3, 1, .int (tq.ve spare_13)), (spare_13, 3, 0, .ref uz_14), (ta, 2, 1, .int 0), (r0, 13, 0, .ref ta), (ta, 2, 0, .ref tr_), (r0, 13, 7, .ref op)]) [0, 1, 2, 3, 4, 5, 6, 7, 8, 9, 10, 11, 12, 13, 14, 15, 16, 17, 18, 19] rfl (M1 := [(yb_51, 171, 40, ca 1, gb_65), (ye_51, 172, 40, ca 1, ge_65), (ut_14, 173, 1500, ca 1, gt_18), (uz_14, 174, (tq.ul spare_13), ca 1, (tq.ux spare_13)), (tr_, 197, 4000, ca 0, fa)]) [0, 1, 2, 3, 4] rfl (I1 := [(jFcd, jCD dC dI ca G_29 none qtd_29), (jFl, jLs dC dI ca G_29 3 none wl), (jFs11, jSef dC dI G_29), (jFy, jYb dC dI G_29), ([(2, 0), (2, 1)], jOl (dC, dI) G0 2 [ta] s.heap)]) [1, 2, 3, 4, 5] rfl
            clear hh_65
            have hh_69 := hh_68.addI (jDcc.ie hF_67)
            clear hh_68
            refine lv_iconst (v := 0) hx hb dX11_batch_95 (by decide) ?_
            have hjz := jEd.z (fe := ge_65) (k := (0 : Int32).toInt) (by omega)
            refine lv_istore_n (lv' := [(3, .int 0), (2, .ref spare_13), (0, .ref r0), (1, .int a1)]) hx hb dX11_batch_96 rfl hl (by decide) rfl (fun ls hl => ?_)
            have L97 : ∀ (N : Nat) (Gx_70 : jT) (zcx_70 : Nat) (zsx_70 : Nat) (v3_70 : Int32) (H_70 : Heap) (locs_70 : List Loc), jSt (dC, dI) B base G0 Gx_70 EX11_batchU s.heap zcx_70 zsx_70 [(spare_13, 3, 4, .int qs_65), (r0, 13, 5, .ref kernel_61), (spare_13, 3, 11, .null), (spare_13, 3, 10, .int pk_51), (spare_13, 3, 5, .ref yb_51), (spare_13, 3, 6, .ref ye_51), (r0, 13, 18, .int (-2)), (r0, 13, 16, .ref spare_13), (r0, 13, 15, .ref H_18.size), (H_18.size, 3, 10, .int qk_29), (H_18.size, 3, 3, .int ql_29), (spare_13, 3, 3, .int ql_18), (spare_13, 3, 2, .ref ut_14), (spare_13, 3, 1, .int (tq.ve spare_13)), (spare_13, 3, 0, .ref uz_14), (ta, 2, 1, .int 0), (r0, 13, 0, .ref ta), (ta, 2, 0, .ref tr_), (r0, 13, 7, .ref op)] [(yb_51, 171, 40, ca 1, gb_65), (ye_51, 172, 40, ca 1, ge_65), (ut_14, 173, 1500, ca 1, gt_18), (uz_14, 174, (tq.ul spare_13), ca 1, (tq.ux spare_13)), (tr_, 197, 4000, ca 0, fa)] [(jFdo, jDcc dC dI ca Gx_70 none phn_67), (jFcd, jCD dC dI ca Gx_70 none qtd_29), (jFl, jLs dC dI ca Gx_70 3 none wl), (jFs11, jSef dC dI Gx_70), (jFy, jYb dC dI Gx_70), ([(2, 0), (2, 1)], jOl (dC, dI) G0 2 [ta] s.heap)] H_70 locs_70 → (jNk [0, 1, 2, 4, 6, 7, 8, 9, 10, 12, 13, 14, 15, 16]) G0 Gx_70 → jLe G_29 Gx_70 → (0 ≤ v3_70.toInt ∧ v3_70.toInt ≤ qs_65.toInt ∧ zcx_70 ≤ 8 + 24 * v3_70.toInt ∧ zsx_70 ≤ 1720 + 185 * jEd ge_65 v3_70.toInt) → (qs_65.toInt - v3_70.toInt : Int) < N → ∀ ls : Array Slot, lv_has ls 5 [(0, .ref r0), (1, .int a1), (2, .ref spare_13), (3, .int v3_70)] → W p l e R s m ([.ref r0, .int a1] : List Value).toArray below meth c H_70 locs_70 zcx_70 zsx_70 Q (F0 m 97 ls []) := by
              intro N
              induction N with
              | zero => intro Gx_70 zcx_70 zsx_70 v3_70 H_70 locs_70 hh_70 hN_70 hle_70 hi_70 hm; exact absurd hm (by omega)
              | succ N L97 =>
                intro Gx_70 zcx_70 zsx_70 v3_70 H_70 locs_70 hh_70 hN_70 hle_70 hi_70 hm_70 ls hl
                have hg_71 := hle_70 _ _ hg_32
                have hg_72 := hle_70 _ _ hg_31
                have hg_73 := hle_70 _ _ hg_kernel_61
                have hg_74 := hle_70 _ _ hgb_51
                have hg_75 := hle_70 _ _ hge_51
                have hg_76 := hle_70 _ _ hgc_29
                have hg_77 := hle_70 _ _ hg_33
                have hg_78 := hle_70 _ _ hg_34
                have hg_79 := hle_70 _ _ hg_35
                have hg_80 := hle_70 _ _ hg_36
                have hg_81 := hle_70 _ _ hg_37
                obtain ⟨hi_70_0, hi_70_1, hi_70_2, hi_70_3⟩ := hi_70
                have hql := jSn.le hr_66_2 (by omega)
                refine lv_iload_n hx hb dX11_batch_97 rfl (lv_at hl 3 rfl) ?_
                refine lv_aload_n hx hb dX11_batch_98 rfl (lv_at hl 2 rfl) ?_
                refine j7_read hx hb hown hK (C := RX1) (T := TX1) (N := 17) rfl hly_3_4 hlk_168 (hh_70.at 0 rfl) dX11_batch_99 ?_
                refine lv_icmp_ge (tgt := 165) hx hb dX11_batch_102 (by decide) (fun c_82 => ?_) (fun c_82 => ?_)
                · skip
                  have c_82' : v3_70.toInt ≥ qs_65.toInt := jb_ge (rfl) (rfl) c_82
                  have hjl := jEd.le hr_66_2 (k := v3_70.toInt) (by omega) (by omega) (by omega)
                  obtain ⟨hfi9, hfs9⟩ : jdIv qtd_29 wl ∧ jdCs qtd_29 wl = jdCs tq wl := ⟨hr_30_3.iv (by rw [ht_22]; exact hpIV.put (by omega) (by omega)), (hr_30_3.cs hnin9).trans (by rw [ht_22]; exact jdCs.put hnsp9)⟩
                  refine lv_aload_n hx hb dX11_batch_165 rfl (lv_at hl 2 rfl) ?_
                  refine j7_read hx hb hown hK (C := RX1) (T := TX1) (N := 17) rfl hly_3_4 hlk_168 (hh_70.at 0 rfl) dX11_batch_166 ?_
                  have hsz_83 := hh_70.2.2.2.2.2.1
                  have htt_83 := hh_70.2.2.2.2.2.2.1
                  refine W.room (fun hrc_83 hrs_83 => ?_)
                  refine W.widen (k := LC - s.heap.size) (n := LS - jTot s.heap) (by omega) (by omega) ?_
                  rw [hQ]
                  exact W.iret (v := qs_65) hx hb hr (fun t ht hW => ⟨⟨qs_65, (0, phn_67, (pt.toInt.toNat - (0 : Int).toNat), qtd_29, Gx_70), rfl, by skip; (try dsimp only); refine ⟨by omega, by omega, by omega, ?_, hfi9, hfs9⟩; exact Or.inr ⟨by omega, by omega, jBa.part (hr_19p_3.yes (by omega)).1 (by omega) (hr_19p_3.yes (by omega)).2 hr_66_3⟩, ⟨hh_70.ra (by first | (simp only; omega) | omega) (by first | (simp only; omega) | omega) (M1 := [(ta, 2, 1, .int 0)]) [15] rfl ht, hN_70, by rw [ht]; exact hh_70.iv 5 rfl, by rw [ht]; exact hh_70.2.2.2.2.2.2.2.2.sub (L1 := [(jFy, jYb dC dI Gx_70), (jFs11, jSef dC dI Gx_70), (jFl, jLs dC dI ca Gx_70 3 none wl), (jFdo, jDcc dC dI ca Gx_70 none phn_67), (jFcd, jCD dC dI ca Gx_70 none qtd_29)]) [4, 3, 2, 0, 1] rfl⟩⟩, by rw [ht]; try exact hh_70.1.1, fun q h9 hq => by rw [ht]; try exact hh_70.1.2.1 q h9 hq⟩) hh_70.1.2.2 dX11_batch_169
                · skip
                  have c_82' : v3_70.toInt < qs_65.toInt := jb_ge_n (rfl) (rfl) c_82
                  have hn2 := jEd.nx hr_66_2 (k := v3_70.toInt) (by omega) (by omega)
                  have hnb := jEd.nx (hr_66_2.mono (by omega) : jSn _ _ _ 1500) (k := v3_70.toInt) (by omega) (by omega)
                  refine lv_aload_n hx hb dX11_batch_105 rfl (lv_at hl 2 rfl) ?_
                  refine j7_read hx hb hown hK (C := RX1) (T := TX1) (N := 17) rfl hly_3_2 hlk_174 (hh_70.at 12 rfl) dX11_batch_106 ?_
                  refine lv_aload_n hx hb dX11_batch_109 rfl (lv_at hl 2 rfl) ?_
                  refine j7_read hx hb hown hK (C := RX1) (T := TX1) (N := 17) rfl hly_3_5 hlk_182 (hh_70.at 4 rfl) dX11_batch_110 ?_
                  refine lv_iload_n hx hb dX11_batch_113 rfl (lv_at hl 3 rfl) ?_
                  refine j7_ialdM hx hb hK hh_70 hB171 1 rfl (by decide) hg_74 (x := v3_70.toInt) (rfl) (by omega) (j := 0) rfl dX11_batch_114 (fun z_84 ez_84 (hz_84 : 0 ≤ z_84.toInt ∧ z_84.toInt ≤ 1500) => ?_)
                  have hqz_84 : z_84.toInt = jSo gb_65 (v3_70.toInt) := by unfold jSo; rw [ez_84]
                  refine lv_aload_n hx hb dX11_batch_115 rfl (lv_at hl 2 rfl) ?_
                  refine j7_read hx hb hown hK (C := RX1) (T := TX1) (N := 17) rfl hly_3_6 hlk_185 (hh_70.at 5 rfl) dX11_batch_116 ?_
                  refine lv_iload_n hx hb dX11_batch_119 rfl (lv_at hl 3 rfl) ?_
                  refine j7_ialdM hx hb hK hh_70 hB172 1 rfl (by decide) hg_75 (x := v3_70.toInt) (rfl) (by omega) (j := 1) rfl dX11_batch_120 (fun z_85 ez_85 (hz_85 : 0 ≤ z_85.toInt ∧ z_85.toInt ≤ 1500) => ?_)
                  have hqz_85 : z_85.toInt = jSo ge_65 (v3_70.toInt) := by unfold jSo; rw [ez_85]
                  have hsz_86 := hh_70.2.2.2.2.2.1
                  have htt_86 := hh_70.2.2.2.2.2.2.1
                  refine W.room (fun hrc_86 hrs_86 => ?_)
                  refine j_callx (A0 := jA base) (H0 := s.heap) (va_runS (As := [.ref ut_14, .int z_84, .int z_85]) (rest := []) ⟨hx, hb, hml, hown, hts⟩ (uJ7_copyOfRange_feeccUt9 l dC dI ca base B hB hAp hB101 hB173 hB280 Gx_70 H_70 ut_14 z_84 z_85 1500 LC LS) (va_cwS 3 hts (jgS (jWr_77 _ (List.mem_of_getElem? (i := 21) rfl)) (jWr_77 _ (List.mem_of_getElem? (i := 22) rfl)) (jWr_16 _ (List.mem_of_getElem? (i := 7) rfl)) (jWr_77 _ (List.mem_of_getElem? (i := 23) rfl))) rfl rfl rfl (by decide +kernel) ⟨by rw [← hR]; exact Nat.le_of_ble_eq_true rfl, by rw [← hR]; exact Nat.le_of_ble_eq_true rfl⟩) ⟨fun a U g mk q => by obtain ⟨q0, q1, q2, qK, q10, q11, q12, q13⟩ := q; exact ⟨q0, q1, q2, jG.calling g mk a qK, (jK8.calling g mk a q10), q11, q12, q13⟩, fun U hU hW => ⟨rfl, hU, hh_70.2.1, hG.step hW hU hh_70.1, (jK8.warm hW hK8), hg_77, jP.nil, ⟨(by first | (with_reducible assumption) | omega | rfl | fail), (by first | (with_reducible assumption) | omega | rfl | fail), (by first | (with_reducible assumption) | omega | rfl | fail), (by first | (with_reducible assumption) | omega | rfl | fail)⟩⟩⟩ rfl rfl hl.1 rfl (lv_room (Nat.le_of_ble_eq_true rfl)) dX11_batch_121 ⟨by rw [hRc]; omega, by rw [hRs]; omega⟩) hh_70.1 (fun q _ h => h) (fun q h => h) (fun r_87 u_86 t_86 H_86 locs_86 ht_86 hvm_86 hr_87 hb_86 hz_86 hk_86 hS_86 => ?_)
                  rw [ht_86] at hb_86
                  obtain ⟨m_ret_86, G_86⟩ := u_86
                  simp only at hb_86
                  obtain ⟨⟨hb_861, hb_862, hb_863, hb_864, hb_865, hb_866⟩, hN_86, hbK_86⟩ := hb_86
                  have hE9_86 := hN_86
                  have hM_86 := hN_86
                  have hN_86 : (jNk [0, 1, 2, 4, 6, 7, 8, 9, 10, 12, 13, 14, 15, 16]) Gx_70 G_86 := hN_86.sub (by decide)
                  have hh_86 : jSt (dC, dI) B base G0 G_86 EX11_batchU s.heap (zcx_70 + (1)) (zsx_70 + (m_ret_86)) [(spare_13, 3, 4, .int qs_65), (r0, 13, 5, .ref kernel_61), (spare_13, 3, 11, .null), (spare_13, 3, 10, .int pk_51), (spare_13, 3, 5, .ref yb_51), (spare_13, 3, 6, .ref ye_51), (r0, 13, 18, .int (-2)), (r0, 13, 16, .ref spare_13), (r0, 13, 15, .ref H_18.size), (H_18.size, 3, 10, .int qk_29), (H_18.size, 3, 3, .int ql_29), (spare_13, 3, 3, .int ql_18), (spare_13, 3, 2, .ref ut_14), (spare_13, 3, 1, .int (tq.ve spare_13)), (spare_13, 3, 0, .ref uz_14), (ta, 2, 1, .int 0), (r0, 13, 0, .ref ta), (ta, 2, 0, .ref tr_), (r0, 13, 7, .ref op)] [(yb_51, 171, 40, ca 1, gb_65), (ye_51, 172, 40, ca 1, ge_65), (ut_14, 173, 1500, ca 1, gt_18), (uz_14, 174, (tq.ul spare_13), ca 1, (tq.ux spare_13)), (tr_, 197, 4000, ca 0, fa)] [(jFdo, jDcc dC dI ca Gx_70 none phn_67), (jFcd, jCD dC dI ca Gx_70 none qtd_29), (jFl, jLs dC dI ca Gx_70 3 none wl), (jFs11, jSef dC dI Gx_70), (jFy, jYb dC dI Gx_70), ([(2, 0), (2, 1)], jOl (dC, dI) G0 2 [ta] s.heap)] H_86 locs_86 := (hh_70.callG hb_861 hb_862 hb_863 hb_864 hb_865 hS_86 rfl (L1 := [(spare_13, 3, 4, .int qs_65), (r0, 13, 5, .ref kernel_61), (spare_13, 3, 11, .null), (spare_13, 3, 10, .int pk_51), (spare_13, 3, 5, .ref yb_51), (spare_13, 3, 6, .ref ye_51), (r0, 13, 18, .int (-2)), (r0, 13, 16, .ref spare_13), (r0, 13, 15, .ref H_18.size), (H_18.size, 3, 10, .int qk_29), (H_18.size, 3, 3, .int ql_29), (spare_13, 3, 3, .int ql_18), (spare_13, 3, 2, .ref ut_14), (spare_13, 3, 1, .int (tq.ve spare_13)), (spare_13, 3, 0, .ref uz_14), (ta, 2, 1, .int 0), (r0, 13, 0, .ref ta), (ta, 2, 0, .ref tr_), (r0, 13, 7, .ref op)]) [0, 1, 2, 3, 4, 5, 6, 7, 8, 9, 10, 11, 12, 13, 14, 15, 16, 17, 18] rfl rfl (M1 := [(yb_51, 171, 40, ca 1, gb_65), (ye_51, 172, 40, ca 1, ge_65), (ut_14, 173, 1500, ca 1, gt_18), (uz_14, 174, (tq.ul spare_13), ca 1, (tq.ux spare_13)), (tr_, 197, 4000, ca 0, fa)]) [0, 1, 2, 3, 4] rfl rfl (I1 := [(jFdo, jDcc dC dI ca Gx_70 none phn_67), (jFcd, jCD dC dI ca Gx_70 none qtd_29), (jFl, jLs dC dI ca Gx_70 3 none wl), (jFs11, jSef dC dI Gx_70), (jFy, jYb dC dI Gx_70), ([(2, 0), (2, 1)], jOl (dC, dI) G0 2 [ta] s.heap)]) [0, 1, 2, 3, 4, 5] rfl rfl).more hb_866
                  have hNn_86 : (jNk [0, 1, 2, 4, 6, 7, 8, 9, 10, 12, 13, 14, 15, 16]) G0 G_86 := (hN_70).tr hN_86
                  have hg_88 := hb_862 _ _ hg_71
                  have hg_89 := hb_862 _ _ hg_72
                  have hg_90 := hb_862 _ _ hg_73
                  have hg_91 := hb_862 _ _ hg_74
                  have hg_92 := hb_862 _ _ hg_75
                  have hg_93 := hb_862 _ _ hg_76
                  have hg_94 := hb_862 _ _ hg_77
                  have hg_95 := hb_862 _ _ hg_78
                  have hg_96 := hb_862 _ _ hg_79
                  have hg_97 := hb_862 _ _ hg_80
                  have hg_98 := hb_862 _ _ hg_81
                  have hd_99 := jDcc.grow (hh_86.iv 0 rfl) hb_862 hE9_86 (by decide)
                  have hh_100 := hh_86.sub (L1 := [(spare_13, 3, 4, .int qs_65), (r0, 13, 5, .ref kernel_61), (spare_13, 3, 11, .null), (spare_13, 3, 10, .int pk_51), (spare_13, 3, 5, .ref yb_51), (spare_13, 3, 6, .ref ye_51), (r0, 13, 18, .int (-2)), (r0, 13, 16, .ref spare_13), (r0, 13, 15, .ref H_18.size), (H_18.size, 3, 10, .int qk_29), (H_18.size, 3, 3, .int ql_29), (spare_13, 3, 3, .int ql_18), (spare_13, 3, 2, .ref ut_14), (spare_13, 3, 1, .int (tq.ve spare_13)), (spare_13, 3, 0, .ref uz_14), (ta, 2, 1, .int 0), (r0, 13, 0, .ref ta), (ta, 2, 0, .ref tr_), (r0, 13, 7, .ref op)]) [0, 1, 2, 3, 4, 5, 6, 7, 8, 9, 10, 11, 12, 13, 14, 15, 16, 17, 18] rfl (M1 := [(yb_51, 171, 40, ca 1, gb_65), (ye_51, 172, 40, ca 1, ge_65), (ut_14, 173, 1500, ca 1, gt_18), (uz_14, 174, (tq.ul spare_13), ca 1, (tq.ux spare_13)), (tr_, 197, 4000, ca 0, fa)]) [0, 1, 2, 3, 4] rfl (I1 := [(jFcd, jCD dC dI ca Gx_70 none qtd_29), (jFl, jLs dC dI ca Gx_70 3 none wl), (jFs11, jSef dC dI Gx_70), (jFy, jYb dC dI Gx_70), ([(2, 0), (2, 1)], jOl (dC, dI) G0 2 [ta] s.heap)]) [1, 2, 3, 4, 5] rfl
                  clear hh_86
                  have hh_101 := hh_100.addI (jDcc.ie hd_99)
                  clear hh_100
                  have hd_102 := jCD.grow (hh_101.iv 1 rfl) hb_862 hE9_86 (by decide)
                  have hh_103 := hh_101.sub (L1 := [(spare_13, 3, 4, .int qs_65), (r0, 13, 5, .ref kernel_61), (spare_13, 3, 11, .null), (spare_13, 3, 10, .int pk_51), (spare_13, 3, 5, .ref yb_51), (spare_13, 3, 6, .ref ye_51), (r0, 13, 18, .int (-2)), (r0, 13, 16, .ref spare_13), (r0, 13, 15, .ref H_18.size), (H_18.size, 3, 10, .int qk_29), (H_18.size, 3, 3, .int ql_29), (spare_13, 3, 3, .int ql_18), (spare_13, 3, 2, .ref ut_14), (spare_13, 3, 1, .int (tq.ve spare_13)), (spare_13, 3, 0, .ref uz_14), (ta, 2, 1, .int 0), (r0, 13, 0, .ref ta), (ta, 2, 0, .ref tr_), (r0, 13, 7, .ref op)]) [0, 1, 2, 3, 4, 5, 6, 7, 8, 9, 10, 11, 12, 13, 14, 15, 16, 17, 18] rfl (M1 := [(yb_51, 171, 40, ca 1, gb_65), (ye_51, 172, 40, ca 1, ge_65), (ut_14, 173, 1500, ca 1, gt_18), (uz_14, 174, (tq.ul spare_13), ca 1, (tq.ux spare_13)), (tr_, 197, 4000, ca 0, fa)]) [0, 1, 2, 3, 4] rfl (I1 := [(jFdo, jDcc dC dI ca G_86 none phn_67), (jFl, jLs dC dI ca Gx_70 3 none wl), (jFs11, jSef dC dI Gx_70), (jFy, jYb dC dI Gx_70), ([(2, 0), (2, 1)], jOl (dC, dI) G0 2 [ta] s.heap)]) [0, 2, 3, 4, 5] rfl
                  clear hh_101
                  have hh_104 := hh_103.addI (jCD.ie hd_102)
                  clear hh_103
                  have hd_105 := jLs.grow (hh_104.iv 2 rfl) hb_862 hN_86 (by decide)
                  have hh_106 := hh_104.sub (L1 := [(spare_13, 3, 4, .int qs_65), (r0, 13, 5, .ref kernel_61), (spare_13, 3, 11, .null), (spare_13, 3, 10, .int pk_51), (spare_13, 3, 5, .ref yb_51), (spare_13, 3, 6, .ref ye_51), (r0, 13, 18, .int (-2)), (r0, 13, 16, .ref spare_13), (r0, 13, 15, .ref H_18.size), (H_18.size, 3, 10, .int qk_29), (H_18.size, 3, 3, .int ql_29), (spare_13, 3, 3, .int ql_18), (spare_13, 3, 2, .ref ut_14), (spare_13, 3, 1, .int (tq.ve spare_13)), (spare_13, 3, 0, .ref uz_14), (ta, 2, 1, .int 0), (r0, 13, 0, .ref ta), (ta, 2, 0, .ref tr_), (r0, 13, 7, .ref op)]) [0, 1, 2, 3, 4, 5, 6, 7, 8, 9, 10, 11, 12, 13, 14, 15, 16, 17, 18] rfl (M1 := [(yb_51, 171, 40, ca 1, gb_65), (ye_51, 172, 40, ca 1, ge_65), (ut_14, 173, 1500, ca 1, gt_18), (uz_14, 174, (tq.ul spare_13), ca 1, (tq.ux spare_13)), (tr_, 197, 4000, ca 0, fa)]) [0, 1, 2, 3, 4] rfl (I1 := [(jFcd, jCD dC dI ca G_86 none qtd_29), (jFdo, jDcc dC dI ca G_86 none phn_67), (jFs11, jSef dC dI Gx_70), (jFy, jYb dC dI Gx_70), ([(2, 0), (2, 1)], jOl (dC, dI) G0 2 [ta] s.heap)]) [0, 1, 3, 4, 5] rfl
                  clear hh_104
                  have hh_107 := hh_106.addI (jLs.ie hd_105)
                  clear hh_106
                  have hd_108 := jSef.grow (hh_107.iv 3 rfl) hb_862 hM_86 (by decide)
                  have hh_109 := hh_107.sub (L1 := [(spare_13, 3, 4, .int qs_65), (r0, 13, 5, .ref kernel_61), (spare_13, 3, 11, .null), (spare_13, 3, 10, .int pk_51), (spare_13, 3, 5, .ref yb_51), (spare_13, 3, 6, .ref ye_51), (r0, 13, 18, .int (-2)), (r0, 13, 16, .ref spare_13), (r0, 13, 15, .ref H_18.size), (H_18.size, 3, 10, .int qk_29), (H_18.size, 3, 3, .int ql_29), (spare_13, 3, 3, .int ql_18), (spare_13, 3, 2, .ref ut_14), (spare_13, 3, 1, .int (tq.ve spare_13)), (spare_13, 3, 0, .ref uz_14), (ta, 2, 1, .int 0), (r0, 13, 0, .ref ta), (ta, 2, 0, .ref tr_), (r0, 13, 7, .ref op)]) [0, 1, 2, 3, 4, 5, 6, 7, 8, 9, 10, 11, 12, 13, 14, 15, 16, 17, 18] rfl (M1 := [(yb_51, 171, 40, ca 1, gb_65), (ye_51, 172, 40, ca 1, ge_65), (ut_14, 173, 1500, ca 1, gt_18), (uz_14, 174, (tq.ul spare_13), ca 1, (tq.ux spare_13)), (tr_, 197, 4000, ca 0, fa)]) [0, 1, 2, 3, 4] rfl (I1 := [(jFl, jLs dC dI ca G_86 3 none wl), (jFcd, jCD dC dI ca G_86 none qtd_29), (jFdo, jDcc dC dI ca G_86 none phn_67), (jFy, jYb dC dI Gx_70), ([(2, 0), (2, 1)], jOl (dC, dI) G0 2 [ta] s.heap)]) [0, 1, 2, 4, 5] rfl
                  clear hh_107
                  have hh_110 := hh_109.addI (jSef.ie hd_108)
                  clear hh_109
                  have hd_111 := jYb.grow (hh_110.iv 4 rfl) hb_862 hN_86 (by decide)
                  have hh_112 := hh_110.sub (L1 := [(spare_13, 3, 4, .int qs_65), (r0, 13, 5, .ref kernel_61), (spare_13, 3, 11, .null), (spare_13, 3, 10, .int pk_51), (spare_13, 3, 5, .ref yb_51), (spare_13, 3, 6, .ref ye_51), (r0, 13, 18, .int (-2)), (r0, 13, 16, .ref spare_13), (r0, 13, 15, .ref H_18.size), (H_18.size, 3, 10, .int qk_29), (H_18.size, 3, 3, .int ql_29), (spare_13, 3, 3, .int ql_18), (spare_13, 3, 2, .ref ut_14), (spare_13, 3, 1, .int (tq.ve spare_13)), (spare_13, 3, 0, .ref uz_14), (ta, 2, 1, .int 0), (r0, 13, 0, .ref ta), (ta, 2, 0, .ref tr_), (r0, 13, 7, .ref op)]) [0, 1, 2, 3, 4, 5, 6, 7, 8, 9, 10, 11, 12, 13, 14, 15, 16, 17, 18] rfl (M1 := [(yb_51, 171, 40, ca 1, gb_65), (ye_51, 172, 40, ca 1, ge_65), (ut_14, 173, 1500, ca 1, gt_18), (uz_14, 174, (tq.ul spare_13), ca 1, (tq.ux spare_13)), (tr_, 197, 4000, ca 0, fa)]) [0, 1, 2, 3, 4] rfl (I1 := [(jFs11, jSef dC dI G_86), (jFl, jLs dC dI ca G_86 3 none wl), (jFcd, jCD dC dI ca G_86 none qtd_29), (jFdo, jDcc dC dI ca G_86 none phn_67), ([(2, 0), (2, 1)], jOl (dC, dI) G0 2 [ta] s.heap)]) [0, 1, 2, 3, 5] rfl
                  clear hh_110
                  have hh_113 := hh_112.addI (jYb.ie hd_111)
                  clear hh_112
                  obtain ⟨hr_87, hr_87n, hr_87p⟩ := hr_87
                  try simp only at hr_87p
                  obtain ⟨ret_114, rfl, hg_ret_114⟩ := hr_87
                  have hsy_86 : s.heap.size ≤ ret_114 := Nat.le_trans hh_70.1.1 hr_87n.le
                  refine lv_astore (lv' := [(4, .ref ret_114), (0, .ref r0), (1, .int a1), (2, .ref spare_13), (3, .int v3_70)]) hx hb dX11_batch_124 hl (by decide) rfl (fun ls hl => ?_)
                  refine lv_aload_n hx hb dX11_batch_126 rfl (lv_at hl 3 rfl) ?_
                  obtain ⟨v_115, hv_115, hh_116⟩ := hh_113.pin (C := RX1) (T := TX1) (N := 17) hB3 rfl (by decide) hg_89 (i := 9) (by decide) rfl
                  clear hh_113
                  obtain ⟨behind_117, rfl, hg_behind_117⟩ := hv_115
                  refine j7_read hx hb hown hK (C := RX1) (T := TX1) (N := 17) rfl hly_3_9 hlk_178 (hh_116.at 0 rfl) dX11_batch_127 ?_
                  refine lv_iload_n hx hb dX11_batch_130 rfl (lv_at hl 4 rfl) ?_
                  refine lv_aload_n hx hb dX11_batch_131 rfl (lv_at hl 1 rfl) ?_
                  refine j7_read hx hb hown hK (C := RX11) (T := TX11) (N := 19) rfl hly_13_5 hlk_41 (hh_116.at 2 rfl) dX11_batch_132 ?_
                  refine lv_aload_n hx hb dX11_batch_135 rfl (lv_at hl 3 rfl) ?_
                  refine lv_iload_n hx hb dX11_batch_136 rfl (lv_at hl 4 rfl) ?_
                  refine lv_aload_n hx hb dX11_batch_137 rfl (lv_at hl 1 rfl) ?_
                  refine j7_read hx hb hown hK (C := RX11) (T := TX11) (N := 19) rfl hly_13_5 hlk_41 (hh_116.at 2 rfl) dX11_batch_138 ?_
                  obtain ⟨v_118, hv_118, hh_119⟩ := hh_116.pin (C := RX5) (T := TX5) (N := 11) hB7 rfl (by decide) hg_90 (i := 2) (by decide) rfl
                  clear hh_116
                  obtain ⟨start_120, rfl, hg_start_120⟩ := hv_118
                  refine j7_read hx hb hown hK (C := RX5) (T := TX5) (N := 11) rfl hly_7_2 hlk_217 (hh_119.at 0 rfl) dX11_batch_141 ?_
                  have hsz_121 := hh_119.2.2.2.2.2.1
                  have htt_121 := hh_119.2.2.2.2.2.2.1
                  refine W.room (fun hrc_121 hrs_121 => ?_)
                  refine j_callx (A0 := jA base) (H0 := s.heap) (va_runV (As := [.int v3_70, .ref start_120]) (rest := [.ref kernel_61, .int v3_70, .ref behind_117]) ⟨hx, hb, hml, hown, hts⟩ (uX1_stateBehind l dC dI ca base B hB hAp hB3 hB11 hB210 G_86 H_86 spare_13 v3_70 start_120 1) (cwV 2 hts (jgV (jWr_30 _ (List.mem_of_getElem? (i := 9) rfl)) (jWr_30 _ (List.mem_of_getElem? (i := 10) rfl)) (jWr_30 _ (List.mem_of_getElem? (i := 11) rfl)) (jWr_2 _ (List.mem_of_getElem? (i := 21) rfl)) (jWr_30 _ (List.mem_of_getElem? (i := 12) rfl))) rfl rfl rfl (by decide +kernel) ⟨by rw [← hR]; exact Nat.le_of_ble_eq_true rfl, by rw [← hR]; exact Nat.le_of_ble_eq_true rfl⟩) ⟨fun a U g mk q => by obtain ⟨q0, q1, q2, qK, q10, q11, q12, q13, q14⟩ := q; exact ⟨q0, q1, q2, jG.calling g mk a qK, (va_K.moved (Vm.Alike.refl U.vm) q10), q11, q12, q13, q14⟩, hh_119.recv (C := RX1) (T := TX1) (N := 17) hB3 rfl (by decide) hg_89 hK, fun U hU hW => ⟨rfl, hU, hh_119.2.1, hG.step hW hU hh_119.1, va_K.moved hW.alike hK2, hg_89, hg_start_120, jP.nil, trivial⟩⟩ rfl rfl hl.1 rfl (lv_room (Nat.le_of_ble_eq_true rfl)) dX11_batch_144 ⟨by rw [hRc]; show _ + 0 ≤ _; omega, by rw [hRs]; show _ + 0 ≤ _; omega⟩) hh_119.1 (fun q _ h => h) (fun q h => h) (fun r_122 u_121 t_121 H_121 locs_121 ht_121 hvm_121 hr_122 hb_121 hz_121 hk_121 hS_121 => ?_)
                  rw [ht_121] at hb_121
                  obtain ⟨hb_1211, hb_1212, hb_1213, hb_1214, hb_1215⟩ := hb_121
                  have hh_121 : jSt (dC, dI) B base G0 G_86 EX11_batchU s.heap (zcx_70 + (1)) (zsx_70 + (m_ret_86)) [(kernel_61, 7, 2, .ref start_120), (spare_13, 3, 9, .ref behind_117), (spare_13, 3, 4, .int qs_65), (r0, 13, 5, .ref kernel_61), (spare_13, 3, 11, .null), (spare_13, 3, 10, .int pk_51), (spare_13, 3, 5, .ref yb_51), (spare_13, 3, 6, .ref ye_51), (r0, 13, 18, .int (-2)), (r0, 13, 16, .ref spare_13), (r0, 13, 15, .ref H_18.size), (H_18.size, 3, 10, .int qk_29), (H_18.size, 3, 3, .int ql_29), (spare_13, 3, 3, .int ql_18), (spare_13, 3, 2, .ref ut_14), (spare_13, 3, 1, .int (tq.ve spare_13)), (spare_13, 3, 0, .ref uz_14), (ta, 2, 1, .int 0), (r0, 13, 0, .ref ta), (ta, 2, 0, .ref tr_), (r0, 13, 7, .ref op)] [(yb_51, 171, 40, ca 1, gb_65), (ye_51, 172, 40, ca 1, ge_65), (ut_14, 173, 1500, ca 1, gt_18), (uz_14, 174, (tq.ul spare_13), ca 1, (tq.ux spare_13)), (tr_, 197, 4000, ca 0, fa)] [(jFy, jYb dC dI G_86), (jFs11, jSef dC dI G_86), (jFl, jLs dC dI ca G_86 3 none wl), (jFcd, jCD dC dI ca G_86 none qtd_29), (jFdo, jDcc dC dI ca G_86 none phn_67), ([(2, 0), (2, 1)], jOl (dC, dI) G0 2 [ta] s.heap)] H_121 locs_121 := ((hh_119.call hb_1211 hb_1212 hb_1213 hb_1214 hS_121 rfl (L1 := [(kernel_61, 7, 2, .ref start_120), (spare_13, 3, 9, .ref behind_117), (spare_13, 3, 4, .int qs_65), (r0, 13, 5, .ref kernel_61), (spare_13, 3, 11, .null), (spare_13, 3, 10, .int pk_51), (spare_13, 3, 5, .ref yb_51), (spare_13, 3, 6, .ref ye_51), (r0, 13, 18, .int (-2)), (r0, 13, 16, .ref spare_13), (r0, 13, 15, .ref H_18.size), (H_18.size, 3, 10, .int qk_29), (H_18.size, 3, 3, .int ql_29), (spare_13, 3, 3, .int ql_18), (spare_13, 3, 2, .ref ut_14), (spare_13, 3, 1, .int (tq.ve spare_13)), (spare_13, 3, 0, .ref uz_14), (ta, 2, 1, .int 0), (r0, 13, 0, .ref ta), (ta, 2, 0, .ref tr_), (r0, 13, 7, .ref op)]) [0, 1, 2, 3, 4, 5, 6, 7, 8, 9, 10, 11, 12, 13, 14, 15, 16, 17, 18, 19, 20] rfl rfl (M1 := [(yb_51, 171, 40, ca 1, gb_65), (ye_51, 172, 40, ca 1, ge_65), (ut_14, 173, 1500, ca 1, gt_18), (uz_14, 174, (tq.ul spare_13), ca 1, (tq.ux spare_13)), (tr_, 197, 4000, ca 0, fa)]) [0, 1, 2, 3, 4] rfl rfl (I1 := [(jFy, jYb dC dI G_86), (jFs11, jSef dC dI G_86), (jFl, jLs dC dI ca G_86 3 none wl), (jFcd, jCD dC dI ca G_86 none qtd_29), (jFdo, jDcc dC dI ca G_86 none phn_67), ([(2, 0), (2, 1)], jOl (dC, dI) G0 2 [ta] s.heap)]) [0, 1, 2, 3, 4, 5] rfl rfl).more hb_1215)
                  clear hh_119 ht_121 hvm_121 hz_121 hk_121 hS_121 hb_1211 hb_1212 hb_1213 hb_1214 hb_1215
                  obtain ⟨ret_123, rfl, hg_ret_123⟩ := hr_122
                  refine lv_aload hx hb dX11_batch_147 (lv_at hl 0 rfl) ?_
                  refine lv_aload_n hx hb dX11_batch_149 rfl (lv_at hl 3 rfl) ?_
                  obtain ⟨v_124, hv_124, hh_125⟩ := hh_121.pin (C := RX1) (T := TX1) (N := 17) hB3 rfl (by decide) hg_89 (i := 8) (by decide) rfl
                  clear hh_121
                  obtain ⟨early_126, rfl, hg_early_126⟩ := hv_124
                  refine j7_read hx hb hown hK (C := RX1) (T := TX1) (N := 17) rfl hly_3_8 hlk_225 (hh_125.at 0 rfl) dX11_batch_150 ?_
                  refine lv_iload_n hx hb dX11_batch_153 rfl (lv_at hl 4 rfl) ?_
                  refine j7_iald hx hb hK hh_125 hB101 1 rfl (by decide) hg_early_126 (x := v3_70.toInt) (rfl) (by omega) dX11_batch_154 (fun z_127 (hz_127 : True) => ?_)
                  have hsz_128 := hh_125.2.2.2.2.2.1
                  have htt_128 := hh_125.2.2.2.2.2.2.1
                  refine W.room (fun hrc_128 hrs_128 => ?_)
                  refine j_callx (A0 := jA base) (H0 := s.heap) (va_runV (As := [.ref ret_123, .ref ret_114, .int z_127]) (rest := [.int v3_70, .ref behind_117]) ⟨hx, hb, hml, hown, hts⟩ (uX5_checkS l dC dI ca base B hB hAp hB5 hB7 hB8 hB11 hB12 hB101 hB102 hB132 hB133 hB211 hB214 hB280 hB290 hB291 hB292 hB293 hB313 hB315 G_86 H_121 kernel_61 ret_123 ret_114 z_127 m_ret_86 (min 1 (m_ret_86 / 3)) LC LS) (cwV 3 hts (jgV (jWr_78 _ (List.mem_of_getElem? (i := 14) rfl)) (jWr_78 _ (List.mem_of_getElem? (i := 15) rfl)) (jWr_78 _ (List.mem_of_getElem? (i := 16) rfl)) (jWr_2 _ (List.mem_of_getElem? (i := 4) rfl)) (jWr_78 _ (List.mem_of_getElem? (i := 17) rfl))) rfl rfl rfl (by decide +kernel) ⟨by rw [← hR]; exact Nat.le_of_ble_eq_true rfl, by rw [← hR]; exact Nat.le_of_ble_eq_true rfl⟩) ⟨fun a U g mk q => by obtain ⟨q0, q1, q2, qK, q10, q11, q12, q13, q14, q15, q16, q17, q18⟩ := q; exact ⟨q0, q1, q2, jG.calling g mk a qK, (va_K.moved (Vm.Alike.refl U.vm) q10), (jK5.moved (Vm.Alike.refl U.vm) q11), (jK6.moved (Vm.Alike.refl U.vm) q12), q13, q14, q15, q16, q17, q18⟩, hh_125.recv (C := RX5) (T := TX5) (N := 11) hB7 rfl (by decide) hg_90 hK, fun U hU hW => ⟨rfl, hU, hh_125.2.1, hG.step hW hU hh_125.1, va_K.moved hW.alike hK2, jK5.moved hW.alike hK5, jK6.moved hW.alike hK6, hg_90, hg_ret_123, hg_ret_114, jP.nil, (hh_125.2.2.2.2.2.2.2.2.sub (L1 := [(jFs11, jSef dC dI G_86)]) [1] rfl), ⟨(by first | (with_reducible assumption) | omega | rfl | fail), (by first | (with_reducible assumption) | assumption | omega | rfl | fail)⟩⟩⟩ rfl rfl hl.1 rfl (lv_room (Nat.le_of_ble_eq_true rfl)) dX11_batch_155 ⟨by rw [hRc]; omega, by rw [hRs]; omega⟩) hh_125.1 (fun q _ h => h) (fun q h => h) (fun r_129 u_128 t_128 H_128 locs_128 ht_128 hvm_128 hr_129 hb_128 hz_128 hk_128 hS_128 => ?_)
                  rw [ht_128] at hb_128
                  obtain ⟨G_128, rfl⟩ : ∃ z, z = u_128 := ⟨_, rfl⟩
                  try simp only at hb_128
                  obtain ⟨⟨hb_1281, hb_1282, hb_1283, hb_1284, hb_1285, hb_1286⟩, hN_128, hbE_128⟩ := hb_128
                  have hE9_128 := hN_128
                  have hN_128 : (jNk [0, 1, 2, 4, 6, 7, 8, 9, 10, 12, 13, 14, 15, 16]) G_86 G_128 := hN_128.sub (by decide)
                  have hh_128 : jSt (dC, dI) B base G0 G_128 EX11_batchU s.heap ((zcx_70 + (1)) + (23)) ((zsx_70 + (m_ret_86)) + ((183 + 336 * (min 1 (m_ret_86 / 3))))) [(spare_13, 3, 8, .ref early_126), (kernel_61, 7, 2, .ref start_120), (spare_13, 3, 9, .ref behind_117), (spare_13, 3, 4, .int qs_65), (r0, 13, 5, .ref kernel_61), (spare_13, 3, 11, .null), (spare_13, 3, 10, .int pk_51), (spare_13, 3, 5, .ref yb_51), (spare_13, 3, 6, .ref ye_51), (r0, 13, 18, .int (-2)), (r0, 13, 16, .ref spare_13), (r0, 13, 15, .ref H_18.size), (H_18.size, 3, 10, .int qk_29), (H_18.size, 3, 3, .int ql_29), (spare_13, 3, 3, .int ql_18), (spare_13, 3, 2, .ref ut_14), (spare_13, 3, 1, .int (tq.ve spare_13)), (spare_13, 3, 0, .ref uz_14), (ta, 2, 1, .int 0), (r0, 13, 0, .ref ta), (ta, 2, 0, .ref tr_), (r0, 13, 7, .ref op)] [(yb_51, 171, 40, ca 1, gb_65), (ye_51, 172, 40, ca 1, ge_65), (ut_14, 173, 1500, ca 1, gt_18), (uz_14, 174, (tq.ul spare_13), ca 1, (tq.ux spare_13)), (tr_, 197, 4000, ca 0, fa)] [(jFy, jYb dC dI G_86), (jFl, jLs dC dI ca G_86 3 none wl), (jFcd, jCD dC dI ca G_86 none qtd_29), (jFdo, jDcc dC dI ca G_86 none phn_67), ([(2, 0), (2, 1)], jOl (dC, dI) G0 2 [ta] s.heap)] H_128 locs_128 := (hh_125.callG hb_1281 hb_1282 hb_1283 hb_1284 hb_1285 hS_128 rfl (L1 := [(spare_13, 3, 8, .ref early_126), (kernel_61, 7, 2, .ref start_120), (spare_13, 3, 9, .ref behind_117), (spare_13, 3, 4, .int qs_65), (r0, 13, 5, .ref kernel_61), (spare_13, 3, 11, .null), (spare_13, 3, 10, .int pk_51), (spare_13, 3, 5, .ref yb_51), (spare_13, 3, 6, .ref ye_51), (r0, 13, 18, .int (-2)), (r0, 13, 16, .ref spare_13), (r0, 13, 15, .ref H_18.size), (H_18.size, 3, 10, .int qk_29), (H_18.size, 3, 3, .int ql_29), (spare_13, 3, 3, .int ql_18), (spare_13, 3, 2, .ref ut_14), (spare_13, 3, 1, .int (tq.ve spare_13)), (spare_13, 3, 0, .ref uz_14), (ta, 2, 1, .int 0), (r0, 13, 0, .ref ta), (ta, 2, 0, .ref tr_), (r0, 13, 7, .ref op)]) [0, 1, 2, 3, 4, 5, 6, 7, 8, 9, 10, 11, 12, 13, 14, 15, 16, 17, 18, 19, 20, 21] rfl rfl (M1 := [(yb_51, 171, 40, ca 1, gb_65), (ye_51, 172, 40, ca 1, ge_65), (ut_14, 173, 1500, ca 1, gt_18), (uz_14, 174, (tq.ul spare_13), ca 1, (tq.ux spare_13)), (tr_, 197, 4000, ca 0, fa)]) [0, 1, 2, 3, 4] rfl rfl (I1 := [(jFy, jYb dC dI G_86), (jFl, jLs dC dI ca G_86 3 none wl), (jFcd, jCD dC dI ca G_86 none qtd_29), (jFdo, jDcc dC dI ca G_86 none phn_67), ([(2, 0), (2, 1)], jOl (dC, dI) G0 2 [ta] s.heap)]) [0, 2, 3, 4, 5] rfl rfl).more hb_1286
                  have hNn_128 : (jNk [0, 1, 2, 4, 6, 7, 8, 9, 10, 12, 13, 14, 15, 16]) G0 G_128 := (hNn_86).tr hN_128
                  have hg_130 := hb_1282 _ _ hg_ret_114
                  have hg_131 := hb_1282 _ _ hg_88
                  have hg_132 := hb_1282 _ _ hg_89
                  have hg_133 := hb_1282 _ _ hg_behind_117
                  have hg_134 := hb_1282 _ _ hg_early_126
                  have hg_135 := hb_1282 _ _ hg_start_120
                  have hg_136 := hb_1282 _ _ hg_90
                  have hg_137 := hb_1282 _ _ hg_91
                  have hg_138 := hb_1282 _ _ hg_92
                  have hg_139 := hb_1282 _ _ hg_93
                  have hg_140 := hb_1282 _ _ hg_94
                  have hg_141 := hb_1282 _ _ hg_95
                  have hg_142 := hb_1282 _ _ hg_96
                  have hg_143 := hb_1282 _ _ hg_97
                  have hg_144 := hb_1282 _ _ hg_98
                  have hd_145 := jYb.grow (hh_128.iv 0 rfl) hb_1282 hN_128 (by decide)
                  have hh_146 := hh_128.sub (L1 := [(spare_13, 3, 8, .ref early_126), (kernel_61, 7, 2, .ref start_120), (spare_13, 3, 9, .ref behind_117), (spare_13, 3, 4, .int qs_65), (r0, 13, 5, .ref kernel_61), (spare_13, 3, 11, .null), (spare_13, 3, 10, .int pk_51), (spare_13, 3, 5, .ref yb_51), (spare_13, 3, 6, .ref ye_51), (r0, 13, 18, .int (-2)), (r0, 13, 16, .ref spare_13), (r0, 13, 15, .ref H_18.size), (H_18.size, 3, 10, .int qk_29), (H_18.size, 3, 3, .int ql_29), (spare_13, 3, 3, .int ql_18), (spare_13, 3, 2, .ref ut_14), (spare_13, 3, 1, .int (tq.ve spare_13)), (spare_13, 3, 0, .ref uz_14), (ta, 2, 1, .int 0), (r0, 13, 0, .ref ta), (ta, 2, 0, .ref tr_), (r0, 13, 7, .ref op)]) [0, 1, 2, 3, 4, 5, 6, 7, 8, 9, 10, 11, 12, 13, 14, 15, 16, 17, 18, 19, 20, 21] rfl (M1 := [(yb_51, 171, 40, ca 1, gb_65), (ye_51, 172, 40, ca 1, ge_65), (ut_14, 173, 1500, ca 1, gt_18), (uz_14, 174, (tq.ul spare_13), ca 1, (tq.ux spare_13)), (tr_, 197, 4000, ca 0, fa)]) [0, 1, 2, 3, 4] rfl (I1 := [(jFl, jLs dC dI ca G_86 3 none wl), (jFcd, jCD dC dI ca G_86 none qtd_29), (jFdo, jDcc dC dI ca G_86 none phn_67), ([(2, 0), (2, 1)], jOl (dC, dI) G0 2 [ta] s.heap)]) [1, 2, 3, 4] rfl
                  clear hh_128
                  have hh_147 := hh_146.addI (jYb.ie hd_145)
                  clear hh_146
                  have hd_148 := jLs.grow (hh_147.iv 1 rfl) hb_1282 hN_128 (by decide)
                  have hh_149 := hh_147.sub (L1 := [(spare_13, 3, 8, .ref early_126), (kernel_61, 7, 2, .ref start_120), (spare_13, 3, 9, .ref behind_117), (spare_13, 3, 4, .int qs_65), (r0, 13, 5, .ref kernel_61), (spare_13, 3, 11, .null), (spare_13, 3, 10, .int pk_51), (spare_13, 3, 5, .ref yb_51), (spare_13, 3, 6, .ref ye_51), (r0, 13, 18, .int (-2)), (r0, 13, 16, .ref spare_13), (r0, 13, 15, .ref H_18.size), (H_18.size, 3, 10, .int qk_29), (H_18.size, 3, 3, .int ql_29), (spare_13, 3, 3, .int ql_18), (spare_13, 3, 2, .ref ut_14), (spare_13, 3, 1, .int (tq.ve spare_13)), (spare_13, 3, 0, .ref uz_14), (ta, 2, 1, .int 0), (r0, 13, 0, .ref ta), (ta, 2, 0, .ref tr_), (r0, 13, 7, .ref op)]) [0, 1, 2, 3, 4, 5, 6, 7, 8, 9, 10, 11, 12, 13, 14, 15, 16, 17, 18, 19, 20, 21] rfl (M1 := [(yb_51, 171, 40, ca 1, gb_65), (ye_51, 172, 40, ca 1, ge_65), (ut_14, 173, 1500, ca 1, gt_18), (uz_14, 174, (tq.ul spare_13), ca 1, (tq.ux spare_13)), (tr_, 197, 4000, ca 0, fa)]) [0, 1, 2, 3, 4] rfl (I1 := [(jFy, jYb dC dI G_128), (jFcd, jCD dC dI ca G_86 none qtd_29), (jFdo, jDcc dC dI ca G_86 none phn_67), ([(2, 0), (2, 1)], jOl (dC, dI) G0 2 [ta] s.heap)]) [0, 2, 3, 4] rfl
                  clear hh_147
                  have hh_150 := hh_149.addI (jLs.ie hd_148)
                  clear hh_149
                  have hd_151 := jCD.grow (hh_150.iv 2 rfl) hb_1282 hE9_128 (by decide)
                  have hh_152 := hh_150.sub (L1 := [(spare_13, 3, 8, .ref early_126), (kernel_61, 7, 2, .ref start_120), (spare_13, 3, 9, .ref behind_117), (spare_13, 3, 4, .int qs_65), (r0, 13, 5, .ref kernel_61), (spare_13, 3, 11, .null), (spare_13, 3, 10, .int pk_51), (spare_13, 3, 5, .ref yb_51), (spare_13, 3, 6, .ref ye_51), (r0, 13, 18, .int (-2)), (r0, 13, 16, .ref spare_13), (r0, 13, 15, .ref H_18.size), (H_18.size, 3, 10, .int qk_29), (H_18.size, 3, 3, .int ql_29), (spare_13, 3, 3, .int ql_18), (spare_13, 3, 2, .ref ut_14), (spare_13, 3, 1, .int (tq.ve spare_13)), (spare_13, 3, 0, .ref uz_14), (ta, 2, 1, .int 0), (r0, 13, 0, .ref ta), (ta, 2, 0, .ref tr_), (r0, 13, 7, .ref op)]) [0, 1, 2, 3, 4, 5, 6, 7, 8, 9, 10, 11, 12, 13, 14, 15, 16, 17, 18, 19, 20, 21] rfl (M1 := [(yb_51, 171, 40, ca 1, gb_65), (ye_51, 172, 40, ca 1, ge_65), (ut_14, 173, 1500, ca 1, gt_18), (uz_14, 174, (tq.ul spare_13), ca 1, (tq.ux spare_13)), (tr_, 197, 4000, ca 0, fa)]) [0, 1, 2, 3, 4] rfl (I1 := [(jFl, jLs dC dI ca G_128 3 none wl), (jFy, jYb dC dI G_128), (jFdo, jDcc dC dI ca G_86 none phn_67), ([(2, 0), (2, 1)], jOl (dC, dI) G0 2 [ta] s.heap)]) [0, 1, 3, 4] rfl
                  clear hh_150
                  have hh_153 := hh_152.addI (jCD.ie hd_151)
                  clear hh_152
                  have hd_154 := jDcc.grow (hh_153.iv 3 rfl) hb_1282 hE9_128 (by decide)
                  have hh_155 := hh_153.sub (L1 := [(spare_13, 3, 8, .ref early_126), (kernel_61, 7, 2, .ref start_120), (spare_13, 3, 9, .ref behind_117), (spare_13, 3, 4, .int qs_65), (r0, 13, 5, .ref kernel_61), (spare_13, 3, 11, .null), (spare_13, 3, 10, .int pk_51), (spare_13, 3, 5, .ref yb_51), (spare_13, 3, 6, .ref ye_51), (r0, 13, 18, .int (-2)), (r0, 13, 16, .ref spare_13), (r0, 13, 15, .ref H_18.size), (H_18.size, 3, 10, .int qk_29), (H_18.size, 3, 3, .int ql_29), (spare_13, 3, 3, .int ql_18), (spare_13, 3, 2, .ref ut_14), (spare_13, 3, 1, .int (tq.ve spare_13)), (spare_13, 3, 0, .ref uz_14), (ta, 2, 1, .int 0), (r0, 13, 0, .ref ta), (ta, 2, 0, .ref tr_), (r0, 13, 7, .ref op)]) [0, 1, 2, 3, 4, 5, 6, 7, 8, 9, 10, 11, 12, 13, 14, 15, 16, 17, 18, 19, 20, 21] rfl (M1 := [(yb_51, 171, 40, ca 1, gb_65), (ye_51, 172, 40, ca 1, ge_65), (ut_14, 173, 1500, ca 1, gt_18), (uz_14, 174, (tq.ul spare_13), ca 1, (tq.ux spare_13)), (tr_, 197, 4000, ca 0, fa)]) [0, 1, 2, 3, 4] rfl (I1 := [(jFcd, jCD dC dI ca G_128 none qtd_29), (jFl, jLs dC dI ca G_128 3 none wl), (jFy, jYb dC dI G_128), ([(2, 0), (2, 1)], jOl (dC, dI) G0 2 [ta] s.heap)]) [0, 1, 2, 4] rfl
                  clear hh_153
                  have hh_156 := hh_155.addI (jDcc.ie hd_154)
                  clear hh_155
                  have hh_157 := hh_156.addIs hbE_128
                  obtain ⟨hr_129, hr_129p⟩ := hr_129
                  try simp only at hr_129p
                  obtain ⟨ret_158, rfl, hg_ret_158⟩ := hr_129
                  refine j7_qast hx hb hK2 hh_157 hB hB210 2 rfl (by decide) (by decide) rfl rfl rfl hg_133 (x := v3_70.toInt) (rfl) (by omega) hB11 (T := TX9) (N := 9) rfl (by decide) hg_ret_158 (Or.inr ⟨_, rfl, hg_ret_158⟩) dX11_batch_158 (fun H_159 locs_159 hh_159 => ?_)
                  clear hh_157
                  obtain ⟨z_160, ez_160⟩ : ∃ y : Int32, y = v3_70 + 1 := ⟨_, rfl⟩
                  refine lv_iinc (v := z_160) (lv' := [(3, .int z_160), (4, .ref ret_114), (0, .ref r0), (1, .int a1), (2, .ref spare_13)]) hx hb dX11_batch_159 hl (k := 4) rfl (by rw [ez_160]; rfl) (by decide) rfl (fun ls hl => ?_)
                  have hz_160 : z_160.toInt = v3_70.toInt + 1 := by rw [ez_160]; exact jb_iadd2 (rfl) (by decide) (by omega)
                  have hje := jEd.to hnb.2.2.1 (k1 := z_160.toInt) (by omega)
                  refine lv_goto (tgt := 97) hx hb dX11_batch_162 (by decide) ?_
                  refine W.tight (c2 := ((zcx_70 + (1)) + (23))) (n2 := ((zsx_70 + (m_ret_86)) + ((183 + 336 * (min 1 (m_ret_86 / 3)))))) hh_159.2.2.2.2.2.1 hh_159.2.2.2.2.2.2.1 ?_
                  exact L97 G_128 ((zcx_70 + (1)) + (23)) ((zsx_70 + (m_ret_86)) + ((183 + 336 * (min 1 (m_ret_86 / 3))))) z_160 _ _ (hh_159.sub (L1 := [(spare_13, 3, 4, .int qs_65), (r0, 13, 5, .ref kernel_61), (spare_13, 3, 11, .null), (spare_13, 3, 10, .int pk_51), (spare_13, 3, 5, .ref yb_51), (spare_13, 3, 6, .ref ye_51), (r0, 13, 18, .int (-2)), (r0, 13, 16, .ref spare_13), (r0, 13, 15, .ref H_18.size), (H_18.size, 3, 10, .int qk_29), (H_18.size, 3, 3, .int ql_29), (spare_13, 3, 3, .int ql_18), (spare_13, 3, 2, .ref ut_14), (spare_13, 3, 1, .int (tq.ve spare_13)), (spare_13, 3, 0, .ref uz_14), (ta, 2, 1, .int 0), (r0, 13, 0, .ref ta), (ta, 2, 0, .ref tr_), (r0, 13, 7, .ref op)]) [3, 4, 5, 6, 7, 8, 9, 10, 11, 12, 13, 14, 15, 16, 17, 18, 19, 20, 21] rfl (M1 := [(yb_51, 171, 40, ca 1, gb_65), (ye_51, 172, 40, ca 1, ge_65), (ut_14, 173, 1500, ca 1, gt_18), (uz_14, 174, (tq.ul spare_13), ca 1, (tq.ux spare_13)), (tr_, 197, 4000, ca 0, fa)]) [0, 1, 2, 3, 4] rfl (I1 := [(jFdo, jDcc dC dI ca G_128 none phn_67), (jFcd, jCD dC dI ca G_128 none qtd_29), (jFl, jLs dC dI ca G_128 3 none wl), (jFs11, jSef dC dI G_128), (jFy, jYb dC dI G_128), ([(2, 0), (2, 1)], jOl (dC, dI) G0 2 [ta] s.heap)]) [1, 2, 3, 0, 4, 5] rfl) (hNn_128) (((hle_70).tr hb_862).tr hb_1282) (⟨(by first | (with_reducible assumption) | omega | rfl | fail), (by first | (with_reducible assumption) | omega | rfl | fail), (by first | (with_reducible assumption) | omega | rfl | fail), (by first | (with_reducible assumption) | omega | rfl | fail)⟩) (by omega) _ (lv_sub hl [2, 3, 4, 0] rfl)
            refine W.tight (c2 := ((0 + 1) + (7))) (n2 := ((0 + 17) + (1700))) hh_69.2.2.2.2.2.1 hh_69.2.2.2.2.2.2.1 ?_
            exact L97 (qs_65.toInt - (0 : Int32).toInt : Int).toNat.succ G_29 ((0 + 1) + (7)) ((0 + 17) + (1700)) 0 _ _ (hh_69.sub (L1 := [(spare_13, 3, 4, .int qs_65), (r0, 13, 5, .ref kernel_61), (spare_13, 3, 11, .null), (spare_13, 3, 10, .int pk_51), (spare_13, 3, 5, .ref yb_51), (spare_13, 3, 6, .ref ye_51), (r0, 13, 18, .int (-2)), (r0, 13, 16, .ref spare_13), (r0, 13, 15, .ref H_18.size), (H_18.size, 3, 10, .int qk_29), (H_18.size, 3, 3, .int ql_29), (spare_13, 3, 3, .int ql_18), (spare_13, 3, 2, .ref ut_14), (spare_13, 3, 1, .int (tq.ve spare_13)), (spare_13, 3, 0, .ref uz_14), (ta, 2, 1, .int 0), (r0, 13, 0, .ref ta), (ta, 2, 0, .ref tr_), (r0, 13, 7, .ref op)]) [0, 2, 3, 4, 5, 6, 7, 8, 9, 10, 11, 12, 13, 14, 15, 16, 17, 18, 19] rfl (M1 := [(yb_51, 171, 40, ca 1, gb_65), (ye_51, 172, 40, ca 1, ge_65), (ut_14, 173, 1500, ca 1, gt_18), (uz_14, 174, (tq.ul spare_13), ca 1, (tq.ux spare_13)), (tr_, 197, 4000, ca 0, fa)]) [0, 1, 2, 3, 4] rfl (I1 := [(jFdo, jDcc dC dI ca G_29 none phn_67), (jFcd, jCD dC dI ca G_29 none qtd_29), (jFl, jLs dC dI ca G_29 3 none wl), (jFs11, jSef dC dI G_29), (jFy, jYb dC dI G_29), ([(2, 0), (2, 1)], jOl (dC, dI) G0 2 [ta] s.heap)]) [0, 1, 2, 3, 4, 5] rfl) (hNn_29) (jLe.rf) (⟨(by first | (with_reducible assumption) | omega | rfl | fail), (by first | (with_reducible assumption) | omega | rfl | fail), (by first | (with_reducible assumption) | omega | rfl | fail), (by first | (with_reducible assumption) | omega | rfl | fail)⟩) (by omega) _ (lv_sub hl [2, 3, 1, 0] rfl)
          · skip
            refine lv_aload_n hx hb dX11_batch_84 rfl (lv_at hl 0 rfl) ?_
            refine lv_aload_n hx hb dX11_batch_85 rfl (lv_at hl 1 rfl) ?_
            obtain ⟨v_162, hv_162, hh_163⟩ := hh_51.pin (C := RX11) (T := TX11) (N := 19) hB13 rfl (by decide) hg_32 (i := 5) (by decide) rfl
            clear hh_51
            obtain ⟨kernel_164, rfl, hg_kernel_164⟩ := hv_162
            refine j7_read hx hb hown hK (C := RX11) (T := TX11) (N := 19) rfl hly_13_5 hlk_41 (hh_163.at 0 rfl) dX11_batch_86 ?_
            obtain ⟨v_165, hv_165, hh_166⟩ := hh_163.pin (C := RX5) (T := TX5) (N := 11) hB7 rfl (by decide) hg_kernel_164 (i := 1) (by decide) rfl
            clear hh_163
            obtain ⟨syntax_167, rfl, hg_syntax_167⟩ := hv_165
            refine j7_read hx hb hown hK (C := RX5) (T := TX5) (N := 11) rfl hly_7_1 hlk_203 (hh_166.at 0 rfl) dX11_batch_89 ?_
            have hsz_168 := hh_166.2.2.2.2.2.1
            have htt_168 := hh_166.2.2.2.2.2.2.1
            refine W.room (fun hrc_168 hrs_168 => ?_)
            refine va_callv (A0 := jA base) (H0 := s.heap) (va_runV (As := [.ref syntax_167]) (rest := []) ⟨hx, hb, hml, hown, hts⟩ (uX1_partP l dC dI ca base B hB hAp hB3 hB8 hB12 hB101 hB102 hB132 hB133 hB171 hB172 hB173 hB293 G_29 H_50 spare_13 syntax_167 1 ql_18 yb_51 ye_51 ut_14 (pho_51) fb_51 fe_51 gt_18) (cwV 1 hts (jgV (jWr_36 _ (List.mem_of_getElem? (i := 2) rfl)) (jWr_36 _ (List.mem_of_getElem? (i := 3) rfl)) (jWr_36 _ (List.mem_of_getElem? (i := 4) rfl)) (jWr_2 _ (List.mem_of_getElem? (i := 21) rfl)) (jWr_36 _ (List.mem_of_getElem? (i := 5) rfl))) rfl rfl rfl (by decide +kernel) ⟨by rw [← hR]; exact Nat.le_of_ble_eq_true rfl, by rw [← hR]; exact Nat.le_of_ble_eq_true rfl⟩) ⟨fun a U g mk q => by obtain ⟨q0, q1, q2, qK, q10, q11, q12, q13, q14, q15, q16, q17, q18⟩ := q; exact ⟨q0, q1, q2, jG.calling g mk a qK, q10, q11, q12, q13, q14, q15, q16, q17, q18⟩, hh_166.recv (C := RX1) (T := TX1) (N := 17) hB3 rfl (by decide) hg_31 hK, fun U hU hW => ⟨rfl, hU, hh_166.2.1, hG.step hW hU hh_166.1, hg_31, hg_syntax_167, hgb_51, hge_51, hg_33, (hh_166.2.2.1.sub (L1 := [(spare_13, 3, 3, .int ql_18), (spare_13, 3, 5, .ref yb_51), (spare_13, 3, 6, .ref ye_51), (spare_13, 3, 2, .ref ut_14)]) [13, 5, 6, 14] rfl), (hh_166.2.2.2.2.2.2.2.1.sub (L1 := [(yb_51, 171, 40, ca 1, fb_51), (ye_51, 172, 40, ca 1, fe_51), (ut_14, 173, 1500, ca 1, gt_18)]) [0, 1, 2] rfl), (hh_166.2.2.2.2.2.2.2.2.sub (L1 := [(jFdo, jDcc dC dI ca G_29 (some spare_13) pho_51)]) [0] rfl), ⟨(by first | (with_reducible assumption) | omega | rfl | fail), (by first | (with_reducible assumption) | omega | rfl | fail)⟩⟩⟩ rfl rfl hl.1 rfl (lv_room (Nat.le_of_ble_eq_true rfl)) dX11_batch_92 ⟨by rw [hRc]; show _ + 0 ≤ _; omega, by rw [hRs]; show _ + 0 ≤ _; omega⟩) hh_166.1 (fun q _ h => h) (fun q h => h) (fun u_168 t_168 H_168 locs_168 ht_168 hvm_168 hr_169 hb_168 hz_168 hk_168 hS_168 => ?_)
            obtain ⟨qs_168, gb_168, ge_168⟩ := u_168
            rw [ht_168] at hb_168
            obtain ⟨hb_168, hbE_168⟩ := hb_168
            obtain ⟨hb_168, hbO_168⟩ := hb_168
            obtain ⟨⟨hb_1681, hb_1682, hb_1683, hb_1684, hb_1685⟩, hb_1686⟩ := hb_168
            have hh_168 : jSt (dC, dI) B base G0 G_29 EX11_batchU s.heap ((0 + 1) + (7)) ((0 + 17) + (1700)) [(spare_13, 3, 4, .int qs_168), (kernel_164, 7, 1, .ref syntax_167), (r0, 13, 5, .ref kernel_164), (spare_13, 3, 11, .ref chk_57), (spare_13, 3, 10, .int pk_51), (spare_13, 3, 5, .ref yb_51), (spare_13, 3, 6, .ref ye_51), (r0, 13, 18, .int (-2)), (r0, 13, 16, .ref spare_13), (r0, 13, 15, .ref H_18.size), (H_18.size, 3, 10, .int qk_29), (H_18.size, 3, 3, .int ql_29), (spare_13, 3, 3, .int ql_18), (spare_13, 3, 2, .ref ut_14), (spare_13, 3, 1, .int (tq.ve spare_13)), (spare_13, 3, 0, .ref uz_14), (ta, 2, 1, .int 0), (r0, 13, 0, .ref ta), (ta, 2, 0, .ref tr_), (r0, 13, 7, .ref op)] [(yb_51, 171, 40, ca 1, gb_168), (ye_51, 172, 40, ca 1, ge_168), (ut_14, 173, 1500, ca 1, gt_18), (uz_14, 174, (tq.ul spare_13), ca 1, (tq.ux spare_13)), (tr_, 197, 4000, ca 0, fa)] [(jFdo, jDcc dC dI ca G_29 (some spare_13) pho_51), (jFcd, jCD dC dI ca G_29 none qtd_29), (jFl, jLs dC dI ca G_29 3 none wl), (jFs11, jSef dC dI G_29), (jFy, jYb dC dI G_29), ([(2, 0), (2, 1)], jOl (dC, dI) G0 2 [ta] s.heap)] H_168 locs_168 := (((hh_166.call hb_1681 hb_1682 hb_1683 hb_1684 hS_168 rfl (L1 := [(kernel_164, 7, 1, .ref syntax_167), (r0, 13, 5, .ref kernel_164), (spare_13, 3, 11, .ref chk_57), (spare_13, 3, 10, .int pk_51), (spare_13, 3, 5, .ref yb_51), (spare_13, 3, 6, .ref ye_51), (r0, 13, 18, .int (-2)), (r0, 13, 16, .ref spare_13), (r0, 13, 15, .ref H_18.size), (H_18.size, 3, 10, .int qk_29), (H_18.size, 3, 3, .int ql_29), (spare_13, 3, 3, .int ql_18), (spare_13, 3, 2, .ref ut_14), (spare_13, 3, 1, .int (tq.ve spare_13)), (spare_13, 3, 0, .ref uz_14), (ta, 2, 1, .int 0), (r0, 13, 0, .ref ta), (ta, 2, 0, .ref tr_), (r0, 13, 7, .ref op)]) [0, 1, 2, 4, 5, 6, 7, 8, 9, 10, 12, 13, 14, 15, 16, 17, 18, 19, 20] rfl rfl (M1 := [(ut_14, 173, 1500, ca 1, gt_18), (uz_14, 174, (tq.ul spare_13), ca 1, (tq.ux spare_13)), (tr_, 197, 4000, ca 0, fa)]) [2, 3, 4] rfl rfl (I1 := [(jFcd, jCD dC dI ca G_29 none qtd_29), (jFl, jLs dC dI ca G_29 3 none wl), (jFs11, jSef dC dI G_29), (jFy, jYb dC dI G_29), ([(2, 0), (2, 1)], jOl (dC, dI) G0 2 [ta] s.heap)]) [1, 2, 3, 4, 5] rfl rfl).more hb_1685).moreM hb_1686).addIs hbE_168
            clear hh_166 ht_168 hvm_168 hz_168 hk_168 hS_168 hb_1681 hb_1682 hb_1683 hb_1684 hb_1685
            clear hb_1686
            clear  hbE_168
            try simp only at hr_169
            obtain ⟨hr_169_0, hr_169_1, hr_169_2, hr_169_3⟩ := hr_169
            obtain ⟨phn_170, hphn_170⟩ : ∃ q : Nat, q = pho_51 := ⟨_, rfl⟩
            have hF_170 := jDcc.full (ph1 := phn_170) (hh_168.iv 0 rfl) hg_31 (hh_168.at 5 rfl) (hh_168.at 6 rfl) ⟨(hh_168.2.2.1.sub (L1 := [(spare_13, 3, 4, .int qs_168), (spare_13, 3, 10, .int pk_51), (spare_13, 3, 11, .ref chk_57)]) [0, 4, 3] rfl), (hh_168.2.2.2.2.2.2.2.1.sub (L1 := [(yb_51, 171, 40, ca 1, gb_168), (ye_51, 172, 40, ca 1, ge_168)]) [0, 1] rfl), (hr_169_2.mono (by omega)), by omega⟩ (w := (575 * (qs_168.toInt - pk_51.toInt) - 16 + (1500 - jSo ge_168 pk_51.toInt)).toNat) (fun h9 => absurd h9 (by decide)) (by omega) (fun h9 => absurd h9 (by decide))
            have hh_171 := hh_168.sub (L1 := [(spare_13, 3, 4, .int qs_168), (kernel_164, 7, 1, .ref syntax_167), (r0, 13, 5, .ref kernel_164), (spare_13, 3, 11, .ref chk_57), (spare_13, 3, 10, .int pk_51), (spare_13, 3, 5, .ref yb_51), (spare_13, 3, 6, .ref ye_51), (r0, 13, 18, .int (-2)), (r0, 13, 16, .ref spare_13), (r0, 13, 15, .ref H_18.size), (H_18.size, 3, 10, .int qk_29), (H_18.size, 3, 3, .int ql_29), (spare_13, 3, 3, .int ql_18), (spare_13, 3, 2, .ref ut_14), (spare_13, 3, 1, .int (tq.ve spare_13)), (spare_13, 3, 0, .ref uz_14), (ta, 2, 1, .int 0), (r0, 13, 0, .ref ta), (ta, 2, 0, .ref tr_), (r0, 13, 7, .ref op)]) [0, 1, 2, 3, 4, 5, 6, 7, 8, 9, 10, 11, 12, 13, 14, 15, 16, 17, 18, 19] rfl (M1 := [(yb_51, 171, 40, ca 1, gb_168), (ye_51, 172, 40, ca 1, ge_168), (ut_14, 173, 1500, ca 1, gt_18), (uz_14, 174, (tq.ul spare_13), ca 1, (tq.ux spare_13)), (tr_, 197, 4000, ca 0, fa)]) [0, 1, 2, 3, 4] rfl (I1 := [(jFcd, jCD dC dI ca G_29 none qtd_29), (jFl, jLs dC dI ca G_29 3 none wl), (jFs11, jSef dC dI G_29), (jFy, jYb dC dI G_29), ([(2, 0), (2, 1)], jOl (dC, dI) G0 2 [ta] s.heap)]) [1, 2, 3, 4, 5] rfl
            clear hh_168
            have hh_172 := hh_171.addI (jDcc.ie hF_170)
            clear hh_171
            refine lv_iconst (v := 0) hx hb dX11_batch_95 (by decide) ?_
            have hjz := jEd.z (fe := ge_168) (k := (0 : Int32).toInt) (by omega)
            refine lv_istore_n (lv' := [(3, .int 0), (2, .ref spare_13), (0, .ref r0), (1, .int a1)]) hx hb dX11_batch_96 rfl hl (by decide) rfl (fun ls hl => ?_)
            have L97 : ∀ (N : Nat) (Gx_173 : jT) (zcx_173 : Nat) (zsx_173 : Nat) (v3_173 : Int32) (H_173 : Heap) (locs_173 : List Loc), jSt (dC, dI) B base G0 Gx_173 EX11_batchU s.heap zcx_173 zsx_173 [(spare_13, 3, 4, .int qs_168), (r0, 13, 5, .ref kernel_164), (spare_13, 3, 10, .int pk_51), (spare_13, 3, 5, .ref yb_51), (spare_13, 3, 6, .ref ye_51), (r0, 13, 18, .int (-2)), (r0, 13, 16, .ref spare_13), (r0, 13, 15, .ref H_18.size), (H_18.size, 3, 10, .int qk_29), (H_18.size, 3, 3, .int ql_29), (spare_13, 3, 3, .int ql_18), (spare_13, 3, 2, .ref ut_14), (spare_13, 3, 1, .int (tq.ve spare_13)), (spare_13, 3, 0, .ref uz_14), (ta, 2, 1, .int 0), (r0, 13, 0, .ref ta), (ta, 2, 0, .ref tr_), (r0, 13, 7, .ref op)] [(yb_51, 171, 40, ca 1, gb_168), (ye_51, 172, 40, ca 1, ge_168), (ut_14, 173, 1500, ca 1, gt_18), (uz_14, 174, (tq.ul spare_13), ca 1, (tq.ux spare_13)), (tr_, 197, 4000, ca 0, fa)] [(jFdo, jDcc dC dI ca Gx_173 none phn_170), (jFcd, jCD dC dI ca Gx_173 none qtd_29), (jFl, jLs dC dI ca Gx_173 3 none wl), (jFs11, jSef dC dI Gx_173), (jFy, jYb dC dI Gx_173), ([(2, 0), (2, 1)], jOl (dC, dI) G0 2 [ta] s.heap)] H_173 locs_173 → (jNk [0, 1, 2, 4, 6, 7, 8, 9, 10, 12, 13, 14, 15, 16]) G0 Gx_173 → jLe G_29 Gx_173 → (0 ≤ v3_173.toInt ∧ v3_173.toInt ≤ qs_168.toInt ∧ zcx_173 ≤ 8 + 24 * v3_173.toInt ∧ zsx_173 ≤ 1720 + 185 * jEd ge_168 v3_173.toInt) → (qs_168.toInt - v3_173.toInt : Int) < N → ∀ ls : Array Slot, lv_has ls 5 [(0, .ref r0), (1, .int a1), (2, .ref spare_13), (3, .int v3_173)] → W p l e R s m ([.ref r0, .int a1] : List Value).toArray below meth c H_173 locs_173 zcx_173 zsx_173 Q (F0 m 97 ls []) := by
              intro N
              induction N with
              | zero => intro Gx_173 zcx_173 zsx_173 v3_173 H_173 locs_173 hh_173 hN_173 hle_173 hi_173 hm; exact absurd hm (by omega)
              | succ N L97 =>
                intro Gx_173 zcx_173 zsx_173 v3_173 H_173 locs_173 hh_173 hN_173 hle_173 hi_173 hm_173 ls hl
                have hg_174 := hle_173 _ _ hg_32
                have hg_175 := hle_173 _ _ hg_31
                have hg_176 := hle_173 _ _ hg_kernel_164
                have hg_177 := hle_173 _ _ hgb_51
                have hg_178 := hle_173 _ _ hge_51
                have hg_179 := hle_173 _ _ hgc_29
                have hg_180 := hle_173 _ _ hg_33
                have hg_181 := hle_173 _ _ hg_34
                have hg_182 := hle_173 _ _ hg_35
                have hg_183 := hle_173 _ _ hg_36
                have hg_184 := hle_173 _ _ hg_37
                obtain ⟨hi_173_0, hi_173_1, hi_173_2, hi_173_3⟩ := hi_173
                have hql := jSn.le hr_169_2 (by omega)
                refine lv_iload_n hx hb dX11_batch_97 rfl (lv_at hl 3 rfl) ?_
                refine lv_aload_n hx hb dX11_batch_98 rfl (lv_at hl 2 rfl) ?_
                refine j7_read hx hb hown hK (C := RX1) (T := TX1) (N := 17) rfl hly_3_4 hlk_168 (hh_173.at 0 rfl) dX11_batch_99 ?_
                refine lv_icmp_ge (tgt := 165) hx hb dX11_batch_102 (by decide) (fun c_185 => ?_) (fun c_185 => ?_)
                · skip
                  have c_185' : v3_173.toInt ≥ qs_168.toInt := jb_ge (rfl) (rfl) c_185
                  have hjl := jEd.le hr_169_2 (k := v3_173.toInt) (by omega) (by omega) (by omega)
                  obtain ⟨hfi9, hfs9⟩ : jdIv qtd_29 wl ∧ jdCs qtd_29 wl = jdCs tq wl := ⟨hr_30_3.iv (by rw [ht_22]; exact hpIV.put (by omega) (by omega)), (hr_30_3.cs hnin9).trans (by rw [ht_22]; exact jdCs.put hnsp9)⟩
                  refine lv_aload_n hx hb dX11_batch_165 rfl (lv_at hl 2 rfl) ?_
                  refine j7_read hx hb hown hK (C := RX1) (T := TX1) (N := 17) rfl hly_3_4 hlk_168 (hh_173.at 0 rfl) dX11_batch_166 ?_
                  have hsz_186 := hh_173.2.2.2.2.2.1
                  have htt_186 := hh_173.2.2.2.2.2.2.1
                  refine W.room (fun hrc_186 hrs_186 => ?_)
                  refine W.widen (k := LC - s.heap.size) (n := LS - jTot s.heap) (by omega) (by omega) ?_
                  rw [hQ]
                  exact W.iret (v := qs_168) hx hb hr (fun t ht hW => ⟨⟨qs_168, (0, phn_170, (pt.toInt.toNat - (0 : Int).toNat), qtd_29, Gx_173), rfl, by skip; (try dsimp only); refine ⟨by omega, by omega, by omega, ?_, hfi9, hfs9⟩; exact Or.inr ⟨by omega, by omega, jBa.part (hr_19p_3.yes (by omega)).1 (by omega) (hr_19p_3.yes (by omega)).2 hr_169_3⟩, ⟨hh_173.ra (by first | (simp only; omega) | omega) (by first | (simp only; omega) | omega) (M1 := [(ta, 2, 1, .int 0)]) [14] rfl ht, hN_173, by rw [ht]; exact hh_173.iv 5 rfl, by rw [ht]; exact hh_173.2.2.2.2.2.2.2.2.sub (L1 := [(jFy, jYb dC dI Gx_173), (jFs11, jSef dC dI Gx_173), (jFl, jLs dC dI ca Gx_173 3 none wl), (jFdo, jDcc dC dI ca Gx_173 none phn_170), (jFcd, jCD dC dI ca Gx_173 none qtd_29)]) [4, 3, 2, 0, 1] rfl⟩⟩, by rw [ht]; try exact hh_173.1.1, fun q h9 hq => by rw [ht]; try exact hh_173.1.2.1 q h9 hq⟩) hh_173.1.2.2 dX11_batch_169
                · skip
                  have c_185' : v3_173.toInt < qs_168.toInt := jb_ge_n (rfl) (rfl) c_185
                  have hn2 := jEd.nx hr_169_2 (k := v3_173.toInt) (by omega) (by omega)
                  have hnb := jEd.nx (hr_169_2.mono (by omega) : jSn _ _ _ 1500) (k := v3_173.toInt) (by omega) (by omega)
                  refine lv_aload_n hx hb dX11_batch_105 rfl (lv_at hl 2 rfl) ?_
                  refine j7_read hx hb hown hK (C := RX1) (T := TX1) (N := 17) rfl hly_3_2 hlk_174 (hh_173.at 11 rfl) dX11_batch_106 ?_
                  refine lv_aload_n hx hb dX11_batch_109 rfl (lv_at hl 2 rfl) ?_
                  refine j7_read hx hb hown hK (C := RX1) (T := TX1) (N := 17) rfl hly_3_5 hlk_182 (hh_173.at 3 rfl) dX11_batch_110 ?_
                  refine lv_iload_n hx hb dX11_batch_113 rfl (lv_at hl 3 rfl) ?_
                  refine j7_ialdM hx hb hK hh_173 hB171 1 rfl (by decide) hg_177 (x := v3_173.toInt) (rfl) (by omega) (j := 0) rfl dX11_batch_114 (fun z_187 ez_187 (hz_187 : 0 ≤ z_187.toInt ∧ z_187.toInt ≤ 1500) => ?_)
                  have hqz_187 : z_187.toInt = jSo gb_168 (v3_173.toInt) := by unfold jSo; rw [ez_187]
                  refine lv_aload_n hx hb dX11_batch_115 rfl (lv_at hl 2 rfl) ?_
                  refine j7_read hx hb hown hK (C := RX1) (T := TX1) (N := 17) rfl hly_3_6 hlk_185 (hh_173.at 4 rfl) dX11_batch_116 ?_
                  refine lv_iload_n hx hb dX11_batch_119 rfl (lv_at hl 3 rfl) ?_
                  refine j7_ialdM hx hb hK hh_173 hB172 1 rfl (by decide) hg_178 (x := v3_173.toInt) (rfl) (by omega) (j := 1) rfl dX11_batch_120 (fun z_188 ez_188 (hz_188 : 0 ≤ z_188.toInt ∧ z_188.toInt ≤ 1500) => ?_)
                  have hqz_188 : z_188.toInt = jSo ge_168 (v3_173.toInt) := by unfold jSo; rw [ez_188]
                  have hsz_189 := hh_173.2.2.2.2.2.1
                  have htt_189 := hh_173.2.2.2.2.2.2.1
                  refine W.room (fun hrc_189 hrs_189 => ?_)
                  refine j_callx (A0 := jA base) (H0 := s.heap) (va_runS (As := [.ref ut_14, .int z_187, .int z_188]) (rest := []) ⟨hx, hb, hml, hown, hts⟩ (uJ7_copyOfRange_feeccUt9 l dC dI ca base B hB hAp hB101 hB173 hB280 Gx_173 H_173 ut_14 z_187 z_188 1500 LC LS) (va_cwS 3 hts (jgS (jWr_77 _ (List.mem_of_getElem? (i := 21) rfl)) (jWr_77 _ (List.mem_of_getElem? (i := 22) rfl)) (jWr_16 _ (List.mem_of_getElem? (i := 7) rfl)) (jWr_77 _ (List.mem_of_getElem? (i := 23) rfl))) rfl rfl rfl (by decide +kernel) ⟨by rw [← hR]; exact Nat.le_of_ble_eq_true rfl, by rw [← hR]; exact Nat.le_of_ble_eq_true rfl⟩) ⟨fun a U g mk q => by obtain ⟨q0, q1, q2, qK, q10, q11, q12, q13⟩ := q; exact ⟨q0, q1, q2, jG.calling g mk a qK, (jK8.calling g mk a q10), q11, q12, q13⟩, fun U hU hW => ⟨rfl, hU, hh_173.2.1, hG.step hW hU hh_173.1, (jK8.warm hW hK8), hg_180, jP.nil, ⟨(by first | (with_reducible assumption) | omega | rfl | fail), (by first | (with_reducible assumption) | omega | rfl | fail), (by first | (with_reducible assumption) | omega | rfl | fail), (by first | (with_reducible assumption) | omega | rfl | fail)⟩⟩⟩ rfl rfl hl.1 rfl (lv_room (Nat.le_of_ble_eq_true rfl)) dX11_batch_121 ⟨by rw [hRc]; omega, by rw [hRs]; omega⟩) hh_173.1 (fun q _ h => h) (fun q h => h) (fun r_190 u_189 t_189 H_189 locs_189 ht_189 hvm_189 hr_190 hb_189 hz_189 hk_189 hS_189 => ?_)
                  rw [ht_189] at hb_189
                  obtain ⟨m_ret_189, G_189⟩ := u_189
                  simp only at hb_189
                  obtain ⟨⟨hb_1891, hb_1892, hb_1893, hb_1894, hb_1895, hb_1896⟩, hN_189, hbK_189⟩ := hb_189
                  have hE9_189 := hN_189
                  have hM_189 := hN_189
                  have hN_189 : (jNk [0, 1, 2, 4, 6, 7, 8, 9, 10, 12, 13, 14, 15, 16]) Gx_173 G_189 := hN_189.sub (by decide)
                  have hh_189 : jSt (dC, dI) B base G0 G_189 EX11_batchU s.heap (zcx_173 + (1)) (zsx_173 + (m_ret_189)) [(spare_13, 3, 4, .int qs_168), (r0, 13, 5, .ref kernel_164), (spare_13, 3, 10, .int pk_51), (spare_13, 3, 5, .ref yb_51), (spare_13, 3, 6, .ref ye_51), (r0, 13, 18, .int (-2)), (r0, 13, 16, .ref spare_13), (r0, 13, 15, .ref H_18.size), (H_18.size, 3, 10, .int qk_29), (H_18.size, 3, 3, .int ql_29), (spare_13, 3, 3, .int ql_18), (spare_13, 3, 2, .ref ut_14), (spare_13, 3, 1, .int (tq.ve spare_13)), (spare_13, 3, 0, .ref uz_14), (ta, 2, 1, .int 0), (r0, 13, 0, .ref ta), (ta, 2, 0, .ref tr_), (r0, 13, 7, .ref op)] [(yb_51, 171, 40, ca 1, gb_168), (ye_51, 172, 40, ca 1, ge_168), (ut_14, 173, 1500, ca 1, gt_18), (uz_14, 174, (tq.ul spare_13), ca 1, (tq.ux spare_13)), (tr_, 197, 4000, ca 0, fa)] [(jFdo, jDcc dC dI ca Gx_173 none phn_170), (jFcd, jCD dC dI ca Gx_173 none qtd_29), (jFl, jLs dC dI ca Gx_173 3 none wl), (jFs11, jSef dC dI Gx_173), (jFy, jYb dC dI Gx_173), ([(2, 0), (2, 1)], jOl (dC, dI) G0 2 [ta] s.heap)] H_189 locs_189 := (hh_173.callG hb_1891 hb_1892 hb_1893 hb_1894 hb_1895 hS_189 rfl (L1 := [(spare_13, 3, 4, .int qs_168), (r0, 13, 5, .ref kernel_164), (spare_13, 3, 10, .int pk_51), (spare_13, 3, 5, .ref yb_51), (spare_13, 3, 6, .ref ye_51), (r0, 13, 18, .int (-2)), (r0, 13, 16, .ref spare_13), (r0, 13, 15, .ref H_18.size), (H_18.size, 3, 10, .int qk_29), (H_18.size, 3, 3, .int ql_29), (spare_13, 3, 3, .int ql_18), (spare_13, 3, 2, .ref ut_14), (spare_13, 3, 1, .int (tq.ve spare_13)), (spare_13, 3, 0, .ref uz_14), (ta, 2, 1, .int 0), (r0, 13, 0, .ref ta), (ta, 2, 0, .ref tr_), (r0, 13, 7, .ref op)]) [0, 1, 2, 3, 4, 5, 6, 7, 8, 9, 10, 11, 12, 13, 14, 15, 16, 17] rfl rfl (M1 := [(yb_51, 171, 40, ca 1, gb_168), (ye_51, 172, 40, ca 1, ge_168), (ut_14, 173, 1500, ca 1, gt_18), (uz_14, 174, (tq.ul spare_13), ca 1, (tq.ux spare_13)), (tr_, 197, 4000, ca 0, fa)]) [0, 1, 2, 3, 4] rfl rfl (I1 := [(jFdo, jDcc dC dI ca Gx_173 none phn_170), (jFcd, jCD dC dI ca Gx_173 none qtd_29), (jFl, jLs dC dI ca Gx_173 3 none wl), (jFs11, jSef dC dI Gx_173), (jFy, jYb dC dI Gx_173), ([(2, 0), (2, 1)], jOl (dC, dI) G0 2 [ta] s.heap)]) [0, 1, 2, 3, 4, 5] rfl rfl).more hb_1896
                  have hNn_189 : (jNk [0, 1, 2, 4, 6, 7, 8, 9, 10, 12, 13, 14, 15, 16]) G0 G_189 := (hN_173).tr hN_189
                  have hg_191 := hb_1892 _ _ hg_174
                  have hg_192 := hb_1892 _ _ hg_175
                  have hg_193 := hb_1892 _ _ hg_176
                  have hg_194 := hb_1892 _ _ hg_177
                  have hg_195 := hb_1892 _ _ hg_178
                  have hg_196 := hb_1892 _ _ hg_179
                  have hg_197 := hb_1892 _ _ hg_180
                  have hg_198 := hb_1892 _ _ hg_181
                  have hg_199 := hb_1892 _ _ hg_182
                  have hg_200 := hb_1892 _ _ hg_183
                  have hg_201 := hb_1892 _ _ hg_184
                  have hd_202 := jDcc.grow (hh_189.iv 0 rfl) hb_1892 hE9_189 (by decide)
                  have hh_203 := hh_189.sub (L1 := [(spare_13, 3, 4, .int qs_168), (r0, 13, 5, .ref kernel_164), (spare_13, 3, 10, .int pk_51), (spare_13, 3, 5, .ref yb_51), (spare_13, 3, 6, .ref ye_51), (r0, 13, 18, .int (-2)), (r0, 13, 16, .ref spare_13), (r0, 13, 15, .ref H_18.size), (H_18.size, 3, 10, .int qk_29), (H_18.size, 3, 3, .int ql_29), (spare_13, 3, 3, .int ql_18), (spare_13, 3, 2, .ref ut_14), (spare_13, 3, 1, .int (tq.ve spare_13)), (spare_13, 3, 0, .ref uz_14), (ta, 2, 1, .int 0), (r0, 13, 0, .ref ta), (ta, 2, 0, .ref tr_), (r0, 13, 7, .ref op)]) [0, 1, 2, 3, 4, 5, 6, 7, 8, 9, 10, 11, 12, 13, 14, 15, 16, 17] rfl (M1 := [(yb_51, 171, 40, ca 1, gb_168), (ye_51, 172, 40, ca 1, ge_168), (ut_14, 173, 1500, ca 1, gt_18), (uz_14, 174, (tq.ul spare_13), ca 1, (tq.ux spare_13)), (tr_, 197, 4000, ca 0, fa)]) [0, 1, 2, 3, 4] rfl (I1 := [(jFcd, jCD dC dI ca Gx_173 none qtd_29), (jFl, jLs dC dI ca Gx_173 3 none wl), (jFs11, jSef dC dI Gx_173), (jFy, jYb dC dI Gx_173), ([(2, 0), (2, 1)], jOl (dC, dI) G0 2 [ta] s.heap)]) [1, 2, 3, 4, 5] rfl
                  clear hh_189
                  have hh_204 := hh_203.addI (jDcc.ie hd_202)
                  clear hh_203
                  have hd_205 := jCD.grow (hh_204.iv 1 rfl) hb_1892 hE9_189 (by decide)
                  have hh_206 := hh_204.sub (L1 := [(spare_13, 3, 4, .int qs_168), (r0, 13, 5, .ref kernel_164), (spare_13, 3, 10, .int pk_51), (spare_13, 3, 5, .ref yb_51), (spare_13, 3, 6, .ref ye_51), (r0, 13, 18, .int (-2)), (r0, 13, 16, .ref spare_13), (r0, 13, 15, .ref H_18.size), (H_18.size, 3, 10, .int qk_29), (H_18.size, 3, 3, .int ql_29), (spare_13, 3, 3, .int ql_18), (spare_13, 3, 2, .ref ut_14), (spare_13, 3, 1, .int (tq.ve spare_13)), (spare_13, 3, 0, .ref uz_14), (ta, 2, 1, .int 0), (r0, 13, 0, .ref ta), (ta, 2, 0, .ref tr_), (r0, 13, 7, .ref op)]) [0, 1, 2, 3, 4, 5, 6, 7, 8, 9, 10, 11, 12, 13, 14, 15, 16, 17] rfl (M1 := [(yb_51, 171, 40, ca 1, gb_168), (ye_51, 172, 40, ca 1, ge_168), (ut_14, 173, 1500, ca 1, gt_18), (uz_14, 174, (tq.ul spare_13), ca 1, (tq.ux spare_13)), (tr_, 197, 4000, ca 0, fa)]) [0, 1, 2, 3, 4] rfl (I1 := [(jFdo, jDcc dC dI ca G_189 none phn_170), (jFl, jLs dC dI ca Gx_173 3 none wl), (jFs11, jSef dC dI Gx_173), (jFy, jYb dC dI Gx_173), ([(2, 0), (2, 1)], jOl (dC, dI) G0 2 [ta] s.heap)]) [0, 2, 3, 4, 5] rfl
                  clear hh_204
                  have hh_207 := hh_206.addI (jCD.ie hd_205)
                  clear hh_206
                  have hd_208 := jLs.grow (hh_207.iv 2 rfl) hb_1892 hN_189 (by decide)
                  have hh_209 := hh_207.sub (L1 := [(spare_13, 3, 4, .int qs_168), (r0, 13, 5, .ref kernel_164), (spare_13, 3, 10, .int pk_51), (spare_13, 3, 5, .ref yb_51), (spare_13, 3, 6, .ref ye_51), (r0, 13, 18, .int (-2)), (r0, 13, 16, .ref spare_13), (r0, 13, 15, .ref H_18.size), (H_18.size, 3, 10, .int qk_29), (H_18.size, 3, 3, .int ql_29), (spare_13, 3, 3, .int ql_18), (spare_13, 3, 2, .ref ut_14), (spare_13, 3, 1, .int (tq.ve spare_13)), (spare_13, 3, 0, .ref uz_14), (ta, 2, 1, .int 0), (r0, 13, 0, .ref ta), (ta, 2, 0, .ref tr_), (r0, 13, 7, .ref op)]) [0, 1, 2, 3, 4, 5, 6, 7, 8, 9, 10, 11, 12, 13, 14, 15, 16, 17] rfl (M1 := [(yb_51, 171, 40, ca 1, gb_168), (ye_51, 172, 40, ca 1, ge_168), (ut_14, 173, 1500, ca 1, gt_18), (uz_14, 174, (tq.ul spare_13), ca 1, (tq.ux spare_13)), (tr_, 197, 4000, ca 0, fa)]) [0, 1, 2, 3, 4] rfl (I1 := [(jFcd, jCD dC dI ca G_189 none qtd_29), (jFdo, jDcc dC dI ca G_189 none phn_170), (jFs11, jSef dC dI Gx_173), (jFy, jYb dC dI Gx_173), ([(2, 0), (2, 1)], jOl (dC, dI) G0 2 [ta] s.heap)]) [0, 1, 3, 4, 5] rfl
                  clear hh_207
                  have hh_210 := hh_209.addI (jLs.ie hd_208)
                  clear hh_209
                  have hd_211 := jSef.grow (hh_210.iv 3 rfl) hb_1892 hM_189 (by decide)
                  have hh_212 := hh_210.sub (L1 := [(spare_13, 3, 4, .int qs_168), (r0, 13, 5, .ref kernel_164), (spare_13, 3, 10, .int pk_51), (spare_13, 3, 5, .ref yb_51), (spare_13, 3, 6, .ref ye_51), (r0, 13, 18, .int (-2)), (r0, 13, 16, .ref spare_13), (r0, 13, 15, .ref H_18.size), (H_18.size, 3, 10, .int qk_29), (H_18.size, 3, 3, .int ql_29), (spare_13, 3, 3, .int ql_18), (spare_13, 3, 2, .ref ut_14), (spare_13, 3, 1, .int (tq.ve spare_13)), (spare_13, 3, 0, .ref uz_14), (ta, 2, 1, .int 0), (r0, 13, 0, .ref ta), (ta, 2, 0, .ref tr_), (r0, 13, 7, .ref op)]) [0, 1, 2, 3, 4, 5, 6, 7, 8, 9, 10, 11, 12, 13, 14, 15, 16, 17] rfl (M1 := [(yb_51, 171, 40, ca 1, gb_168), (ye_51, 172, 40, ca 1, ge_168), (ut_14, 173, 1500, ca 1, gt_18), (uz_14, 174, (tq.ul spare_13), ca 1, (tq.ux spare_13)), (tr_, 197, 4000, ca 0, fa)]) [0, 1, 2, 3, 4] rfl (I1 := [(jFl, jLs dC dI ca G_189 3 none wl), (jFcd, jCD dC dI ca G_189 none qtd_29), (jFdo, jDcc dC dI ca G_189 none phn_170), (jFy, jYb dC dI Gx_173), ([(2, 0), (2, 1)], jOl (dC, dI) G0 2 [ta] s.heap)]) [0, 1, 2, 4, 5] rfl
                  clear hh_210
                  have hh_213 := hh_212.addI (jSef.ie hd_211)
                  clear hh_212
                  have hd_214 := jYb.grow (hh_213.iv 4 rfl) hb_1892 hN_189 (by decide)
                  have hh_215 := hh_213.sub (L1 := [(spare_13, 3, 4, .int qs_168), (r0, 13, 5, .ref kernel_164), (spare_13, 3, 10, .int pk_51), (spare_13, 3, 5, .ref yb_51), (spare_13, 3, 6, .ref ye_51), (r0, 13, 18, .int (-2)), (r0, 13, 16, .ref spare_13), (r0, 13, 15, .ref H_18.size), (H_18.size, 3, 10, .int qk_29), (H_18.size, 3, 3, .int ql_29), (spare_13, 3, 3, .int ql_18), (spare_13, 3, 2, .ref ut_14), (spare_13, 3, 1, .int (tq.ve spare_13)), (spare_13, 3, 0, .ref uz_14), (ta, 2, 1, .int 0), (r0, 13, 0, .ref ta), (ta, 2, 0, .ref tr_), (r0, 13, 7, .ref op)]) [0, 1, 2, 3, 4, 5, 6, 7, 8, 9, 10, 11, 12, 13, 14, 15, 16, 17] rfl (M1 := [(yb_51, 171, 40, ca 1, gb_168), (ye_51, 172, 40, ca 1, ge_168), (ut_14, 173, 1500, ca 1, gt_18), (uz_14, 174, (tq.ul spare_13), ca 1, (tq.ux spare_13)), (tr_, 197, 4000, ca 0, fa)]) [0, 1, 2, 3, 4] rfl (I1 := [(jFs11, jSef dC dI G_189), (jFl, jLs dC dI ca G_189 3 none wl), (jFcd, jCD dC dI ca G_189 none qtd_29), (jFdo, jDcc dC dI ca G_189 none phn_170), ([(2, 0), (2, 1)], jOl (dC, dI) G0 2 [ta] s.heap)]) [0, 1, 2, 3, 5] rfl
                  clear hh_213
                  have hh_216 := hh_215.addI (jYb.ie hd_214)
                  clear hh_215
                  obtain ⟨hr_190, hr_190n, hr_190p⟩ := hr_190
                  try simp only at hr_190p
                  obtain ⟨ret_217, rfl, hg_ret_217⟩ := hr_190
                  have hsy_189 : s.heap.size ≤ ret_217 := Nat.le_trans hh_173.1.1 hr_190n.le
                  refine lv_astore (lv' := [(4, .ref ret_217), (0, .ref r0), (1, .int a1), (2, .ref spare_13), (3, .int v3_173)]) hx hb dX11_batch_124 hl (by decide) rfl (fun ls hl => ?_)
                  refine lv_aload_n hx hb dX11_batch_126 rfl (lv_at hl 3 rfl) ?_
                  obtain ⟨v_218, hv_218, hh_219⟩ := hh_216.pin (C := RX1) (T := TX1) (N := 17) hB3 rfl (by decide) hg_192 (i := 9) (by decide) rfl
                  clear hh_216
                  obtain ⟨behind_220, rfl, hg_behind_220⟩ := hv_218
                  refine j7_read hx hb hown hK (C := RX1) (T := TX1) (N := 17) rfl hly_3_9 hlk_178 (hh_219.at 0 rfl) dX11_batch_127 ?_
                  refine lv_iload_n hx hb dX11_batch_130 rfl (lv_at hl 4 rfl) ?_
                  refine lv_aload_n hx hb dX11_batch_131 rfl (lv_at hl 1 rfl) ?_
                  refine j7_read hx hb hown hK (C := RX11) (T := TX11) (N := 19) rfl hly_13_5 hlk_41 (hh_219.at 2 rfl) dX11_batch_132 ?_
                  refine lv_aload_n hx hb dX11_batch_135 rfl (lv_at hl 3 rfl) ?_
                  refine lv_iload_n hx hb dX11_batch_136 rfl (lv_at hl 4 rfl) ?_
                  refine lv_aload_n hx hb dX11_batch_137 rfl (lv_at hl 1 rfl) ?_
                  refine j7_read hx hb hown hK (C := RX11) (T := TX11) (N := 19) rfl hly_13_5 hlk_41 (hh_219.at 2 rfl) dX11_batch_138 ?_
                  obtain ⟨v_221, hv_221, hh_222⟩ := hh_219.pin (C := RX5) (T := TX5) (N := 11) hB7 rfl (by decide) hg_193 (i := 2) (by decide) rfl
                  clear hh_219
                  obtain ⟨start_223, rfl, hg_start_223⟩ := hv_221
                  refine j7_read hx hb hown hK (C := RX5) (T := TX5) (N := 11) rfl hly_7_2 hlk_217 (hh_222.at 0 rfl) dX11_batch_141 ?_
                  have hsz_224 := hh_222.2.2.2.2.2.1
                  have htt_224 := hh_222.2.2.2.2.2.2.1
                  refine W.room (fun hrc_224 hrs_224 => ?_)
                  refine j_callx (A0 := jA base) (H0 := s.heap) (va_runV (As := [.int v3_173, .ref start_223]) (rest := [.ref kernel_164, .int v3_173, .ref behind_220]) ⟨hx, hb, hml, hown, hts⟩ (uX1_stateBehind l dC dI ca base B hB hAp hB3 hB11 hB210 G_189 H_189 spare_13 v3_173 start_223 1) (cwV 2 hts (jgV (jWr_30 _ (List.mem_of_getElem? (i := 9) rfl)) (jWr_30 _ (List.mem_of_getElem? (i := 10) rfl)) (jWr_30 _ (List.mem_of_getElem? (i := 11) rfl)) (jWr_2 _ (List.mem_of_getElem? (i := 21) rfl)) (jWr_30 _ (List.mem_of_getElem? (i := 12) rfl))) rfl rfl rfl (by decide +kernel) ⟨by rw [← hR]; exact Nat.le_of_ble_eq_true rfl, by rw [← hR]; exact Nat.le_of_ble_eq_true rfl⟩) ⟨fun a U g mk q => by obtain ⟨q0, q1, q2, qK, q10, q11, q12, q13, q14⟩ := q; exact ⟨q0, q1, q2, jG.calling g mk a qK, (va_K.moved (Vm.Alike.refl U.vm) q10), q11, q12, q13, q14⟩, hh_222.recv (C := RX1) (T := TX1) (N := 17) hB3 rfl (by decide) hg_192 hK, fun U hU hW => ⟨rfl, hU, hh_222.2.1, hG.step hW hU hh_222.1, va_K.moved hW.alike hK2, hg_192, hg_start_223, jP.nil, trivial⟩⟩ rfl rfl hl.1 rfl (lv_room (Nat.le_of_ble_eq_true rfl)) dX11_batch_144 ⟨by rw [hRc]; show _ + 0 ≤ _; omega, by rw [hRs]; show _ + 0 ≤ _; omega⟩) hh_222.1 (fun q _ h => h) (fun q h => h) (fun r_225 u_224 t_224 H_224 locs_224 ht_224 hvm_224 hr_225 hb_224 hz_224 hk_224 hS_224 => ?_)
                  rw [ht_224] at hb_224
                  obtain ⟨hb_2241, hb_2242, hb_2243, hb_2244, hb_2245⟩ := hb_224
                  have hh_224 : jSt (dC, dI) B base G0 G_189 EX11_batchU s.heap (zcx_173 + (1)) (zsx_173 + (m_ret_189)) [(kernel_164, 7, 2, .ref start_223), (spare_13, 3, 9, .ref behind_220), (spare_13, 3, 4, .int qs_168), (r0, 13, 5, .ref kernel_164), (spare_13, 3, 10, .int pk_51), (spare_13, 3, 5, .ref yb_51), (spare_13, 3, 6, .ref ye_51), (r0, 13, 18, .int (-2)), (r0, 13, 16, .ref spare_13), (r0, 13, 15, .ref H_18.size), (H_18.size, 3, 10, .int qk_29), (H_18.size, 3, 3, .int ql_29), (spare_13, 3, 3, .int ql_18), (spare_13, 3, 2, .ref ut_14), (spare_13, 3, 1, .int (tq.ve spare_13)), (spare_13, 3, 0, .ref uz_14), (ta, 2, 1, .int 0), (r0, 13, 0, .ref ta), (ta, 2, 0, .ref tr_), (r0, 13, 7, .ref op)] [(yb_51, 171, 40, ca 1, gb_168), (ye_51, 172, 40, ca 1, ge_168), (ut_14, 173, 1500, ca 1, gt_18), (uz_14, 174, (tq.ul spare_13), ca 1, (tq.ux spare_13)), (tr_, 197, 4000, ca 0, fa)] [(jFy, jYb dC dI G_189), (jFs11, jSef dC dI G_189), (jFl, jLs dC dI ca G_189 3 none wl), (jFcd, jCD dC dI ca G_189 none qtd_29), (jFdo, jDcc dC dI ca G_189 none phn_170), ([(2, 0), (2, 1)], jOl (dC, dI) G0 2 [ta] s.heap)] H_224 locs_224 := ((hh_222.call hb_2241 hb_2242 hb_2243 hb_2244 hS_224 rfl (L1 := [(kernel_164, 7, 2, .ref start_223), (spare_13, 3, 9, .ref behind_220), (spare_13, 3, 4, .int qs_168), (r0, 13, 5, .ref kernel_164), (spare_13, 3, 10, .int pk_51), (spare_13, 3, 5, .ref yb_51), (spare_13, 3, 6, .ref ye_51), (r0, 13, 18, .int (-2)), (r0, 13, 16, .ref spare_13), (r0, 13, 15, .ref H_18.size), (H_18.size, 3, 10, .int qk_29), (H_18.size, 3, 3, .int ql_29), (spare_13, 3, 3, .int ql_18), (spare_13, 3, 2, .ref ut_14), (spare_13, 3, 1, .int (tq.ve spare_13)), (spare_13, 3, 0, .ref uz_14), (ta, 2, 1, .int 0), (r0, 13, 0, .ref ta), (ta, 2, 0, .ref tr_), (r0, 13, 7, .ref op)]) [0, 1, 2, 3, 4, 5, 6, 7, 8, 9, 10, 11, 12, 13, 14, 15, 16, 17, 18, 19] rfl rfl (M1 := [(yb_51, 171, 40, ca 1, gb_168), (ye_51, 172, 40, ca 1, ge_168), (ut_14, 173, 1500, ca 1, gt_18), (uz_14, 174, (tq.ul spare_13), ca 1, (tq.ux spare_13)), (tr_, 197, 4000, ca 0, fa)]) [0, 1, 2, 3, 4] rfl rfl (I1 := [(jFy, jYb dC dI G_189), (jFs11, jSef dC dI G_189), (jFl, jLs dC dI ca G_189 3 none wl), (jFcd, jCD dC dI ca G_189 none qtd_29), (jFdo, jDcc dC dI ca G_189 none phn_170), ([(2, 0), (2, 1)], jOl (dC, dI) G0 2 [ta] s.heap)]) [0, 1, 2, 3, 4, 5] rfl rfl).more hb_2245)
                  clear hh_222 ht_224 hvm_224 hz_224 hk_224 hS_224 hb_2241 hb_2242 hb_2243 hb_2244 hb_2245
                  obtain ⟨ret_226, rfl, hg_ret_226⟩ := hr_225
                  refine lv_aload hx hb dX11_batch_147 (lv_at hl 0 rfl) ?_
                  refine lv_aload_n hx hb dX11_batch_149 rfl (lv_at hl 3 rfl) ?_
                  obtain ⟨v_227, hv_227, hh_228⟩ := hh_224.pin (C := RX1) (T := TX1) (N := 17) hB3 rfl (by decide) hg_192 (i := 8) (by decide) rfl
                  clear hh_224
                  obtain ⟨early_229, rfl, hg_early_229⟩ := hv_227
                  refine j7_read hx hb hown hK (C := RX1) (T := TX1) (N := 17) rfl hly_3_8 hlk_225 (hh_228.at 0 rfl) dX11_batch_150 ?_
                  refine lv_iload_n hx hb dX11_batch_153 rfl (lv_at hl 4 rfl) ?_
                  refine j7_iald hx hb hK hh_228 hB101 1 rfl (by decide) hg_early_229 (x := v3_173.toInt) (rfl) (by omega) dX11_batch_154 (fun z_230 (hz_230 : True) => ?_)
                  have hsz_231 := hh_228.2.2.2.2.2.1
                  have htt_231 := hh_228.2.2.2.2.2.2.1
                  refine W.room (fun hrc_231 hrs_231 => ?_)
                  refine j_callx (A0 := jA base) (H0 := s.heap) (va_runV (As := [.ref ret_226, .ref ret_217, .int z_230]) (rest := [.int v3_173, .ref behind_220]) ⟨hx, hb, hml, hown, hts⟩ (uX5_checkS l dC dI ca base B hB hAp hB5 hB7 hB8 hB11 hB12 hB101 hB102 hB132 hB133 hB211 hB214 hB280 hB290 hB291 hB292 hB293 hB313 hB315 G_189 H_224 kernel_164 ret_226 ret_217 z_230 m_ret_189 (min 1 (m_ret_189 / 3)) LC LS) (cwV 3 hts (jgV (jWr_78 _ (List.mem_of_getElem? (i := 14) rfl)) (jWr_78 _ (List.mem_of_getElem? (i := 15) rfl)) (jWr_78 _ (List.mem_of_getElem? (i := 16) rfl)) (jWr_2 _ (List.mem_of_getElem? (i := 4) rfl)) (jWr_78 _ (List.mem_of_getElem? (i := 17) rfl))) rfl rfl rfl (by decide +kernel) ⟨by rw [← hR]; exact Nat.le_of_ble_eq_true rfl, by rw [← hR]; exact Nat.le_of_ble_eq_true rfl⟩) ⟨fun a U g mk q => by obtain ⟨q0, q1, q2, qK, q10, q11, q12, q13, q14, q15, q16, q17, q18⟩ := q; exact ⟨q0, q1, q2, jG.calling g mk a qK, (va_K.moved (Vm.Alike.refl U.vm) q10), (jK5.moved (Vm.Alike.refl U.vm) q11), (jK6.moved (Vm.Alike.refl U.vm) q12), q13, q14, q15, q16, q17, q18⟩, hh_228.recv (C := RX5) (T := TX5) (N := 11) hB7 rfl (by decide) hg_193 hK, fun U hU hW => ⟨rfl, hU, hh_228.2.1, hG.step hW hU hh_228.1, va_K.moved hW.alike hK2, jK5.moved hW.alike hK5, jK6.moved hW.alike hK6, hg_193, hg_ret_226, hg_ret_217, jP.nil, (hh_228.2.2.2.2.2.2.2.2.sub (L1 := [(jFs11, jSef dC dI G_189)]) [1] rfl), ⟨(by first | (with_reducible assumption) | omega | rfl | fail), (by first | (with_reducible assumption) | assumption | omega | rfl | fail)⟩⟩⟩ rfl rfl hl.1 rfl (lv_room (Nat.le_of_ble_eq_true rfl)) dX11_batch_155 ⟨by rw [hRc]; omega, by rw [hRs]; omega⟩) hh_228.1 (fun q _ h => h) (fun q h => h) (fun r_232 u_231 t_231 H_231 locs_231 ht_231 hvm_231 hr_232 hb_231 hz_231 hk_231 hS_231 => ?_)
                  rw [ht_231] at hb_231
                  obtain ⟨G_231, rfl⟩ : ∃ z, z = u_231 := ⟨_, rfl⟩
                  try simp only at hb_231
                  obtain ⟨⟨hb_2311, hb_2312, hb_2313, hb_2314, hb_2315, hb_2316⟩, hN_231, hbE_231⟩ := hb_231
                  have hE9_231 := hN_231
                  have hN_231 : (jNk [0, 1, 2, 4, 6, 7, 8, 9, 10, 12, 13, 14, 15, 16]) G_189 G_231 := hN_231.sub (by decide)
                  have hh_231 : jSt (dC, dI) B base G0 G_231 EX11_batchU s.heap ((zcx_173 + (1)) + (23)) ((zsx_173 + (m_ret_189)) + ((183 + 336 * (min 1 (m_ret_189 / 3))))) [(spare_13, 3, 8, .ref early_229), (kernel_164, 7, 2, .ref start_223), (spare_13, 3, 9, .ref behind_220), (spare_13, 3, 4, .int qs_168), (r0, 13, 5, .ref kernel_164), (spare_13, 3, 10, .int pk_51), (spare_13, 3, 5, .ref yb_51), (spare_13, 3, 6, .ref ye_51), (r0, 13, 18, .int (-2)), (r0, 13, 16, .ref spare_13), (r0, 13, 15, .ref H_18.size), (H_18.size, 3, 10, .int qk_29), (H_18.size, 3, 3, .int ql_29), (spare_13, 3, 3, .int ql_18), (spare_13, 3, 2, .ref ut_14), (spare_13, 3, 1, .int (tq.ve spare_13)), (spare_13, 3, 0, .ref uz_14), (ta, 2, 1, .int 0), (r0, 13, 0, .ref ta), (ta, 2, 0, .ref tr_), (r0, 13, 7, .ref op)] [(yb_51, 171, 40, ca 1, gb_168), (ye_51, 172, 40, ca 1, ge_168), (ut_14, 173, 1500, ca 1, gt_18), (uz_14, 174, (tq.ul spare_13), ca 1, (tq.ux spare_13)), (tr_, 197, 4000, ca 0, fa)] [(jFy, jYb dC dI G_189), (jFl, jLs dC dI ca G_189 3 none wl), (jFcd, jCD dC dI ca G_189 none qtd_29), (jFdo, jDcc dC dI ca G_189 none phn_170), ([(2, 0), (2, 1)], jOl (dC, dI) G0 2 [ta] s.heap)] H_231 locs_231 := (hh_228.callG hb_2311 hb_2312 hb_2313 hb_2314 hb_2315 hS_231 rfl (L1 := [(spare_13, 3, 8, .ref early_229), (kernel_164, 7, 2, .ref start_223), (spare_13, 3, 9, .ref behind_220), (spare_13, 3, 4, .int qs_168), (r0, 13, 5, .ref kernel_164), (spare_13, 3, 10, .int pk_51), (spare_13, 3, 5, .ref yb_51), (spare_13, 3, 6, .ref ye_51), (r0, 13, 18, .int (-2)), (r0, 13, 16, .ref spare_13), (r0, 13, 15, .ref H_18.size), (H_18.size, 3, 10, .int qk_29), (H_18.size, 3, 3, .int ql_29), (spare_13, 3, 3, .int ql_18), (spare_13, 3, 2, .ref ut_14), (spare_13, 3, 1, .int (tq.ve spare_13)), (spare_13, 3, 0, .ref uz_14), (ta, 2, 1, .int 0), (r0, 13, 0, .ref ta), (ta, 2, 0, .ref tr_), (r0, 13, 7, .ref op)]) [0, 1, 2, 3, 4, 5, 6, 7, 8, 9, 10, 11, 12, 13, 14, 15, 16, 17, 18, 19, 20] rfl rfl (M1 := [(yb_51, 171, 40, ca 1, gb_168), (ye_51, 172, 40, ca 1, ge_168), (ut_14, 173, 1500, ca 1, gt_18), (uz_14, 174, (tq.ul spare_13), ca 1, (tq.ux spare_13)), (tr_, 197, 4000, ca 0, fa)]) [0, 1, 2, 3, 4] rfl rfl (I1 := [(jFy, jYb dC dI G_189), (jFl, jLs dC dI ca G_189 3 none wl), (jFcd, jCD dC dI ca G_189 none qtd_29), (jFdo, jDcc dC dI ca G_189 none phn_170), ([(2, 0), (2, 1)], jOl (dC, dI) G0 2 [ta] s.heap)]) [0, 2, 3, 4, 5] rfl rfl).more hb_2316
                  have hNn_231 : (jNk [0, 1, 2, 4, 6, 7, 8, 9, 10, 12, 13, 14, 15, 16]) G0 G_231 := (hNn_189).tr hN_231
                  have hg_233 := hb_2312 _ _ hg_ret_217
                  have hg_234 := hb_2312 _ _ hg_191
                  have hg_235 := hb_2312 _ _ hg_192
                  have hg_236 := hb_2312 _ _ hg_behind_220
                  have hg_237 := hb_2312 _ _ hg_early_229
                  have hg_238 := hb_2312 _ _ hg_start_223
                  have hg_239 := hb_2312 _ _ hg_193
                  have hg_240 := hb_2312 _ _ hg_194
                  have hg_241 := hb_2312 _ _ hg_195
                  have hg_242 := hb_2312 _ _ hg_196
                  have hg_243 := hb_2312 _ _ hg_197
                  have hg_244 := hb_2312 _ _ hg_198
                  have hg_245 := hb_2312 _ _ hg_199
                  have hg_246 := hb_2312 _ _ hg_200
                  have hg_247 := hb_2312 _ _ hg_201
                  have hd_248 := jYb.grow (hh_231.iv 0 rfl) hb_2312 hN_231 (by decide)
                  have hh_249 := hh_231.sub (L1 := [(spare_13, 3, 8, .ref early_229), (kernel_164, 7, 2, .ref start_223), (spare_13, 3, 9, .ref behind_220), (spare_13, 3, 4, .int qs_168), (r0, 13, 5, .ref kernel_164), (spare_13, 3, 10, .int pk_51), (spare_13, 3, 5, .ref yb_51), (spare_13, 3, 6, .ref ye_51), (r0, 13, 18, .int (-2)), (r0, 13, 16, .ref spare_13), (r0, 13, 15, .ref H_18.size), (H_18.size, 3, 10, .int qk_29), (H_18.size, 3, 3, .int ql_29), (spare_13, 3, 3, .int ql_18), (spare_13, 3, 2, .ref ut_14), (spare_13, 3, 1, .int (tq.ve spare_13)), (spare_13, 3, 0, .ref uz_14), (ta, 2, 1, .int 0), (r0, 13, 0, .ref ta), (ta, 2, 0, .ref tr_), (r0, 13, 7, .ref op)]) [0, 1, 2, 3, 4, 5, 6, 7, 8, 9, 10, 11, 12, 13, 14, 15, 16, 17, 18, 19, 20] rfl (M1 := [(yb_51, 171, 40, ca 1, gb_168), (ye_51, 172, 40, ca 1, ge_168), (ut_14, 173, 1500, ca 1, gt_18), (uz_14, 174, (tq.ul spare_13), ca 1, (tq.ux spare_13)), (tr_, 197, 4000, ca 0, fa)]) [0, 1, 2, 3, 4] rfl (I1 := [(jFl, jLs dC dI ca G_189 3 none wl), (jFcd, jCD dC dI ca G_189 none qtd_29), (jFdo, jDcc dC dI ca G_189 none phn_170), ([(2, 0), (2, 1)], jOl (dC, dI) G0 2 [ta] s.heap)]) [1, 2, 3, 4] rfl
                  clear hh_231
                  have hh_250 := hh_249.addI (jYb.ie hd_248)
                  clear hh_249
                  have hd_251 := jLs.grow (hh_250.iv 1 rfl) hb_2312 hN_231 (by decide)
                  have hh_252 := hh_250.sub (L1 := [(spare_13, 3, 8, .ref early_229), (kernel_164, 7, 2, .ref start_223), (spare_13, 3, 9, .ref behind_220), (spare_13, 3, 4, .int qs_168), (r0, 13, 5, .ref kernel_164), (spare_13, 3, 10, .int pk_51), (spare_13, 3, 5, .ref yb_51), (spare_13, 3, 6, .ref ye_51), (r0, 13, 18, .int (-2)), (r0, 13, 16, .ref spare_13), (r0, 13, 15, .ref H_18.size), (H_18.size, 3, 10, .int qk_29), (H_18.size, 3, 3, .int ql_29), (spare_13, 3, 3, .int ql_18), (spare_13, 3, 2, .ref ut_14), (spare_13, 3, 1, .int (tq.ve spare_13)), (spare_13, 3, 0, .ref uz_14), (ta, 2, 1, .int 0), (r0, 13, 0, .ref ta), (ta, 2, 0, .ref tr_), (r0, 13, 7, .ref op)]) [0, 1, 2, 3, 4, 5, 6, 7, 8, 9, 10, 11, 12, 13, 14, 15, 16, 17, 18, 19, 20] rfl (M1 := [(yb_51, 171, 40, ca 1, gb_168), (ye_51, 172, 40, ca 1, ge_168), (ut_14, 173, 1500, ca 1, gt_18), (uz_14, 174, (tq.ul spare_13), ca 1, (tq.ux spare_13)), (tr_, 197, 4000, ca 0, fa)]) [0, 1, 2, 3, 4] rfl (I1 := [(jFy, jYb dC dI G_231), (jFcd, jCD dC dI ca G_189 none qtd_29), (jFdo, jDcc dC dI ca G_189 none phn_170), ([(2, 0), (2, 1)], jOl (dC, dI) G0 2 [ta] s.heap)]) [0, 2, 3, 4] rfl
                  clear hh_250
                  have hh_253 := hh_252.addI (jLs.ie hd_251)
                  clear hh_252
                  have hd_254 := jCD.grow (hh_253.iv 2 rfl) hb_2312 hE9_231 (by decide)
                  have hh_255 := hh_253.sub (L1 := [(spare_13, 3, 8, .ref early_229), (kernel_164, 7, 2, .ref start_223), (spare_13, 3, 9, .ref behind_220), (spare_13, 3, 4, .int qs_168), (r0, 13, 5, .ref kernel_164), (spare_13, 3, 10, .int pk_51), (spare_13, 3, 5, .ref yb_51), (spare_13, 3, 6, .ref ye_51), (r0, 13, 18, .int (-2)), (r0, 13, 16, .ref spare_13), (r0, 13, 15, .ref H_18.size), (H_18.size, 3, 10, .int qk_29), (H_18.size, 3, 3, .int ql_29), (spare_13, 3, 3, .int ql_18), (spare_13, 3, 2, .ref ut_14), (spare_13, 3, 1, .int (tq.ve spare_13)), (spare_13, 3, 0, .ref uz_14), (ta, 2, 1, .int 0), (r0, 13, 0, .ref ta), (ta, 2, 0, .ref tr_), (r0, 13, 7, .ref op)]) [0, 1, 2, 3, 4, 5, 6, 7, 8, 9, 10, 11, 12, 13, 14, 15, 16, 17, 18, 19, 20] rfl (M1 := [(yb_51, 171, 40, ca 1, gb_168), (ye_51, 172, 40, ca 1, ge_168), (ut_14, 173, 1500, ca 1, gt_18), (uz_14, 174, (tq.ul spare_13), ca 1, (tq.ux spare_13)), (tr_, 197, 4000, ca 0, fa)]) [0, 1, 2, 3, 4] rfl (I1 := [(jFl, jLs dC dI ca G_231 3 none wl), (jFy, jYb dC dI G_231), (jFdo, jDcc dC dI ca G_189 none phn_170), ([(2, 0), (2, 1)], jOl (dC, dI) G0 2 [ta] s.heap)]) [0, 1, 3, 4] rfl
                  clear hh_253
                  have hh_256 := hh_255.addI (jCD.ie hd_254)
                  clear hh_255
                  have hd_257 := jDcc.grow (hh_256.iv 3 rfl) hb_2312 hE9_231 (by decide)
                  have hh_258 := hh_256.sub (L1 := [(spare_13, 3, 8, .ref early_229), (kernel_164, 7, 2, .ref start_223), (spare_13, 3, 9, .ref behind_220), (spare_13, 3, 4, .int qs_168), (r0, 13, 5, .ref kernel_164), (spare_13, 3, 10, .int pk_51), (spare_13, 3, 5, .ref yb_51), (spare_13, 3, 6, .ref ye_51), (r0, 13, 18, .int (-2)), (r0, 13, 16, .ref spare_13), (r0, 13, 15, .ref H_18.size), (H_18.size, 3, 10, .int qk_29), (H_18.size, 3, 3, .int ql_29), (spare_13, 3, 3, .int ql_18), (spare_13, 3, 2, .ref ut_14), (spare_13, 3, 1, .int (tq.ve spare_13)), (spare_13, 3, 0, .ref uz_14), (ta, 2, 1, .int 0), (r0, 13, 0, .ref ta), (ta, 2, 0, .ref tr_), (r0, 13, 7, .ref op)]) [0, 1, 2, 3, 4, 5, 6, 7, 8, 9, 10, 11, 12, 13, 14, 15, 16, 17, 18, 19, 20] rfl (M1 := [(yb_51, 171, 40, ca 1, gb_168), (ye_51, 172, 40, ca 1, ge_168), (ut_14, 173, 1500, ca 1, gt_18), (uz_14, 174, (tq.ul spare_13), ca 1, (tq.ux spare_13)), (tr_, 197, 4000, ca 0, fa)]) [0, 1, 2, 3, 4] rfl (I1 := [(jFcd, jCD dC dI ca G_231 none qtd_29), (jFl, jLs dC dI ca G_231 3 none wl), (jFy, jYb dC dI G_231), ([(2, 0), (2, 1)], jOl (dC, dI) G0 2 [ta] s.heap)]) [0, 1, 2, 4] rfl
                  clear hh_256
                  have hh_259 := hh_258.addI (jDcc.ie hd_257)
                  clear hh_258
                  have hh_260 := hh_259.addIs hbE_231
                  obtain ⟨hr_232, hr_232p⟩ := hr_232
                  try simp only at hr_232p
                  obtain ⟨ret_261, rfl, hg_ret_261⟩ := hr_232
                  refine j7_qast hx hb hK2 hh_260 hB hB210 2 rfl (by decide) (by decide) rfl rfl rfl hg_236 (x := v3_173.toInt) (rfl) (by omega) hB11 (T := TX9) (N := 9) rfl (by decide) hg_ret_261 (Or.inr ⟨_, rfl, hg_ret_261⟩) dX11_batch_158 (fun H_262 locs_262 hh_262 => ?_)
                  clear hh_260
                  obtain ⟨z_263, ez_263⟩ : ∃ y : Int32, y = v3_173 + 1 := ⟨_, rfl⟩
                  refine lv_iinc (v := z_263) (lv' := [(3, .int z_263), (4, .ref ret_217), (0, .ref r0), (1, .int a1), (2, .ref spare_13)]) hx hb dX11_batch_159 hl (k := 4) rfl (by rw [ez_263]; rfl) (by decide) rfl (fun ls hl => ?_)
                  have hz_263 : z_263.toInt = v3_173.toInt + 1 := by rw [ez_263]; exact jb_iadd2 (rfl) (by decide) (by omega)
                  have hje := jEd.to hnb.2.2.1 (k1 := z_263.toInt) (by omega)
                  refine lv_goto (tgt := 97) hx hb dX11_batch_162 (by decide) ?_
                  refine W.tight (c2 := ((zcx_173 + (1)) + (23))) (n2 := ((zsx_173 + (m_ret_189)) + ((183 + 336 * (min 1 (m_ret_189 / 3)))))) hh_262.2.2.2.2.2.1 hh_262.2.2.2.2.2.2.1 ?_
                  exact L97 G_231 ((zcx_173 + (1)) + (23)) ((zsx_173 + (m_ret_189)) + ((183 + 336 * (min 1 (m_ret_189 / 3))))) z_263 _ _ (hh_262.sub (L1 := [(spare_13, 3, 4, .int qs_168), (r0, 13, 5, .ref kernel_164), (spare_13, 3, 10, .int pk_51), (spare_13, 3, 5, .ref yb_51), (spare_13, 3, 6, .ref ye_51), (r0, 13, 18, .int (-2)), (r0, 13, 16, .ref spare_13), (r0, 13, 15, .ref H_18.size), (H_18.size, 3, 10, .int qk_29), (H_18.size, 3, 3, .int ql_29), (spare_13, 3, 3, .int ql_18), (spare_13, 3, 2, .ref ut_14), (spare_13, 3, 1, .int (tq.ve spare_13)), (spare_13, 3, 0, .ref uz_14), (ta, 2, 1, .int 0), (r0, 13, 0, .ref ta), (ta, 2, 0, .ref tr_), (r0, 13, 7, .ref op)]) [3, 4, 5, 6, 7, 8, 9, 10, 11, 12, 13, 14, 15, 16, 17, 18, 19, 20] rfl (M1 := [(yb_51, 171, 40, ca 1, gb_168), (ye_51, 172, 40, ca 1, ge_168), (ut_14, 173, 1500, ca 1, gt_18), (uz_14, 174, (tq.ul spare_13), ca 1, (tq.ux spare_13)), (tr_, 197, 4000, ca 0, fa)]) [0, 1, 2, 3, 4] rfl (I1 := [(jFdo, jDcc dC dI ca G_231 none phn_170), (jFcd, jCD dC dI ca G_231 none qtd_29), (jFl, jLs dC dI ca G_231 3 none wl), (jFs11, jSef dC dI G_231), (jFy, jYb dC dI G_231), ([(2, 0), (2, 1)], jOl (dC, dI) G0 2 [ta] s.heap)]) [1, 2, 3, 0, 4, 5] rfl) (hNn_231) (((hle_173).tr hb_1892).tr hb_2312) (⟨(by first | (with_reducible assumption) | omega | rfl | fail), (by first | (with_reducible assumption) | omega | rfl | fail), (by first | (with_reducible assumption) | omega | rfl | fail), (by first | (with_reducible assumption) | omega | rfl | fail)⟩) (by omega) _ (lv_sub hl [2, 3, 4, 0] rfl)
            refine W.tight (c2 := ((0 + 1) + (7))) (n2 := ((0 + 17) + (1700))) hh_172.2.2.2.2.2.1 hh_172.2.2.2.2.2.2.1 ?_
            exact L97 (qs_168.toInt - (0 : Int32).toInt : Int).toNat.succ G_29 ((0 + 1) + (7)) ((0 + 17) + (1700)) 0 _ _ (hh_172.sub (L1 := [(spare_13, 3, 4, .int qs_168), (r0, 13, 5, .ref kernel_164), (spare_13, 3, 10, .int pk_51), (spare_13, 3, 5, .ref yb_51), (spare_13, 3, 6, .ref ye_51), (r0, 13, 18, .int (-2)), (r0, 13, 16, .ref spare_13), (r0, 13, 15, .ref H_18.size), (H_18.size, 3, 10, .int qk_29), (H_18.size, 3, 3, .int ql_29), (spare_13, 3, 3, .int ql_18), (spare_13, 3, 2, .ref ut_14), (spare_13, 3, 1, .int (tq.ve spare_13)), (spare_13, 3, 0, .ref uz_14), (ta, 2, 1, .int 0), (r0, 13, 0, .ref ta), (ta, 2, 0, .ref tr_), (r0, 13, 7, .ref op)]) [0, 2, 4, 5, 6, 7, 8, 9, 10, 11, 12, 13, 14, 15, 16, 17, 18, 19] rfl (M1 := [(yb_51, 171, 40, ca 1, gb_168), (ye_51, 172, 40, ca 1, ge_168), (ut_14, 173, 1500, ca 1, gt_18), (uz_14, 174, (tq.ul spare_13), ca 1, (tq.ux spare_13)), (tr_, 197, 4000, ca 0, fa)]) [0, 1, 2, 3, 4] rfl (I1 := [(jFdo, jDcc dC dI ca G_29 none phn_170), (jFcd, jCD dC dI ca G_29 none qtd_29), (jFl, jLs dC dI ca G_29 3 none wl), (jFs11, jSef dC dI G_29), (jFy, jYb dC dI G_29), ([(2, 0), (2, 1)], jOl (dC, dI) G0 2 [ta] s.heap)]) [0, 1, 2, 3, 4, 5] rfl) (hNn_29) (jLe.rf) (⟨(by first | (with_reducible assumption) | omega | rfl | fail), (by first | (with_reducible assumption) | omega | rfl | fail), (by first | (with_reducible assumption) | omega | rfl | fail), (by first | (with_reducible assumption) | omega | rfl | fail)⟩) (by omega) _ (lv_sub hl [2, 3, 1, 0] rfl)
        · refine j7_read hx hb hown hK (C := RX11) (T := TX11) (N := 19) rfl hly_13_16 hlk_200 (hh_26.at 0 rfl) dX11_batch_50 ?_
          refine lv_ifnonnull (tgt := 66) hx hb dX11_batch_53 (by decide) ?_
          refine lv_aload_n hx hb dX11_batch_66 rfl (lv_at hl 1 rfl) ?_
          refine j7_read hx hb hown hK (C := RX11) (T := TX11) (N := 19) rfl hly_13_16 hlk_200 (hh_26.at 0 rfl) dX11_batch_67 ?_
          refine j7_put hx hb hown hK hh_26 hB hAp hB13 (C := RX11) (T := TX11) (N := 19) rfl (by decide) hg_r0 (i := 15) (by decide) hly_13_15 rfl hlk_82 rfl (ty := (.object "ProofServer$Document")) (v := .ref latest_27) (by decide +kernel) rfl rfl (⟨_, rfl, hg_latest_27⟩) rfl (L1 := [(r0, 13, 16, .ref latest_27), (spare_13, 3, 3, .int ql_18), (spare_13, 3, 2, .ref ut_14), (spare_13, 3, 1, .int (tq.ve spare_13)), (spare_13, 3, 0, .ref uz_14), (ta, 2, 1, .int 0), (r0, 13, 0, .ref ta), (ta, 2, 0, .ref tr_), (r0, 13, 7, .ref op)]) [0, 1, 2, 3, 4, 6, 7, 8, 9] rfl rfl rfl dX11_batch_70 (fun H_264 locs_264 hh_264 => ?_)
          clear hh_26
          refine lv_aload_n hx hb dX11_batch_73 rfl (lv_at hl 1 rfl) ?_
          refine lv_aload_n hx hb dX11_batch_74 rfl (lv_at hl 0 rfl) ?_
          refine j7_put hx hb hown hK hh_264 hB hAp hB13 (C := RX11) (T := TX11) (N := 19) rfl (by decide) hg_r0 (i := 16) (by decide) hly_13_16 rfl hlk_200 rfl (ty := (.object "ProofServer$Document")) (v := .ref spare_13) (by decide +kernel) rfl rfl (Or.inr ⟨_, rfl, hg_spare_13⟩) rfl (L1 := [(r0, 13, 15, .ref latest_27), (spare_13, 3, 3, .int ql_18), (spare_13, 3, 2, .ref ut_14), (spare_13, 3, 1, .int (tq.ve spare_13)), (spare_13, 3, 0, .ref uz_14), (ta, 2, 1, .int 0), (r0, 13, 0, .ref ta), (ta, 2, 0, .ref tr_), (r0, 13, 7, .ref op)]) [0, 2, 3, 4, 5, 6, 7, 8, 9] rfl rfl rfl dX11_batch_75 (fun H_265 locs_265 hh_265 => ?_)
          clear hh_264
          refine lv_aload_n hx hb dX11_batch_78 rfl (lv_at hl 1 rfl) ?_
          refine lv_bipush (v := (-2)) hx hb dX11_batch_79 (by decide) ?_
          refine j7_put hx hb hown hK hh_265 hB hAp hB13 (C := RX11) (T := TX11) (N := 19) rfl (by decide) hg_r0 (i := 18) (by decide) hly_13_18 rfl hlk_89 rfl (ty := .int) (v := .int (-2)) (by decide +kernel) rfl rfl (⟨_, rfl⟩) rfl (L1 := [(r0, 13, 16, .ref spare_13), (r0, 13, 15, .ref latest_27), (spare_13, 3, 3, .int ql_18), (spare_13, 3, 2, .ref ut_14), (spare_13, 3, 1, .int (tq.ve spare_13)), (spare_13, 3, 0, .ref uz_14), (ta, 2, 1, .int 0), (r0, 13, 0, .ref ta), (ta, 2, 0, .ref tr_), (r0, 13, 7, .ref op)]) [0, 1, 2, 3, 4, 5, 6, 7, 8, 9] rfl rfl rfl dX11_batch_81 (fun H_266 locs_266 hh_266 => ?_)
          clear hh_265
          obtain ⟨yb_267, ye_267, w_267, pho_267, fb_267, fe_267, ps_267, pk_267, vc_267, hgb_267, hge_267, h5_267, h6_267, hd_267, hpq_267, hE_267, hpl_267, hpw_267⟩ := jDcc.opn (hh_266.iv 5 rfl) hg_spare_13
          have hh_269 := hh_266.sub (L1 := [(r0, 13, 18, .int (-2)), (r0, 13, 16, .ref spare_13), (r0, 13, 15, .ref latest_27), (spare_13, 3, 3, .int ql_18), (spare_13, 3, 2, .ref ut_14), (spare_13, 3, 1, .int (tq.ve spare_13)), (spare_13, 3, 0, .ref uz_14), (ta, 2, 1, .int 0), (r0, 13, 0, .ref ta), (ta, 2, 0, .ref tr_), (r0, 13, 7, .ref op)]) [0, 1, 2, 3, 4, 5, 6, 7, 8, 9, 10] rfl (M1 := [(ut_14, 173, 1500, ca 1, gt_18), (uz_14, 174, (tq.ul spare_13), ca 1, (tq.ux spare_13)), (tr_, 197, 4000, ca 0, fa)]) [0, 1, 2] rfl (I1 := [(jFcd, jCD dC dI ca G0 none t_21), ([(2, 0), (2, 1)], jOl (dC, dI) G0 2 [ta] s.heap), (jFy, jYb dC dI G0), (jFs11, jSef dC dI G0), (jFl, jLs dC dI ca G0 3 none wl)]) [0, 1, 2, 3, 4] rfl
          clear hh_266
          have hh_270 := (hh_269.more (P1 := [(spare_13, 3, 4, .int ps_267), (spare_13, 3, 10, .int pk_267), (spare_13, 3, 5, .ref yb_267), (spare_13, 3, 6, .ref ye_267)]) (jP.cons hg_spare_13 (hd_267.1 _ (List.mem_of_getElem? (i := 0) rfl)).2 (jP.cons hg_spare_13 (hd_267.1 _ (List.mem_of_getElem? (i := 1) rfl)).2 (jP.cons hg_spare_13 h5_267 (jP.cons hg_spare_13 h6_267 jP.nil))))).moreM hd_267.2.1
          have hh_271 := hh_270.addI (jDcc.ie hE_267)
          clear hh_270
          have hps_267 := hd_267.2.2.2
          have hsn_267 := hd_267.2.2.1
          obtain ⟨v_272, hv_272, hh_267⟩ := hh_271.pin (C := RX1) (T := TX1) (N := 17) hB3 rfl (by decide) hg_spare_13 (i := 11) (by decide) rfl
          have hvq_267 : vc_267 = v_272 := jf.uniq (hd_267.1 _ (List.mem_of_getElem? (i := 2) rfl)).2 (hh_267.at 0 rfl)
          subst hvq_267
          clear hh_271
          rcases hv_272 with rfl | ⟨chk_273, nchk_273, rfl, hg_chk_273, hlen_chk_273⟩
          · skip
            refine lv_aload_n hx hb dX11_batch_84 rfl (lv_at hl 0 rfl) ?_
            refine lv_aload_n hx hb dX11_batch_85 rfl (lv_at hl 1 rfl) ?_
            obtain ⟨v_275, hv_275, hh_276⟩ := hh_267.pin (C := RX11) (T := TX11) (N := 19) hB13 rfl (by decide) hg_r0 (i := 5) (by decide) rfl
            clear hh_267
            obtain ⟨kernel_277, rfl, hg_kernel_277⟩ := hv_275
            refine j7_read hx hb hown hK (C := RX11) (T := TX11) (N := 19) rfl hly_13_5 hlk_41 (hh_276.at 0 rfl) dX11_batch_86 ?_
            obtain ⟨v_278, hv_278, hh_279⟩ := hh_276.pin (C := RX5) (T := TX5) (N := 11) hB7 rfl (by decide) hg_kernel_277 (i := 1) (by decide) rfl
            clear hh_276
            obtain ⟨syntax_280, rfl, hg_syntax_280⟩ := hv_278
            refine j7_read hx hb hown hK (C := RX5) (T := TX5) (N := 11) rfl hly_7_1 hlk_203 (hh_279.at 0 rfl) dX11_batch_89 ?_
            have hsz_281 := hh_279.2.2.2.2.2.1
            have htt_281 := hh_279.2.2.2.2.2.2.1
            refine W.room (fun hrc_281 hrs_281 => ?_)
            refine va_callv (A0 := jA base) (H0 := s.heap) (va_runV (As := [.ref syntax_280]) (rest := []) ⟨hx, hb, hml, hown, hts⟩ (uX1_partP l dC dI ca base B hB hAp hB3 hB8 hB12 hB101 hB102 hB132 hB133 hB171 hB172 hB173 hB293 G0 H_266 spare_13 syntax_280 1 ql_18 yb_267 ye_267 ut_14 (pho_267) fb_267 fe_267 gt_18) (cwV 1 hts (jgV (jWr_36 _ (List.mem_of_getElem? (i := 2) rfl)) (jWr_36 _ (List.mem_of_getElem? (i := 3) rfl)) (jWr_36 _ (List.mem_of_getElem? (i := 4) rfl)) (jWr_2 _ (List.mem_of_getElem? (i := 21) rfl)) (jWr_36 _ (List.mem_of_getElem? (i := 5) rfl))) rfl rfl rfl (by decide +kernel) ⟨by rw [← hR]; exact Nat.le_of_ble_eq_true rfl, by rw [← hR]; exact Nat.le_of_ble_eq_true rfl⟩) ⟨fun a U g mk q => by obtain ⟨q0, q1, q2, qK, q10, q11, q12, q13, q14, q15, q16, q17, q18⟩ := q; exact ⟨q0, q1, q2, jG.calling g mk a qK, q10, q11, q12, q13, q14, q15, q16, q17, q18⟩, hh_279.recv (C := RX1) (T := TX1) (N := 17) hB3 rfl (by decide) hg_spare_13 hK, fun U hU hW => ⟨rfl, hU, hh_279.2.1, hG.step hW hU hh_279.1, hg_spare_13, hg_syntax_280, hgb_267, hge_267, hgt_14, (hh_279.2.2.1.sub (L1 := [(spare_13, 3, 3, .int ql_18), (spare_13, 3, 5, .ref yb_267), (spare_13, 3, 6, .ref ye_267), (spare_13, 3, 2, .ref ut_14)]) [10, 5, 6, 11] rfl), (hh_279.2.2.2.2.2.2.2.1.sub (L1 := [(yb_267, 171, 40, ca 1, fb_267), (ye_267, 172, 40, ca 1, fe_267), (ut_14, 173, 1500, ca 1, gt_18)]) [0, 1, 2] rfl), (hh_279.2.2.2.2.2.2.2.2.sub (L1 := [(jFdo, jDcc dC dI ca G0 (some spare_13) pho_267)]) [0] rfl), ⟨(by first | (with_reducible assumption) | omega | rfl | fail), (by first | (with_reducible assumption) | omega | rfl | fail)⟩⟩⟩ rfl rfl hl.1 rfl (lv_room (Nat.le_of_ble_eq_true rfl)) dX11_batch_92 ⟨by rw [hRc]; show _ + 0 ≤ _; omega, by rw [hRs]; show _ + 0 ≤ _; omega⟩) hh_279.1 (fun q _ h => h) (fun q h => h) (fun u_281 t_281 H_281 locs_281 ht_281 hvm_281 hr_282 hb_281 hz_281 hk_281 hS_281 => ?_)
            obtain ⟨qs_281, gb_281, ge_281⟩ := u_281
            rw [ht_281] at hb_281
            obtain ⟨hb_281, hbE_281⟩ := hb_281
            obtain ⟨hb_281, hbO_281⟩ := hb_281
            obtain ⟨⟨hb_2811, hb_2812, hb_2813, hb_2814, hb_2815⟩, hb_2816⟩ := hb_281
            have hh_281 : jSt (dC, dI) B base G0 G0 EX11_batchU s.heap 0 0 [(spare_13, 3, 4, .int qs_281), (kernel_277, 7, 1, .ref syntax_280), (r0, 13, 5, .ref kernel_277), (spare_13, 3, 11, .null), (spare_13, 3, 10, .int pk_267), (spare_13, 3, 5, .ref yb_267), (spare_13, 3, 6, .ref ye_267), (r0, 13, 18, .int (-2)), (r0, 13, 16, .ref spare_13), (r0, 13, 15, .ref latest_27), (spare_13, 3, 3, .int ql_18), (spare_13, 3, 2, .ref ut_14), (spare_13, 3, 1, .int (tq.ve spare_13)), (spare_13, 3, 0, .ref uz_14), (ta, 2, 1, .int 0), (r0, 13, 0, .ref ta), (ta, 2, 0, .ref tr_), (r0, 13, 7, .ref op)] [(yb_267, 171, 40, ca 1, gb_281), (ye_267, 172, 40, ca 1, ge_281), (ut_14, 173, 1500, ca 1, gt_18), (uz_14, 174, (tq.ul spare_13), ca 1, (tq.ux spare_13)), (tr_, 197, 4000, ca 0, fa)] [(jFdo, jDcc dC dI ca G0 (some spare_13) pho_267), (jFcd, jCD dC dI ca G0 none t_21), ([(2, 0), (2, 1)], jOl (dC, dI) G0 2 [ta] s.heap), (jFy, jYb dC dI G0), (jFs11, jSef dC dI G0), (jFl, jLs dC dI ca G0 3 none wl)] H_281 locs_281 := (((hh_279.call hb_2811 hb_2812 hb_2813 hb_2814 hS_281 rfl (L1 := [(kernel_277, 7, 1, .ref syntax_280), (r0, 13, 5, .ref kernel_277), (spare_13, 3, 11, .null), (spare_13, 3, 10, .int pk_267), (spare_13, 3, 5, .ref yb_267), (spare_13, 3, 6, .ref ye_267), (r0, 13, 18, .int (-2)), (r0, 13, 16, .ref spare_13), (r0, 13, 15, .ref latest_27), (spare_13, 3, 3, .int ql_18), (spare_13, 3, 2, .ref ut_14), (spare_13, 3, 1, .int (tq.ve spare_13)), (spare_13, 3, 0, .ref uz_14), (ta, 2, 1, .int 0), (r0, 13, 0, .ref ta), (ta, 2, 0, .ref tr_), (r0, 13, 7, .ref op)]) [0, 1, 2, 4, 5, 6, 7, 8, 9, 10, 11, 12, 13, 14, 15, 16, 17] rfl rfl (M1 := [(ut_14, 173, 1500, ca 1, gt_18), (uz_14, 174, (tq.ul spare_13), ca 1, (tq.ux spare_13)), (tr_, 197, 4000, ca 0, fa)]) [2, 3, 4] rfl rfl (I1 := [(jFcd, jCD dC dI ca G0 none t_21), ([(2, 0), (2, 1)], jOl (dC, dI) G0 2 [ta] s.heap), (jFy, jYb dC dI G0), (jFs11, jSef dC dI G0), (jFl, jLs dC dI ca G0 3 none wl)]) [1, 2, 3, 4, 5] rfl rfl).more hb_2815).moreM hb_2816).addIs hbE_281
            clear hh_279 ht_281 hvm_281 hz_281 hk_281 hS_281 hb_2811 hb_2812 hb_2813 hb_2814 hb_2815
            clear hb_2816
            clear  hbE_281
            try simp only at hr_282
            obtain ⟨hr_282_0, hr_282_1, hr_282_2, hr_282_3⟩ := hr_282
            obtain ⟨phn_283, hphn_283⟩ : ∃ q : Nat, q = pho_267 := ⟨_, rfl⟩
            have hF_283 := jDcc.full (ph1 := phn_283) (hh_281.iv 0 rfl) hg_spare_13 (hh_281.at 5 rfl) (hh_281.at 6 rfl) ⟨(hh_281.2.2.1.sub (L1 := [(spare_13, 3, 4, .int qs_281), (spare_13, 3, 10, .int pk_267), (spare_13, 3, 11, .null)]) [0, 4, 3] rfl), (hh_281.2.2.2.2.2.2.2.1.sub (L1 := [(yb_267, 171, 40, ca 1, gb_281), (ye_267, 172, 40, ca 1, ge_281)]) [0, 1] rfl), (hr_282_2.mono (by omega)), by omega⟩ (w := (575 * (qs_281.toInt - pk_267.toInt) + (1500 - jEd ge_281 pk_267.toInt)).toNat) (fun h9 => absurd h9 (by decide)) (by omega) (fun h9 => absurd h9 (by decide))
            have hh_284 := hh_281.sub (L1 := [(spare_13, 3, 4, .int qs_281), (kernel_277, 7, 1, .ref syntax_280), (r0, 13, 5, .ref kernel_277), (spare_13, 3, 11, .null), (spare_13, 3, 10, .int pk_267), (spare_13, 3, 5, .ref yb_267), (spare_13, 3, 6, .ref ye_267), (r0, 13, 18, .int (-2)), (r0, 13, 16, .ref spare_13), (r0, 13, 15, .ref latest_27), (spare_13, 3, 3, .int ql_18), (spare_13, 3, 2, .ref ut_14), (spare_13, 3, 1, .int (tq.ve spare_13)), (spare_13, 3, 0, .ref uz_14), (ta, 2, 1, .int 0), (r0, 13, 0, .ref ta), (ta, 2, 0, .ref tr_), (r0, 13, 7, .ref op)]) [0, 1, 2, 3, 4, 5, 6, 7, 8, 9, 10, 11, 12, 13, 14, 15, 16, 17] rfl (M1 := [(yb_267, 171, 40, ca 1, gb_281), (ye_267, 172, 40, ca 1, ge_281), (ut_14, 173, 1500, ca 1, gt_18), (uz_14, 174, (tq.ul spare_13), ca 1, (tq.ux spare_13)), (tr_, 197, 4000, ca 0, fa)]) [0, 1, 2, 3, 4] rfl (I1 := [(jFcd, jCD dC dI ca G0 none t_21), ([(2, 0), (2, 1)], jOl (dC, dI) G0 2 [ta] s.heap), (jFy, jYb dC dI G0), (jFs11, jSef dC dI G0), (jFl, jLs dC dI ca G0 3 none wl)]) [1, 2, 3, 4, 5] rfl
            clear hh_281
            have hh_285 := hh_284.addI (jDcc.ie hF_283)
            clear hh_284
            refine lv_iconst (v := 0) hx hb dX11_batch_95 (by decide) ?_
            have hjz := jEd.z (fe := ge_281) (k := (0 : Int32).toInt) (by omega)
            refine lv_istore_n (lv' := [(3, .int 0), (2, .ref spare_13), (0, .ref r0), (1, .int a1)]) hx hb dX11_batch_96 rfl hl (by decide) rfl (fun ls hl => ?_)
            have L97 : ∀ (N : Nat) (Gx_286 : jT) (zcx_286 : Nat) (zsx_286 : Nat) (v3_286 : Int32) (H_286 : Heap) (locs_286 : List Loc), jSt (dC, dI) B base G0 Gx_286 EX11_batchU s.heap zcx_286 zsx_286 [(spare_13, 3, 4, .int qs_281), (r0, 13, 5, .ref kernel_277), (spare_13, 3, 11, .null), (spare_13, 3, 10, .int pk_267), (spare_13, 3, 5, .ref yb_267), (spare_13, 3, 6, .ref ye_267), (r0, 13, 18, .int (-2)), (r0, 13, 16, .ref spare_13), (spare_13, 3, 3, .int ql_18), (spare_13, 3, 2, .ref ut_14), (spare_13, 3, 1, .int (tq.ve spare_13)), (spare_13, 3, 0, .ref uz_14), (ta, 2, 1, .int 0), (r0, 13, 0, .ref ta), (ta, 2, 0, .ref tr_), (r0, 13, 7, .ref op)] [(yb_267, 171, 40, ca 1, gb_281), (ye_267, 172, 40, ca 1, ge_281), (ut_14, 173, 1500, ca 1, gt_18), (uz_14, 174, (tq.ul spare_13), ca 1, (tq.ux spare_13)), (tr_, 197, 4000, ca 0, fa)] [(jFdo, jDcc dC dI ca Gx_286 none phn_283), (jFcd, jCD dC dI ca Gx_286 none t_21), ([(2, 0), (2, 1)], jOl (dC, dI) G0 2 [ta] s.heap), (jFy, jYb dC dI Gx_286), (jFs11, jSef dC dI Gx_286), (jFl, jLs dC dI ca Gx_286 3 none wl)] H_286 locs_286 → (jNk [0, 1, 2, 4, 6, 7, 8, 9, 10, 12, 13, 14, 15, 16]) G0 Gx_286 → jLe G0 Gx_286 → (0 ≤ v3_286.toInt ∧ v3_286.toInt ≤ qs_281.toInt ∧ zcx_286 ≤ 8 + 24 * v3_286.toInt ∧ zsx_286 ≤ 1720 + 185 * jEd ge_281 v3_286.toInt) → (qs_281.toInt - v3_286.toInt : Int) < N → ∀ ls : Array Slot, lv_has ls 5 [(0, .ref r0), (1, .int a1), (2, .ref spare_13), (3, .int v3_286)] → W p l e R s m ([.ref r0, .int a1] : List Value).toArray below meth c H_286 locs_286 zcx_286 zsx_286 Q (F0 m 97 ls []) := by
              intro N
              induction N with
              | zero => intro Gx_286 zcx_286 zsx_286 v3_286 H_286 locs_286 hh_286 hN_286 hle_286 hi_286 hm; exact absurd hm (by omega)
              | succ N L97 =>
                intro Gx_286 zcx_286 zsx_286 v3_286 H_286 locs_286 hh_286 hN_286 hle_286 hi_286 hm_286 ls hl
                have hg_287 := hle_286 _ _ hg_r0
                have hg_288 := hle_286 _ _ hg_spare_13
                have hg_289 := hle_286 _ _ hg_kernel_277
                have hg_290 := hle_286 _ _ hgb_267
                have hg_291 := hle_286 _ _ hge_267
                have hg_292 := hle_286 _ _ hgt_14
                have hg_293 := hle_286 _ _ hgz_14
                have hg_294 := hle_286 _ _ hg_ta
                have hg_295 := hle_286 _ _ hg_tr_
                have hg_296 := hle_286 _ _ hg_op
                obtain ⟨hi_286_0, hi_286_1, hi_286_2, hi_286_3⟩ := hi_286
                have hql := jSn.le hr_282_2 (by omega)
                refine lv_iload_n hx hb dX11_batch_97 rfl (lv_at hl 3 rfl) ?_
                refine lv_aload_n hx hb dX11_batch_98 rfl (lv_at hl 2 rfl) ?_
                refine j7_read hx hb hown hK (C := RX1) (T := TX1) (N := 17) rfl hly_3_4 hlk_168 (hh_286.at 0 rfl) dX11_batch_99 ?_
                refine lv_icmp_ge (tgt := 165) hx hb dX11_batch_102 (by decide) (fun c_297 => ?_) (fun c_297 => ?_)
                · skip
                  have c_297' : v3_286.toInt ≥ qs_281.toInt := jb_ge (rfl) (rfl) c_297
                  have hjl := jEd.le hr_282_2 (k := v3_286.toInt) (by omega) (by omega) (by omega)
                  obtain ⟨hfi9, hfs9⟩ : jdIv t_21 wl ∧ jdCs t_21 wl = jdCs tq wl := ⟨(by rw [ht_22]; exact hpIV.put (by omega) (by omega)), (by rw [ht_22]; exact jdCs.put hnsp9)⟩
                  refine lv_aload_n hx hb dX11_batch_165 rfl (lv_at hl 2 rfl) ?_
                  refine j7_read hx hb hown hK (C := RX1) (T := TX1) (N := 17) rfl hly_3_4 hlk_168 (hh_286.at 0 rfl) dX11_batch_166 ?_
                  have hsz_298 := hh_286.2.2.2.2.2.1
                  have htt_298 := hh_286.2.2.2.2.2.2.1
                  refine W.room (fun hrc_298 hrs_298 => ?_)
                  refine W.widen (k := LC - s.heap.size) (n := LS - jTot s.heap) (by omega) (by omega) ?_
                  rw [hQ]
                  exact W.iret (v := qs_281) hx hb hr (fun t ht hW => ⟨⟨qs_281, (0, phn_283, (pt.toInt.toNat - (0 : Int).toNat), t_21, Gx_286), rfl, by skip; (try dsimp only); refine ⟨by omega, by omega, by omega, ?_, hfi9, hfs9⟩; exact Or.inr ⟨by omega, by omega, jBa.part (hr_19p_3.yes (by omega)).1 (by omega) (hr_19p_3.yes (by omega)).2 hr_282_3⟩, ⟨hh_286.ra (by first | (simp only; omega) | omega) (by first | (simp only; omega) | omega) (M1 := [(ta, 2, 1, .int 0)]) [12] rfl ht, hN_286, by rw [ht]; exact hh_286.iv 2 rfl, by rw [ht]; exact hh_286.2.2.2.2.2.2.2.2.sub (L1 := [(jFy, jYb dC dI Gx_286), (jFs11, jSef dC dI Gx_286), (jFl, jLs dC dI ca Gx_286 3 none wl), (jFdo, jDcc dC dI ca Gx_286 none phn_283), (jFcd, jCD dC dI ca Gx_286 none t_21)]) [3, 4, 5, 0, 1] rfl⟩⟩, by rw [ht]; try exact hh_286.1.1, fun q h9 hq => by rw [ht]; try exact hh_286.1.2.1 q h9 hq⟩) hh_286.1.2.2 dX11_batch_169
                · skip
                  have c_297' : v3_286.toInt < qs_281.toInt := jb_ge_n (rfl) (rfl) c_297
                  have hn2 := jEd.nx hr_282_2 (k := v3_286.toInt) (by omega) (by omega)
                  have hnb := jEd.nx (hr_282_2.mono (by omega) : jSn _ _ _ 1500) (k := v3_286.toInt) (by omega) (by omega)
                  refine lv_aload_n hx hb dX11_batch_105 rfl (lv_at hl 2 rfl) ?_
                  refine j7_read hx hb hown hK (C := RX1) (T := TX1) (N := 17) rfl hly_3_2 hlk_174 (hh_286.at 9 rfl) dX11_batch_106 ?_
                  refine lv_aload_n hx hb dX11_batch_109 rfl (lv_at hl 2 rfl) ?_
                  refine j7_read hx hb hown hK (C := RX1) (T := TX1) (N := 17) rfl hly_3_5 hlk_182 (hh_286.at 4 rfl) dX11_batch_110 ?_
                  refine lv_iload_n hx hb dX11_batch_113 rfl (lv_at hl 3 rfl) ?_
                  refine j7_ialdM hx hb hK hh_286 hB171 1 rfl (by decide) hg_290 (x := v3_286.toInt) (rfl) (by omega) (j := 0) rfl dX11_batch_114 (fun z_299 ez_299 (hz_299 : 0 ≤ z_299.toInt ∧ z_299.toInt ≤ 1500) => ?_)
                  have hqz_299 : z_299.toInt = jSo gb_281 (v3_286.toInt) := by unfold jSo; rw [ez_299]
                  refine lv_aload_n hx hb dX11_batch_115 rfl (lv_at hl 2 rfl) ?_
                  refine j7_read hx hb hown hK (C := RX1) (T := TX1) (N := 17) rfl hly_3_6 hlk_185 (hh_286.at 5 rfl) dX11_batch_116 ?_
                  refine lv_iload_n hx hb dX11_batch_119 rfl (lv_at hl 3 rfl) ?_
                  refine j7_ialdM hx hb hK hh_286 hB172 1 rfl (by decide) hg_291 (x := v3_286.toInt) (rfl) (by omega) (j := 1) rfl dX11_batch_120 (fun z_300 ez_300 (hz_300 : 0 ≤ z_300.toInt ∧ z_300.toInt ≤ 1500) => ?_)
                  have hqz_300 : z_300.toInt = jSo ge_281 (v3_286.toInt) := by unfold jSo; rw [ez_300]
                  have hsz_301 := hh_286.2.2.2.2.2.1
                  have htt_301 := hh_286.2.2.2.2.2.2.1
                  refine W.room (fun hrc_301 hrs_301 => ?_)
                  refine j_callx (A0 := jA base) (H0 := s.heap) (va_runS (As := [.ref ut_14, .int z_299, .int z_300]) (rest := []) ⟨hx, hb, hml, hown, hts⟩ (uJ7_copyOfRange_feeccUt9 l dC dI ca base B hB hAp hB101 hB173 hB280 Gx_286 H_286 ut_14 z_299 z_300 1500 LC LS) (va_cwS 3 hts (jgS (jWr_77 _ (List.mem_of_getElem? (i := 21) rfl)) (jWr_77 _ (List.mem_of_getElem? (i := 22) rfl)) (jWr_16 _ (List.mem_of_getElem? (i := 7) rfl)) (jWr_77 _ (List.mem_of_getElem? (i := 23) rfl))) rfl rfl rfl (by decide +kernel) ⟨by rw [← hR]; exact Nat.le_of_ble_eq_true rfl, by rw [← hR]; exact Nat.le_of_ble_eq_true rfl⟩) ⟨fun a U g mk q => by obtain ⟨q0, q1, q2, qK, q10, q11, q12, q13⟩ := q; exact ⟨q0, q1, q2, jG.calling g mk a qK, (jK8.calling g mk a q10), q11, q12, q13⟩, fun U hU hW => ⟨rfl, hU, hh_286.2.1, hG.step hW hU hh_286.1, (jK8.warm hW hK8), hg_292, jP.nil, ⟨(by first | (with_reducible assumption) | omega | rfl | fail), (by first | (with_reducible assumption) | omega | rfl | fail), (by first | (with_reducible assumption) | omega | rfl | fail), (by first | (with_reducible assumption) | omega | rfl | fail)⟩⟩⟩ rfl rfl hl.1 rfl (lv_room (Nat.le_of_ble_eq_true rfl)) dX11_batch_121 ⟨by rw [hRc]; omega, by rw [hRs]; omega⟩) hh_286.1 (fun q _ h => h) (fun q h => h) (fun r_302 u_301 t_301 H_301 locs_301 ht_301 hvm_301 hr_302 hb_301 hz_301 hk_301 hS_301 => ?_)
                  rw [ht_301] at hb_301
                  obtain ⟨m_ret_301, G_301⟩ := u_301
                  simp only at hb_301
                  obtain ⟨⟨hb_3011, hb_3012, hb_3013, hb_3014, hb_3015, hb_3016⟩, hN_301, hbK_301⟩ := hb_301
                  have hE9_301 := hN_301
                  have hM_301 := hN_301
                  have hN_301 : (jNk [0, 1, 2, 4, 6, 7, 8, 9, 10, 12, 13, 14, 15, 16]) Gx_286 G_301 := hN_301.sub (by decide)
                  have hh_301 : jSt (dC, dI) B base G0 G_301 EX11_batchU s.heap (zcx_286 + (1)) (zsx_286 + (m_ret_301)) [(spare_13, 3, 4, .int qs_281), (r0, 13, 5, .ref kernel_277), (spare_13, 3, 11, .null), (spare_13, 3, 10, .int pk_267), (spare_13, 3, 5, .ref yb_267), (spare_13, 3, 6, .ref ye_267), (r0, 13, 18, .int (-2)), (r0, 13, 16, .ref spare_13), (spare_13, 3, 3, .int ql_18), (spare_13, 3, 2, .ref ut_14), (spare_13, 3, 1, .int (tq.ve spare_13)), (spare_13, 3, 0, .ref uz_14), (ta, 2, 1, .int 0), (r0, 13, 0, .ref ta), (ta, 2, 0, .ref tr_), (r0, 13, 7, .ref op)] [(yb_267, 171, 40, ca 1, gb_281), (ye_267, 172, 40, ca 1, ge_281), (ut_14, 173, 1500, ca 1, gt_18), (uz_14, 174, (tq.ul spare_13), ca 1, (tq.ux spare_13)), (tr_, 197, 4000, ca 0, fa)] [(jFdo, jDcc dC dI ca Gx_286 none phn_283), (jFcd, jCD dC dI ca Gx_286 none t_21), ([(2, 0), (2, 1)], jOl (dC, dI) G0 2 [ta] s.heap), (jFy, jYb dC dI Gx_286), (jFs11, jSef dC dI Gx_286), (jFl, jLs dC dI ca Gx_286 3 none wl)] H_301 locs_301 := (hh_286.callG hb_3011 hb_3012 hb_3013 hb_3014 hb_3015 hS_301 rfl (L1 := [(spare_13, 3, 4, .int qs_281), (r0, 13, 5, .ref kernel_277), (spare_13, 3, 11, .null), (spare_13, 3, 10, .int pk_267), (spare_13, 3, 5, .ref yb_267), (spare_13, 3, 6, .ref ye_267), (r0, 13, 18, .int (-2)), (r0, 13, 16, .ref spare_13), (spare_13, 3, 3, .int ql_18), (spare_13, 3, 2, .ref ut_14), (spare_13, 3, 1, .int (tq.ve spare_13)), (spare_13, 3, 0, .ref uz_14), (ta, 2, 1, .int 0), (r0, 13, 0, .ref ta), (ta, 2, 0, .ref tr_), (r0, 13, 7, .ref op)]) [0, 1, 2, 3, 4, 5, 6, 7, 8, 9, 10, 11, 12, 13, 14, 15] rfl rfl (M1 := [(yb_267, 171, 40, ca 1, gb_281), (ye_267, 172, 40, ca 1, ge_281), (ut_14, 173, 1500, ca 1, gt_18), (uz_14, 174, (tq.ul spare_13), ca 1, (tq.ux spare_13)), (tr_, 197, 4000, ca 0, fa)]) [0, 1, 2, 3, 4] rfl rfl (I1 := [(jFdo, jDcc dC dI ca Gx_286 none phn_283), (jFcd, jCD dC dI ca Gx_286 none t_21), ([(2, 0), (2, 1)], jOl (dC, dI) G0 2 [ta] s.heap), (jFy, jYb dC dI Gx_286), (jFs11, jSef dC dI Gx_286), (jFl, jLs dC dI ca Gx_286 3 none wl)]) [0, 1, 2, 3, 4, 5] rfl rfl).more hb_3016
                  have hNn_301 : (jNk [0, 1, 2, 4, 6, 7, 8, 9, 10, 12, 13, 14, 15, 16]) G0 G_301 := (hN_286).tr hN_301
                  have hg_303 := hb_3012 _ _ hg_287
                  have hg_304 := hb_3012 _ _ hg_288
                  have hg_305 := hb_3012 _ _ hg_289
                  have hg_306 := hb_3012 _ _ hg_290
                  have hg_307 := hb_3012 _ _ hg_291
                  have hg_308 := hb_3012 _ _ hg_292
                  have hg_309 := hb_3012 _ _ hg_293
                  have hg_310 := hb_3012 _ _ hg_294
                  have hg_311 := hb_3012 _ _ hg_295
                  have hg_312 := hb_3012 _ _ hg_296
                  have hd_313 := jDcc.grow (hh_301.iv 0 rfl) hb_3012 hE9_301 (by decide)
                  have hh_314 := hh_301.sub (L1 := [(spare_13, 3, 4, .int qs_281), (r0, 13, 5, .ref kernel_277), (spare_13, 3, 11, .null), (spare_13, 3, 10, .int pk_267), (spare_13, 3, 5, .ref yb_267), (spare_13, 3, 6, .ref ye_267), (r0, 13, 18, .int (-2)), (r0, 13, 16, .ref spare_13), (spare_13, 3, 3, .int ql_18), (spare_13, 3, 2, .ref ut_14), (spare_13, 3, 1, .int (tq.ve spare_13)), (spare_13, 3, 0, .ref uz_14), (ta, 2, 1, .int 0), (r0, 13, 0, .ref ta), (ta, 2, 0, .ref tr_), (r0, 13, 7, .ref op)]) [0, 1, 2, 3, 4, 5, 6, 7, 8, 9, 10, 11, 12, 13, 14, 15] rfl (M1 := [(yb_267, 171, 40, ca 1, gb_281), (ye_267, 172, 40, ca 1, ge_281), (ut_14, 173, 1500, ca 1, gt_18), (uz_14, 174, (tq.ul spare_13), ca 1, (tq.ux spare_13)), (tr_, 197, 4000, ca 0, fa)]) [0, 1, 2, 3, 4] rfl (I1 := [(jFcd, jCD dC dI ca Gx_286 none t_21), ([(2, 0), (2, 1)], jOl (dC, dI) G0 2 [ta] s.heap), (jFy, jYb dC dI Gx_286), (jFs11, jSef dC dI Gx_286), (jFl, jLs dC dI ca Gx_286 3 none wl)]) [1, 2, 3, 4, 5] rfl
                  clear hh_301
                  have hh_315 := hh_314.addI (jDcc.ie hd_313)
                  clear hh_314
                  have hd_316 := jCD.grow (hh_315.iv 1 rfl) hb_3012 hE9_301 (by decide)
                  have hh_317 := hh_315.sub (L1 := [(spare_13, 3, 4, .int qs_281), (r0, 13, 5, .ref kernel_277), (spare_13, 3, 11, .null), (spare_13, 3, 10, .int pk_267), (spare_13, 3, 5, .ref yb_267), (spare_13, 3, 6, .ref ye_267), (r0, 13, 18, .int (-2)), (r0, 13, 16, .ref spare_13), (spare_13, 3, 3, .int ql_18), (spare_13, 3, 2, .ref ut_14), (spare_13, 3, 1, .int (tq.ve spare_13)), (spare_13, 3, 0, .ref uz_14), (ta, 2, 1, .int 0), (r0, 13, 0, .ref ta), (ta, 2, 0, .ref tr_), (r0, 13, 7, .ref op)]) [0, 1, 2, 3, 4, 5, 6, 7, 8, 9, 10, 11, 12, 13, 14, 15] rfl (M1 := [(yb_267, 171, 40, ca 1, gb_281), (ye_267, 172, 40, ca 1, ge_281), (ut_14, 173, 1500, ca 1, gt_18), (uz_14, 174, (tq.ul spare_13), ca 1, (tq.ux spare_13)), (tr_, 197, 4000, ca 0, fa)]) [0, 1, 2, 3, 4] rfl (I1 := [(jFdo, jDcc dC dI ca G_301 none phn_283), ([(2, 0), (2, 1)], jOl (dC, dI) G0 2 [ta] s.heap), (jFy, jYb dC dI Gx_286), (jFs11, jSef dC dI Gx_286), (jFl, jLs dC dI ca Gx_286 3 none wl)]) [0, 2, 3, 4, 5] rfl
                  clear hh_315
                  have hh_318 := hh_317.addI (jCD.ie hd_316)
                  clear hh_317
                  have hd_319 := jYb.grow (hh_318.iv 3 rfl) hb_3012 hN_301 (by decide)
                  have hh_320 := hh_318.sub (L1 := [(spare_13, 3, 4, .int qs_281), (r0, 13, 5, .ref kernel_277), (spare_13, 3, 11, .null), (spare_13, 3, 10, .int pk_267), (spare_13, 3, 5, .ref yb_267), (spare_13, 3, 6, .ref ye_267), (r0, 13, 18, .int (-2)), (r0, 13, 16, .ref spare_13), (spare_13, 3, 3, .int ql_18), (spare_13, 3, 2, .ref ut_14), (spare_13, 3, 1, .int (tq.ve spare_13)), (spare_13, 3, 0, .ref uz_14), (ta, 2, 1, .int 0), (r0, 13, 0, .ref ta), (ta, 2, 0, .ref tr_), (r0, 13, 7, .ref op)]) [0, 1, 2, 3, 4, 5, 6, 7, 8, 9, 10, 11, 12, 13, 14, 15] rfl (M1 := [(yb_267, 171, 40, ca 1, gb_281), (ye_267, 172, 40, ca 1, ge_281), (ut_14, 173, 1500, ca 1, gt_18), (uz_14, 174, (tq.ul spare_13), ca 1, (tq.ux spare_13)), (tr_, 197, 4000, ca 0, fa)]) [0, 1, 2, 3, 4] rfl (I1 := [(jFcd, jCD dC dI ca G_301 none t_21), (jFdo, jDcc dC dI ca G_301 none phn_283), ([(2, 0), (2, 1)], jOl (dC, dI) G0 2 [ta] s.heap), (jFs11, jSef dC dI Gx_286), (jFl, jLs dC dI ca Gx_286 3 none wl)]) [0, 1, 2, 4, 5] rfl
                  clear hh_318
                  have hh_321 := hh_320.addI (jYb.ie hd_319)
                  clear hh_320
                  have hd_322 := jSef.grow (hh_321.iv 4 rfl) hb_3012 hM_301 (by decide)
                  have hh_323 := hh_321.sub (L1 := [(spare_13, 3, 4, .int qs_281), (r0, 13, 5, .ref kernel_277), (spare_13, 3, 11, .null), (spare_13, 3, 10, .int pk_267), (spare_13, 3, 5, .ref yb_267), (spare_13, 3, 6, .ref ye_267), (r0, 13, 18, .int (-2)), (r0, 13, 16, .ref spare_13), (spare_13, 3, 3, .int ql_18), (spare_13, 3, 2, .ref ut_14), (spare_13, 3, 1, .int (tq.ve spare_13)), (spare_13, 3, 0, .ref uz_14), (ta, 2, 1, .int 0), (r0, 13, 0, .ref ta), (ta, 2, 0, .ref tr_), (r0, 13, 7, .ref op)]) [0, 1, 2, 3, 4, 5, 6, 7, 8, 9, 10, 11, 12, 13, 14, 15] rfl (M1 := [(yb_267, 171, 40, ca 1, gb_281), (ye_267, 172, 40, ca 1, ge_281), (ut_14, 173, 1500, ca 1, gt_18), (uz_14, 174, (tq.ul spare_13), ca 1, (tq.ux spare_13)), (tr_, 197, 4000, ca 0, fa)]) [0, 1, 2, 3, 4] rfl (I1 := [(jFy, jYb dC dI G_301), (jFcd, jCD dC dI ca G_301 none t_21), (jFdo, jDcc dC dI ca G_301 none phn_283), ([(2, 0), (2, 1)], jOl (dC, dI) G0 2 [ta] s.heap), (jFl, jLs dC dI ca Gx_286 3 none wl)]) [0, 1, 2, 3, 5] rfl
                  clear hh_321
                  have hh_324 := hh_323.addI (jSef.ie hd_322)
                  clear hh_323
                  have hd_325 := jLs.grow (hh_324.iv 5 rfl) hb_3012 hN_301 (by decide)
                  have hh_326 := hh_324.sub (L1 := [(spare_13, 3, 4, .int qs_281), (r0, 13, 5, .ref kernel_277), (spare_13, 3, 11, .null), (spare_13, 3, 10, .int pk_267), (spare_13, 3, 5, .ref yb_267), (spare_13, 3, 6, .ref ye_267), (r0, 13, 18, .int (-2)), (r0, 13, 16, .ref spare_13), (spare_13, 3, 3, .int ql_18), (spare_13, 3, 2, .ref ut_14), (spare_13, 3, 1, .int (tq.ve spare_13)), (spare_13, 3, 0, .ref uz_14), (ta, 2, 1, .int 0), (r0, 13, 0, .ref ta), (ta, 2, 0, .ref tr_), (r0, 13, 7, .ref op)]) [0, 1, 2, 3, 4, 5, 6, 7, 8, 9, 10, 11, 12, 13, 14, 15] rfl (M1 := [(yb_267, 171, 40, ca 1, gb_281), (ye_267, 172, 40, ca 1, ge_281), (ut_14, 173, 1500, ca 1, gt_18), (uz_14, 174, (tq.ul spare_13), ca 1, (tq.ux spare_13)), (tr_, 197, 4000, ca 0, fa)]) [0, 1, 2, 3, 4] rfl (I1 := [(jFs11, jSef dC dI G_301), (jFy, jYb dC dI G_301), (jFcd, jCD dC dI ca G_301 none t_21), (jFdo, jDcc dC dI ca G_301 none phn_283), ([(2, 0), (2, 1)], jOl (dC, dI) G0 2 [ta] s.heap)]) [0, 1, 2, 3, 4] rfl
                  clear hh_324
                  have hh_327 := hh_326.addI (jLs.ie hd_325)
                  clear hh_326
                  obtain ⟨hr_302, hr_302n, hr_302p⟩ := hr_302
                  try simp only at hr_302p
                  obtain ⟨ret_328, rfl, hg_ret_328⟩ := hr_302
                  have hsy_301 : s.heap.size ≤ ret_328 := Nat.le_trans hh_286.1.1 hr_302n.le
                  refine lv_astore (lv' := [(4, .ref ret_328), (0, .ref r0), (1, .int a1), (2, .ref spare_13), (3, .int v3_286)]) hx hb dX11_batch_124 hl (by decide) rfl (fun ls hl => ?_)
                  refine lv_aload_n hx hb dX11_batch_126 rfl (lv_at hl 3 rfl) ?_
                  obtain ⟨v_329, hv_329, hh_330⟩ := hh_327.pin (C := RX1) (T := TX1) (N := 17) hB3 rfl (by decide) hg_304 (i := 9) (by decide) rfl
                  clear hh_327
                  obtain ⟨behind_331, rfl, hg_behind_331⟩ := hv_329
                  refine j7_read hx hb hown hK (C := RX1) (T := TX1) (N := 17) rfl hly_3_9 hlk_178 (hh_330.at 0 rfl) dX11_batch_127 ?_
                  refine lv_iload_n hx hb dX11_batch_130 rfl (lv_at hl 4 rfl) ?_
                  refine lv_aload_n hx hb dX11_batch_131 rfl (lv_at hl 1 rfl) ?_
                  refine j7_read hx hb hown hK (C := RX11) (T := TX11) (N := 19) rfl hly_13_5 hlk_41 (hh_330.at 2 rfl) dX11_batch_132 ?_
                  refine lv_aload_n hx hb dX11_batch_135 rfl (lv_at hl 3 rfl) ?_
                  refine lv_iload_n hx hb dX11_batch_136 rfl (lv_at hl 4 rfl) ?_
                  refine lv_aload_n hx hb dX11_batch_137 rfl (lv_at hl 1 rfl) ?_
                  refine j7_read hx hb hown hK (C := RX11) (T := TX11) (N := 19) rfl hly_13_5 hlk_41 (hh_330.at 2 rfl) dX11_batch_138 ?_
                  obtain ⟨v_332, hv_332, hh_333⟩ := hh_330.pin (C := RX5) (T := TX5) (N := 11) hB7 rfl (by decide) hg_305 (i := 2) (by decide) rfl
                  clear hh_330
                  obtain ⟨start_334, rfl, hg_start_334⟩ := hv_332
                  refine j7_read hx hb hown hK (C := RX5) (T := TX5) (N := 11) rfl hly_7_2 hlk_217 (hh_333.at 0 rfl) dX11_batch_141 ?_
                  have hsz_335 := hh_333.2.2.2.2.2.1
                  have htt_335 := hh_333.2.2.2.2.2.2.1
                  refine W.room (fun hrc_335 hrs_335 => ?_)
                  refine j_callx (A0 := jA base) (H0 := s.heap) (va_runV (As := [.int v3_286, .ref start_334]) (rest := [.ref kernel_277, .int v3_286, .ref behind_331]) ⟨hx, hb, hml, hown, hts⟩ (uX1_stateBehind l dC dI ca base B hB hAp hB3 hB11 hB210 G_301 H_301 spare_13 v3_286 start_334 1) (cwV 2 hts (jgV (jWr_30 _ (List.mem_of_getElem? (i := 9) rfl)) (jWr_30 _ (List.mem_of_getElem? (i := 10) rfl)) (jWr_30 _ (List.mem_of_getElem? (i := 11) rfl)) (jWr_2 _ (List.mem_of_getElem? (i := 21) rfl)) (jWr_30 _ (List.mem_of_getElem? (i := 12) rfl))) rfl rfl rfl (by decide +kernel) ⟨by rw [← hR]; exact Nat.le_of_ble_eq_true rfl, by rw [← hR]; exact Nat.le_of_ble_eq_true rfl⟩) ⟨fun a U g mk q => by obtain ⟨q0, q1, q2, qK, q10, q11, q12, q13, q14⟩ := q; exact ⟨q0, q1, q2, jG.calling g mk a qK, (va_K.moved (Vm.Alike.refl U.vm) q10), q11, q12, q13, q14⟩, hh_333.recv (C := RX1) (T := TX1) (N := 17) hB3 rfl (by decide) hg_304 hK, fun U hU hW => ⟨rfl, hU, hh_333.2.1, hG.step hW hU hh_333.1, va_K.moved hW.alike hK2, hg_304, hg_start_334, jP.nil, trivial⟩⟩ rfl rfl hl.1 rfl (lv_room (Nat.le_of_ble_eq_true rfl)) dX11_batch_144 ⟨by rw [hRc]; show _ + 0 ≤ _; omega, by rw [hRs]; show _ + 0 ≤ _; omega⟩) hh_333.1 (fun q _ h => h) (fun q h => h) (fun r_336 u_335 t_335 H_335 locs_335 ht_335 hvm_335 hr_336 hb_335 hz_335 hk_335 hS_335 => ?_)
                  rw [ht_335] at hb_335
                  obtain ⟨hb_3351, hb_3352, hb_3353, hb_3354, hb_3355⟩ := hb_335
                  have hh_335 : jSt (dC, dI) B base G0 G_301 EX11_batchU s.heap (zcx_286 + (1)) (zsx_286 + (m_ret_301)) [(kernel_277, 7, 2, .ref start_334), (spare_13, 3, 9, .ref behind_331), (spare_13, 3, 4, .int qs_281), (r0, 13, 5, .ref kernel_277), (spare_13, 3, 11, .null), (spare_13, 3, 10, .int pk_267), (spare_13, 3, 5, .ref yb_267), (spare_13, 3, 6, .ref ye_267), (r0, 13, 18, .int (-2)), (r0, 13, 16, .ref spare_13), (spare_13, 3, 3, .int ql_18), (spare_13, 3, 2, .ref ut_14), (spare_13, 3, 1, .int (tq.ve spare_13)), (spare_13, 3, 0, .ref uz_14), (ta, 2, 1, .int 0), (r0, 13, 0, .ref ta), (ta, 2, 0, .ref tr_), (r0, 13, 7, .ref op)] [(yb_267, 171, 40, ca 1, gb_281), (ye_267, 172, 40, ca 1, ge_281), (ut_14, 173, 1500, ca 1, gt_18), (uz_14, 174, (tq.ul spare_13), ca 1, (tq.ux spare_13)), (tr_, 197, 4000, ca 0, fa)] [(jFl, jLs dC dI ca G_301 3 none wl), (jFs11, jSef dC dI G_301), (jFy, jYb dC dI G_301), (jFcd, jCD dC dI ca G_301 none t_21), (jFdo, jDcc dC dI ca G_301 none phn_283), ([(2, 0), (2, 1)], jOl (dC, dI) G0 2 [ta] s.heap)] H_335 locs_335 := ((hh_333.call hb_3351 hb_3352 hb_3353 hb_3354 hS_335 rfl (L1 := [(kernel_277, 7, 2, .ref start_334), (spare_13, 3, 9, .ref behind_331), (spare_13, 3, 4, .int qs_281), (r0, 13, 5, .ref kernel_277), (spare_13, 3, 11, .null), (spare_13, 3, 10, .int pk_267), (spare_13, 3, 5, .ref yb_267), (spare_13, 3, 6, .ref ye_267), (r0, 13, 18, .int (-2)), (r0, 13, 16, .ref spare_13), (spare_13, 3, 3, .int ql_18), (spare_13, 3, 2, .ref ut_14), (spare_13, 3, 1, .int (tq.ve spare_13)), (spare_13, 3, 0, .ref uz_14), (ta, 2, 1, .int 0), (r0, 13, 0, .ref ta), (ta, 2, 0, .ref tr_), (r0, 13, 7, .ref op)]) [0, 1, 2, 3, 4, 5, 6, 7, 8, 9, 10, 11, 12, 13, 14, 15, 16, 17] rfl rfl (M1 := [(yb_267, 171, 40, ca 1, gb_281), (ye_267, 172, 40, ca 1, ge_281), (ut_14, 173, 1500, ca 1, gt_18), (uz_14, 174, (tq.ul spare_13), ca 1, (tq.ux spare_13)), (tr_, 197, 4000, ca 0, fa)]) [0, 1, 2, 3, 4] rfl rfl (I1 := [(jFl, jLs dC dI ca G_301 3 none wl), (jFs11, jSef dC dI G_301), (jFy, jYb dC dI G_301), (jFcd, jCD dC dI ca G_301 none t_21), (jFdo, jDcc dC dI ca G_301 none phn_283), ([(2, 0), (2, 1)], jOl (dC, dI) G0 2 [ta] s.heap)]) [0, 1, 2, 3, 4, 5] rfl rfl).more hb_3355)
                  clear hh_333 ht_335 hvm_335 hz_335 hk_335 hS_335 hb_3351 hb_3352 hb_3353 hb_3354 hb_3355
                  obtain ⟨ret_337, rfl, hg_ret_337⟩ := hr_336
                  refine lv_aload hx hb dX11_batch_147 (lv_at hl 0 rfl) ?_
                  refine lv_aload_n hx hb dX11_batch_149 rfl (lv_at hl 3 rfl) ?_
                  obtain ⟨v_338, hv_338, hh_339⟩ := hh_335.pin (C := RX1) (T := TX1) (N := 17) hB3 rfl (by decide) hg_304 (i := 8) (by decide) rfl
                  clear hh_335
                  obtain ⟨early_340, rfl, hg_early_340⟩ := hv_338
                  refine j7_read hx hb hown hK (C := RX1) (T := TX1) (N := 17) rfl hly_3_8 hlk_225 (hh_339.at 0 rfl) dX11_batch_150 ?_
                  refine lv_iload_n hx hb dX11_batch_153 rfl (lv_at hl 4 rfl) ?_
                  refine j7_iald hx hb hK hh_339 hB101 1 rfl (by decide) hg_early_340 (x := v3_286.toInt) (rfl) (by omega) dX11_batch_154 (fun z_341 (hz_341 : True) => ?_)
                  have hsz_342 := hh_339.2.2.2.2.2.1
                  have htt_342 := hh_339.2.2.2.2.2.2.1
                  refine W.room (fun hrc_342 hrs_342 => ?_)
                  refine j_callx (A0 := jA base) (H0 := s.heap) (va_runV (As := [.ref ret_337, .ref ret_328, .int z_341]) (rest := [.int v3_286, .ref behind_331]) ⟨hx, hb, hml, hown, hts⟩ (uX5_checkS l dC dI ca base B hB hAp hB5 hB7 hB8 hB11 hB12 hB101 hB102 hB132 hB133 hB211 hB214 hB280 hB290 hB291 hB292 hB293 hB313 hB315 G_301 H_335 kernel_277 ret_337 ret_328 z_341 m_ret_301 (min 1 (m_ret_301 / 3)) LC LS) (cwV 3 hts (jgV (jWr_78 _ (List.mem_of_getElem? (i := 14) rfl)) (jWr_78 _ (List.mem_of_getElem? (i := 15) rfl)) (jWr_78 _ (List.mem_of_getElem? (i := 16) rfl)) (jWr_2 _ (List.mem_of_getElem? (i := 4) rfl)) (jWr_78 _ (List.mem_of_getElem? (i := 17) rfl))) rfl rfl rfl (by decide +kernel) ⟨by rw [← hR]; exact Nat.le_of_ble_eq_true rfl, by rw [← hR]; exact Nat.le_of_ble_eq_true rfl⟩) ⟨fun a U g mk q => by obtain ⟨q0, q1, q2, qK, q10, q11, q12, q13, q14, q15, q16, q17, q18⟩ := q; exact ⟨q0, q1, q2, jG.calling g mk a qK, (va_K.moved (Vm.Alike.refl U.vm) q10), (jK5.moved (Vm.Alike.refl U.vm) q11), (jK6.moved (Vm.Alike.refl U.vm) q12), q13, q14, q15, q16, q17, q18⟩, hh_339.recv (C := RX5) (T := TX5) (N := 11) hB7 rfl (by decide) hg_305 hK, fun U hU hW => ⟨rfl, hU, hh_339.2.1, hG.step hW hU hh_339.1, va_K.moved hW.alike hK2, jK5.moved hW.alike hK5, jK6.moved hW.alike hK6, hg_305, hg_ret_337, hg_ret_328, jP.nil, (hh_339.2.2.2.2.2.2.2.2.sub (L1 := [(jFs11, jSef dC dI G_301)]) [1] rfl), ⟨(by first | (with_reducible assumption) | omega | rfl | fail), (by first | (with_reducible assumption) | assumption | omega | rfl | fail)⟩⟩⟩ rfl rfl hl.1 rfl (lv_room (Nat.le_of_ble_eq_true rfl)) dX11_batch_155 ⟨by rw [hRc]; omega, by rw [hRs]; omega⟩) hh_339.1 (fun q _ h => h) (fun q h => h) (fun r_343 u_342 t_342 H_342 locs_342 ht_342 hvm_342 hr_343 hb_342 hz_342 hk_342 hS_342 => ?_)
                  rw [ht_342] at hb_342
                  obtain ⟨G_342, rfl⟩ : ∃ z, z = u_342 := ⟨_, rfl⟩
                  try simp only at hb_342
                  obtain ⟨⟨hb_3421, hb_3422, hb_3423, hb_3424, hb_3425, hb_3426⟩, hN_342, hbE_342⟩ := hb_342
                  have hE9_342 := hN_342
                  have hN_342 : (jNk [0, 1, 2, 4, 6, 7, 8, 9, 10, 12, 13, 14, 15, 16]) G_301 G_342 := hN_342.sub (by decide)
                  have hh_342 : jSt (dC, dI) B base G0 G_342 EX11_batchU s.heap ((zcx_286 + (1)) + (23)) ((zsx_286 + (m_ret_301)) + ((183 + 336 * (min 1 (m_ret_301 / 3))))) [(spare_13, 3, 8, .ref early_340), (kernel_277, 7, 2, .ref start_334), (spare_13, 3, 9, .ref behind_331), (spare_13, 3, 4, .int qs_281), (r0, 13, 5, .ref kernel_277), (spare_13, 3, 11, .null), (spare_13, 3, 10, .int pk_267), (spare_13, 3, 5, .ref yb_267), (spare_13, 3, 6, .ref ye_267), (r0, 13, 18, .int (-2)), (r0, 13, 16, .ref spare_13), (spare_13, 3, 3, .int ql_18), (spare_13, 3, 2, .ref ut_14), (spare_13, 3, 1, .int (tq.ve spare_13)), (spare_13, 3, 0, .ref uz_14), (ta, 2, 1, .int 0), (r0, 13, 0, .ref ta), (ta, 2, 0, .ref tr_), (r0, 13, 7, .ref op)] [(yb_267, 171, 40, ca 1, gb_281), (ye_267, 172, 40, ca 1, ge_281), (ut_14, 173, 1500, ca 1, gt_18), (uz_14, 174, (tq.ul spare_13), ca 1, (tq.ux spare_13)), (tr_, 197, 4000, ca 0, fa)] [(jFl, jLs dC dI ca G_301 3 none wl), (jFy, jYb dC dI G_301), (jFcd, jCD dC dI ca G_301 none t_21), (jFdo, jDcc dC dI ca G_301 none phn_283), ([(2, 0), (2, 1)], jOl (dC, dI) G0 2 [ta] s.heap)] H_342 locs_342 := (hh_339.callG hb_3421 hb_3422 hb_3423 hb_3424 hb_3425 hS_342 rfl (L1 := [(spare_13, 3, 8, .ref early_340), (kernel_277, 7, 2, .ref start_334), (spare_13, 3, 9, .ref behind_331), (spare_13, 3, 4, .int qs_281), (r0, 13, 5, .ref kernel_277), (spare_13, 3, 11, .null), (spare_13, 3, 10, .int pk_267), (spare_13, 3, 5, .ref yb_267), (spare_13, 3, 6, .ref ye_267), (r0, 13, 18, .int (-2)), (r0, 13, 16, .ref spare_13), (spare_13, 3, 3, .int ql_18), (spare_13, 3, 2, .ref ut_14), (spare_13, 3, 1, .int (tq.ve spare_13)), (spare_13, 3, 0, .ref uz_14), (ta, 2, 1, .int 0), (r0, 13, 0, .ref ta), (ta, 2, 0, .ref tr_), (r0, 13, 7, .ref op)]) [0, 1, 2, 3, 4, 5, 6, 7, 8, 9, 10, 11, 12, 13, 14, 15, 16, 17, 18] rfl rfl (M1 := [(yb_267, 171, 40, ca 1, gb_281), (ye_267, 172, 40, ca 1, ge_281), (ut_14, 173, 1500, ca 1, gt_18), (uz_14, 174, (tq.ul spare_13), ca 1, (tq.ux spare_13)), (tr_, 197, 4000, ca 0, fa)]) [0, 1, 2, 3, 4] rfl rfl (I1 := [(jFl, jLs dC dI ca G_301 3 none wl), (jFy, jYb dC dI G_301), (jFcd, jCD dC dI ca G_301 none t_21), (jFdo, jDcc dC dI ca G_301 none phn_283), ([(2, 0), (2, 1)], jOl (dC, dI) G0 2 [ta] s.heap)]) [0, 2, 3, 4, 5] rfl rfl).more hb_3426
                  have hNn_342 : (jNk [0, 1, 2, 4, 6, 7, 8, 9, 10, 12, 13, 14, 15, 16]) G0 G_342 := (hNn_301).tr hN_342
                  have hg_344 := hb_3422 _ _ hg_ret_328
                  have hg_345 := hb_3422 _ _ hg_303
                  have hg_346 := hb_3422 _ _ hg_304
                  have hg_347 := hb_3422 _ _ hg_behind_331
                  have hg_348 := hb_3422 _ _ hg_early_340
                  have hg_349 := hb_3422 _ _ hg_start_334
                  have hg_350 := hb_3422 _ _ hg_305
                  have hg_351 := hb_3422 _ _ hg_306
                  have hg_352 := hb_3422 _ _ hg_307
                  have hg_353 := hb_3422 _ _ hg_308
                  have hg_354 := hb_3422 _ _ hg_309
                  have hg_355 := hb_3422 _ _ hg_310
                  have hg_356 := hb_3422 _ _ hg_311
                  have hg_357 := hb_3422 _ _ hg_312
                  have hd_358 := jLs.grow (hh_342.iv 0 rfl) hb_3422 hN_342 (by decide)
                  have hh_359 := hh_342.sub (L1 := [(spare_13, 3, 8, .ref early_340), (kernel_277, 7, 2, .ref start_334), (spare_13, 3, 9, .ref behind_331), (spare_13, 3, 4, .int qs_281), (r0, 13, 5, .ref kernel_277), (spare_13, 3, 11, .null), (spare_13, 3, 10, .int pk_267), (spare_13, 3, 5, .ref yb_267), (spare_13, 3, 6, .ref ye_267), (r0, 13, 18, .int (-2)), (r0, 13, 16, .ref spare_13), (spare_13, 3, 3, .int ql_18), (spare_13, 3, 2, .ref ut_14), (spare_13, 3, 1, .int (tq.ve spare_13)), (spare_13, 3, 0, .ref uz_14), (ta, 2, 1, .int 0), (r0, 13, 0, .ref ta), (ta, 2, 0, .ref tr_), (r0, 13, 7, .ref op)]) [0, 1, 2, 3, 4, 5, 6, 7, 8, 9, 10, 11, 12, 13, 14, 15, 16, 17, 18] rfl (M1 := [(yb_267, 171, 40, ca 1, gb_281), (ye_267, 172, 40, ca 1, ge_281), (ut_14, 173, 1500, ca 1, gt_18), (uz_14, 174, (tq.ul spare_13), ca 1, (tq.ux spare_13)), (tr_, 197, 4000, ca 0, fa)]) [0, 1, 2, 3, 4] rfl (I1 := [(jFy, jYb dC dI G_301), (jFcd, jCD dC dI ca G_301 none t_21), (jFdo, jDcc dC dI ca G_301 none phn_283), ([(2, 0), (2, 1)], jOl (dC, dI) G0 2 [ta] s.heap)]) [1, 2, 3, 4] rfl
                  clear hh_342
                  have hh_360 := hh_359.addI (jLs.ie hd_358)
                  clear hh_359
                  have hd_361 := jYb.grow (hh_360.iv 1 rfl) hb_3422 hN_342 (by decide)
                  have hh_362 := hh_360.sub (L1 := [(spare_13, 3, 8, .ref early_340), (kernel_277, 7, 2, .ref start_334), (spare_13, 3, 9, .ref behind_331), (spare_13, 3, 4, .int qs_281), (r0, 13, 5, .ref kernel_277), (spare_13, 3, 11, .null), (spare_13, 3, 10, .int pk_267), (spare_13, 3, 5, .ref yb_267), (spare_13, 3, 6, .ref ye_267), (r0, 13, 18, .int (-2)), (r0, 13, 16, .ref spare_13), (spare_13, 3, 3, .int ql_18), (spare_13, 3, 2, .ref ut_14), (spare_13, 3, 1, .int (tq.ve spare_13)), (spare_13, 3, 0, .ref uz_14), (ta, 2, 1, .int 0), (r0, 13, 0, .ref ta), (ta, 2, 0, .ref tr_), (r0, 13, 7, .ref op)]) [0, 1, 2, 3, 4, 5, 6, 7, 8, 9, 10, 11, 12, 13, 14, 15, 16, 17, 18] rfl (M1 := [(yb_267, 171, 40, ca 1, gb_281), (ye_267, 172, 40, ca 1, ge_281), (ut_14, 173, 1500, ca 1, gt_18), (uz_14, 174, (tq.ul spare_13), ca 1, (tq.ux spare_13)), (tr_, 197, 4000, ca 0, fa)]) [0, 1, 2, 3, 4] rfl (I1 := [(jFl, jLs dC dI ca G_342 3 none wl), (jFcd, jCD dC dI ca G_301 none t_21), (jFdo, jDcc dC dI ca G_301 none phn_283), ([(2, 0), (2, 1)], jOl (dC, dI) G0 2 [ta] s.heap)]) [0, 2, 3, 4] rfl
                  clear hh_360
                  have hh_363 := hh_362.addI (jYb.ie hd_361)
                  clear hh_362
                  have hd_364 := jCD.grow (hh_363.iv 2 rfl) hb_3422 hE9_342 (by decide)
                  have hh_365 := hh_363.sub (L1 := [(spare_13, 3, 8, .ref early_340), (kernel_277, 7, 2, .ref start_334), (spare_13, 3, 9, .ref behind_331), (spare_13, 3, 4, .int qs_281), (r0, 13, 5, .ref kernel_277), (spare_13, 3, 11, .null), (spare_13, 3, 10, .int pk_267), (spare_13, 3, 5, .ref yb_267), (spare_13, 3, 6, .ref ye_267), (r0, 13, 18, .int (-2)), (r0, 13, 16, .ref spare_13), (spare_13, 3, 3, .int ql_18), (spare_13, 3, 2, .ref ut_14), (spare_13, 3, 1, .int (tq.ve spare_13)), (spare_13, 3, 0, .ref uz_14), (ta, 2, 1, .int 0), (r0, 13, 0, .ref ta), (ta, 2, 0, .ref tr_), (r0, 13, 7, .ref op)]) [0, 1, 2, 3, 4, 5, 6, 7, 8, 9, 10, 11, 12, 13, 14, 15, 16, 17, 18] rfl (M1 := [(yb_267, 171, 40, ca 1, gb_281), (ye_267, 172, 40, ca 1, ge_281), (ut_14, 173, 1500, ca 1, gt_18), (uz_14, 174, (tq.ul spare_13), ca 1, (tq.ux spare_13)), (tr_, 197, 4000, ca 0, fa)]) [0, 1, 2, 3, 4] rfl (I1 := [(jFy, jYb dC dI G_342), (jFl, jLs dC dI ca G_342 3 none wl), (jFdo, jDcc dC dI ca G_301 none phn_283), ([(2, 0), (2, 1)], jOl (dC, dI) G0 2 [ta] s.heap)]) [0, 1, 3, 4] rfl
                  clear hh_363
                  have hh_366 := hh_365.addI (jCD.ie hd_364)
                  clear hh_365
                  have hd_367 := jDcc.grow (hh_366.iv 3 rfl) hb_3422 hE9_342 (by decide)
                  have hh_368 := hh_366.sub (L1 := [(spare_13, 3, 8, .ref early_340), (kernel_277, 7, 2, .ref start_334), (spare_13, 3, 9, .ref behind_331), (spare_13, 3, 4, .int qs_281), (r0, 13, 5, .ref kernel_277), (spare_13, 3, 11, .null), (spare_13, 3, 10, .int pk_267), (spare_13, 3, 5, .ref yb_267), (spare_13, 3, 6, .ref ye_267), (r0, 13, 18, .int (-2)), (r0, 13, 16, .ref spare_13), (spare_13, 3, 3, .int ql_18), (spare_13, 3, 2, .ref ut_14), (spare_13, 3, 1, .int (tq.ve spare_13)), (spare_13, 3, 0, .ref uz_14), (ta, 2, 1, .int 0), (r0, 13, 0, .ref ta), (ta, 2, 0, .ref tr_), (r0, 13, 7, .ref op)]) [0, 1, 2, 3, 4, 5, 6, 7, 8, 9, 10, 11, 12, 13, 14, 15, 16, 17, 18] rfl (M1 := [(yb_267, 171, 40, ca 1, gb_281), (ye_267, 172, 40, ca 1, ge_281), (ut_14, 173, 1500, ca 1, gt_18), (uz_14, 174, (tq.ul spare_13), ca 1, (tq.ux spare_13)), (tr_, 197, 4000, ca 0, fa)]) [0, 1, 2, 3, 4] rfl (I1 := [(jFcd, jCD dC dI ca G_342 none t_21), (jFy, jYb dC dI G_342), (jFl, jLs dC dI ca G_342 3 none wl), ([(2, 0), (2, 1)], jOl (dC, dI) G0 2 [ta] s.heap)]) [0, 1, 2, 4] rfl
                  clear hh_366
                  have hh_369 := hh_368.addI (jDcc.ie hd_367)
                  clear hh_368
                  have hh_370 := hh_369.addIs hbE_342
                  obtain ⟨hr_343, hr_343p⟩ := hr_343
                  try simp only at hr_343p
                  obtain ⟨ret_371, rfl, hg_ret_371⟩ := hr_343
                  refine j7_qast hx hb hK2 hh_370 hB hB210 2 rfl (by decide) (by decide) rfl rfl rfl hg_347 (x := v3_286.toInt) (rfl) (by omega) hB11 (T := TX9) (N := 9) rfl (by decide) hg_ret_371 (Or.inr ⟨_, rfl, hg_ret_371⟩) dX11_batch_158 (fun H_372 locs_372 hh_372 => ?_)
                  clear hh_370
                  obtain ⟨z_373, ez_373⟩ : ∃ y : Int32, y = v3_286 + 1 := ⟨_, rfl⟩
                  refine lv_iinc (v := z_373) (lv' := [(3, .int z_373), (4, .ref ret_328), (0, .ref r0), (1, .int a1), (2, .ref spare_13)]) hx hb dX11_batch_159 hl (k := 4) rfl (by rw [ez_373]; rfl) (by decide) rfl (fun ls hl => ?_)
                  have hz_373 : z_373.toInt = v3_286.toInt + 1 := by rw [ez_373]; exact jb_iadd2 (rfl) (by decide) (by omega)
                  have hje := jEd.to hnb.2.2.1 (k1 := z_373.toInt) (by omega)
                  refine lv_goto (tgt := 97) hx hb dX11_batch_162 (by decide) ?_
                  refine W.tight (c2 := ((zcx_286 + (1)) + (23))) (n2 := ((zsx_286 + (m_ret_301)) + ((183 + 336 * (min 1 (m_ret_301 / 3)))))) hh_372.2.2.2.2.2.1 hh_372.2.2.2.2.2.2.1 ?_
                  exact L97 G_342 ((zcx_286 + (1)) + (23)) ((zsx_286 + (m_ret_301)) + ((183 + 336 * (min 1 (m_ret_301 / 3))))) z_373 _ _ (hh_372.sub (L1 := [(spare_13, 3, 4, .int qs_281), (r0, 13, 5, .ref kernel_277), (spare_13, 3, 11, .null), (spare_13, 3, 10, .int pk_267), (spare_13, 3, 5, .ref yb_267), (spare_13, 3, 6, .ref ye_267), (r0, 13, 18, .int (-2)), (r0, 13, 16, .ref spare_13), (spare_13, 3, 3, .int ql_18), (spare_13, 3, 2, .ref ut_14), (spare_13, 3, 1, .int (tq.ve spare_13)), (spare_13, 3, 0, .ref uz_14), (ta, 2, 1, .int 0), (r0, 13, 0, .ref ta), (ta, 2, 0, .ref tr_), (r0, 13, 7, .ref op)]) [3, 4, 5, 6, 7, 8, 9, 10, 11, 12, 13, 14, 15, 16, 17, 18] rfl (M1 := [(yb_267, 171, 40, ca 1, gb_281), (ye_267, 172, 40, ca 1, ge_281), (ut_14, 173, 1500, ca 1, gt_18), (uz_14, 174, (tq.ul spare_13), ca 1, (tq.ux spare_13)), (tr_, 197, 4000, ca 0, fa)]) [0, 1, 2, 3, 4] rfl (I1 := [(jFdo, jDcc dC dI ca G_342 none phn_283), (jFcd, jCD dC dI ca G_342 none t_21), ([(2, 0), (2, 1)], jOl (dC, dI) G0 2 [ta] s.heap), (jFy, jYb dC dI G_342), (jFs11, jSef dC dI G_342), (jFl, jLs dC dI ca G_342 3 none wl)]) [1, 2, 5, 3, 0, 4] rfl) (hNn_342) (((hle_286).tr hb_3012).tr hb_3422) (⟨(by first | (with_reducible assumption) | omega | rfl | fail), (by first | (with_reducible assumption) | omega | rfl | fail), (by first | (with_reducible assumption) | omega | rfl | fail), (by first | (with_reducible assumption) | omega | rfl | fail)⟩) (by omega) _ (lv_sub hl [2, 3, 4, 0] rfl)
            refine W.tight (c2 := 0) (n2 := 0) hh_285.2.2.2.2.2.1 hh_285.2.2.2.2.2.2.1 ?_
            exact L97 (qs_281.toInt - (0 : Int32).toInt : Int).toNat.succ G0 0 0 0 _ _ (hh_285.sub (L1 := [(spare_13, 3, 4, .int qs_281), (r0, 13, 5, .ref kernel_277), (spare_13, 3, 11, .null), (spare_13, 3, 10, .int pk_267), (spare_13, 3, 5, .ref yb_267), (spare_13, 3, 6, .ref ye_267), (r0, 13, 18, .int (-2)), (r0, 13, 16, .ref spare_13), (spare_13, 3, 3, .int ql_18), (spare_13, 3, 2, .ref ut_14), (spare_13, 3, 1, .int (tq.ve spare_13)), (spare_13, 3, 0, .ref uz_14), (ta, 2, 1, .int 0), (r0, 13, 0, .ref ta), (ta, 2, 0, .ref tr_), (r0, 13, 7, .ref op)]) [0, 2, 3, 4, 5, 6, 7, 8, 10, 11, 12, 13, 14, 15, 16, 17] rfl (M1 := [(yb_267, 171, 40, ca 1, gb_281), (ye_267, 172, 40, ca 1, ge_281), (ut_14, 173, 1500, ca 1, gt_18), (uz_14, 174, (tq.ul spare_13), ca 1, (tq.ux spare_13)), (tr_, 197, 4000, ca 0, fa)]) [0, 1, 2, 3, 4] rfl (I1 := [(jFdo, jDcc dC dI ca G0 none phn_283), (jFcd, jCD dC dI ca G0 none t_21), ([(2, 0), (2, 1)], jOl (dC, dI) G0 2 [ta] s.heap), (jFy, jYb dC dI G0), (jFs11, jSef dC dI G0), (jFl, jLs dC dI ca G0 3 none wl)]) [0, 1, 2, 3, 4, 5] rfl) (jNk.rf) (jLe.rf) (⟨(by first | (with_reducible assumption) | omega | rfl | fail), (by first | (with_reducible assumption) | omega | rfl | fail), (by first | (with_reducible assumption) | omega | rfl | fail), (by first | (with_reducible assumption) | omega | rfl | fail)⟩) (by omega) _ (lv_sub hl [2, 3, 1, 0] rfl)
          · skip
            refine lv_aload_n hx hb dX11_batch_84 rfl (lv_at hl 0 rfl) ?_
            refine lv_aload_n hx hb dX11_batch_85 rfl (lv_at hl 1 rfl) ?_
            obtain ⟨v_375, hv_375, hh_376⟩ := hh_267.pin (C := RX11) (T := TX11) (N := 19) hB13 rfl (by decide) hg_r0 (i := 5) (by decide) rfl
            clear hh_267
            obtain ⟨kernel_377, rfl, hg_kernel_377⟩ := hv_375
            refine j7_read hx hb hown hK (C := RX11) (T := TX11) (N := 19) rfl hly_13_5 hlk_41 (hh_376.at 0 rfl) dX11_batch_86 ?_
            obtain ⟨v_378, hv_378, hh_379⟩ := hh_376.pin (C := RX5) (T := TX5) (N := 11) hB7 rfl (by decide) hg_kernel_377 (i := 1) (by decide) rfl
            clear hh_376
            obtain ⟨syntax_380, rfl, hg_syntax_380⟩ := hv_378
            refine j7_read hx hb hown hK (C := RX5) (T := TX5) (N := 11) rfl hly_7_1 hlk_203 (hh_379.at 0 rfl) dX11_batch_89 ?_
            have hsz_381 := hh_379.2.2.2.2.2.1
            have htt_381 := hh_379.2.2.2.2.2.2.1
            refine W.room (fun hrc_381 hrs_381 => ?_)
            refine va_callv (A0 := jA base) (H0 := s.heap) (va_runV (As := [.ref syntax_380]) (rest := []) ⟨hx, hb, hml, hown, hts⟩ (uX1_partP l dC dI ca base B hB hAp hB3 hB8 hB12 hB101 hB102 hB132 hB133 hB171 hB172 hB173 hB293 G0 H_266 spare_13 syntax_380 1 ql_18 yb_267 ye_267 ut_14 (pho_267) fb_267 fe_267 gt_18) (cwV 1 hts (jgV (jWr_36 _ (List.mem_of_getElem? (i := 2) rfl)) (jWr_36 _ (List.mem_of_getElem? (i := 3) rfl)) (jWr_36 _ (List.mem_of_getElem? (i := 4) rfl)) (jWr_2 _ (List.mem_of_getElem? (i := 21) rfl)) (jWr_36 _ (List.mem_of_getElem? (i := 5) rfl))) rfl rfl rfl (by decide +kernel) ⟨by rw [← hR]; exact Nat.le_of_ble_eq_true rfl, by rw [← hR]; exact Nat.le_of_ble_eq_true rfl⟩) ⟨fun a U g mk q => by obtain ⟨q0, q1, q2, qK, q10, q11, q12, q13, q14, q15, q16, q17, q18⟩ := q; exact ⟨q0, q1, q2, jG.calling g mk a qK, q10, q11, q12, q13, q14, q15, q16, q17, q18⟩, hh_379.recv (C := RX1) (T := TX1) (N := 17) hB3 rfl (by decide) hg_spare_13 hK, fun U hU hW => ⟨rfl, hU, hh_379.2.1, hG.step hW hU hh_379.1, hg_spare_13, hg_syntax_380, hgb_267, hge_267, hgt_14, (hh_379.2.2.1.sub (L1 := [(spare_13, 3, 3, .int ql_18), (spare_13, 3, 5, .ref yb_267), (spare_13, 3, 6, .ref ye_267), (spare_13, 3, 2, .ref ut_14)]) [10, 5, 6, 11] rfl), (hh_379.2.2.2.2.2.2.2.1.sub (L1 := [(yb_267, 171, 40, ca 1, fb_267), (ye_267, 172, 40, ca 1, fe_267), (ut_14, 173, 1500, ca 1, gt_18)]) [0, 1, 2] rfl), (hh_379.2.2.2.2.2.2.2.2.sub (L1 := [(jFdo, jDcc dC dI ca G0 (some spare_13) pho_267)]) [0] rfl), ⟨(by first | (with_reducible assumption) | omega | rfl | fail), (by first | (with_reducible assumption) | omega | rfl | fail)⟩⟩⟩ rfl rfl hl.1 rfl (lv_room (Nat.le_of_ble_eq_true rfl)) dX11_batch_92 ⟨by rw [hRc]; show _ + 0 ≤ _; omega, by rw [hRs]; show _ + 0 ≤ _; omega⟩) hh_379.1 (fun q _ h => h) (fun q h => h) (fun u_381 t_381 H_381 locs_381 ht_381 hvm_381 hr_382 hb_381 hz_381 hk_381 hS_381 => ?_)
            obtain ⟨qs_381, gb_381, ge_381⟩ := u_381
            rw [ht_381] at hb_381
            obtain ⟨hb_381, hbE_381⟩ := hb_381
            obtain ⟨hb_381, hbO_381⟩ := hb_381
            obtain ⟨⟨hb_3811, hb_3812, hb_3813, hb_3814, hb_3815⟩, hb_3816⟩ := hb_381
            have hh_381 : jSt (dC, dI) B base G0 G0 EX11_batchU s.heap 0 0 [(spare_13, 3, 4, .int qs_381), (kernel_377, 7, 1, .ref syntax_380), (r0, 13, 5, .ref kernel_377), (spare_13, 3, 11, .ref chk_273), (spare_13, 3, 10, .int pk_267), (spare_13, 3, 5, .ref yb_267), (spare_13, 3, 6, .ref ye_267), (r0, 13, 18, .int (-2)), (r0, 13, 16, .ref spare_13), (r0, 13, 15, .ref latest_27), (spare_13, 3, 3, .int ql_18), (spare_13, 3, 2, .ref ut_14), (spare_13, 3, 1, .int (tq.ve spare_13)), (spare_13, 3, 0, .ref uz_14), (ta, 2, 1, .int 0), (r0, 13, 0, .ref ta), (ta, 2, 0, .ref tr_), (r0, 13, 7, .ref op)] [(yb_267, 171, 40, ca 1, gb_381), (ye_267, 172, 40, ca 1, ge_381), (ut_14, 173, 1500, ca 1, gt_18), (uz_14, 174, (tq.ul spare_13), ca 1, (tq.ux spare_13)), (tr_, 197, 4000, ca 0, fa)] [(jFdo, jDcc dC dI ca G0 (some spare_13) pho_267), (jFcd, jCD dC dI ca G0 none t_21), ([(2, 0), (2, 1)], jOl (dC, dI) G0 2 [ta] s.heap), (jFy, jYb dC dI G0), (jFs11, jSef dC dI G0), (jFl, jLs dC dI ca G0 3 none wl)] H_381 locs_381 := (((hh_379.call hb_3811 hb_3812 hb_3813 hb_3814 hS_381 rfl (L1 := [(kernel_377, 7, 1, .ref syntax_380), (r0, 13, 5, .ref kernel_377), (spare_13, 3, 11, .ref chk_273), (spare_13, 3, 10, .int pk_267), (spare_13, 3, 5, .ref yb_267), (spare_13, 3, 6, .ref ye_267), (r0, 13, 18, .int (-2)), (r0, 13, 16, .ref spare_13), (r0, 13, 15, .ref latest_27), (spare_13, 3, 3, .int ql_18), (spare_13, 3, 2, .ref ut_14), (spare_13, 3, 1, .int (tq.ve spare_13)), (spare_13, 3, 0, .ref uz_14), (ta, 2, 1, .int 0), (r0, 13, 0, .ref ta), (ta, 2, 0, .ref tr_), (r0, 13, 7, .ref op)]) [0, 1, 2, 4, 5, 6, 7, 8, 9, 10, 11, 12, 13, 14, 15, 16, 17] rfl rfl (M1 := [(ut_14, 173, 1500, ca 1, gt_18), (uz_14, 174, (tq.ul spare_13), ca 1, (tq.ux spare_13)), (tr_, 197, 4000, ca 0, fa)]) [2, 3, 4] rfl rfl (I1 := [(jFcd, jCD dC dI ca G0 none t_21), ([(2, 0), (2, 1)], jOl (dC, dI) G0 2 [ta] s.heap), (jFy, jYb dC dI G0), (jFs11, jSef dC dI G0), (jFl, jLs dC dI ca G0 3 none wl)]) [1, 2, 3, 4, 5] rfl rfl).more hb_3815).moreM hb_3816).addIs hbE_381
            clear hh_379 ht_381 hvm_381 hz_381 hk_381 hS_381 hb_3811 hb_3812 hb_3813 hb_3814 hb_3815
            clear hb_3816
            clear  hbE_381
            try simp only at hr_382
            obtain ⟨hr_382_0, hr_382_1, hr_382_2, hr_382_3⟩ := hr_382
            obtain ⟨phn_383, hphn_383⟩ : ∃ q : Nat, q = pho_267 := ⟨_, rfl⟩
            have hF_383 := jDcc.full (ph1 := phn_383) (hh_381.iv 0 rfl) hg_spare_13 (hh_381.at 5 rfl) (hh_381.at 6 rfl) ⟨(hh_381.2.2.1.sub (L1 := [(spare_13, 3, 4, .int qs_381), (spare_13, 3, 10, .int pk_267), (spare_13, 3, 11, .ref chk_273)]) [0, 4, 3] rfl), (hh_381.2.2.2.2.2.2.2.1.sub (L1 := [(yb_267, 171, 40, ca 1, gb_381), (ye_267, 172, 40, ca 1, ge_381)]) [0, 1] rfl), (hr_382_2.mono (by omega)), by omega⟩ (w := (575 * (qs_381.toInt - pk_267.toInt) - 16 + (1500 - jSo ge_381 pk_267.toInt)).toNat) (fun h9 => absurd h9 (by decide)) (by omega) (fun h9 => absurd h9 (by decide))
            have hh_384 := hh_381.sub (L1 := [(spare_13, 3, 4, .int qs_381), (kernel_377, 7, 1, .ref syntax_380), (r0, 13, 5, .ref kernel_377), (spare_13, 3, 11, .ref chk_273), (spare_13, 3, 10, .int pk_267), (spare_13, 3, 5, .ref yb_267), (spare_13, 3, 6, .ref ye_267), (r0, 13, 18, .int (-2)), (r0, 13, 16, .ref spare_13), (r0, 13, 15, .ref latest_27), (spare_13, 3, 3, .int ql_18), (spare_13, 3, 2, .ref ut_14), (spare_13, 3, 1, .int (tq.ve spare_13)), (spare_13, 3, 0, .ref uz_14), (ta, 2, 1, .int 0), (r0, 13, 0, .ref ta), (ta, 2, 0, .ref tr_), (r0, 13, 7, .ref op)]) [0, 1, 2, 3, 4, 5, 6, 7, 8, 9, 10, 11, 12, 13, 14, 15, 16, 17] rfl (M1 := [(yb_267, 171, 40, ca 1, gb_381), (ye_267, 172, 40, ca 1, ge_381), (ut_14, 173, 1500, ca 1, gt_18), (uz_14, 174, (tq.ul spare_13), ca 1, (tq.ux spare_13)), (tr_, 197, 4000, ca 0, fa)]) [0, 1, 2, 3, 4] rfl (I1 := [(jFcd, jCD dC dI ca G0 none t_21), ([(2, 0), (2, 1)], jOl (dC, dI) G0 2 [ta] s.heap), (jFy, jYb dC dI G0), (jFs11, jSef dC dI G0), (jFl, jLs dC dI ca G0 3 none wl)]) [1, 2, 3, 4, 5] rfl
            clear hh_381
            have hh_385 := hh_384.addI (jDcc.ie hF_383)
            clear hh_384
            refine lv_iconst (v := 0) hx hb dX11_batch_95 (by decide) ?_
            have hjz := jEd.z (fe := ge_381) (k := (0 : Int32).toInt) (by omega)
            refine lv_istore_n (lv' := [(3, .int 0), (2, .ref spare_13), (0, .ref r0), (1, .int a1)]) hx hb dX11_batch_96 rfl hl (by decide) rfl (fun ls hl => ?_)
            have L97 : ∀ (N : Nat) (Gx_386 : jT) (zcx_386 : Nat) (zsx_386 : Nat) (v3_386 : Int32) (H_386 : Heap) (locs_386 : List Loc), jSt (dC, dI) B base G0 Gx_386 EX11_batchU s.heap zcx_386 zsx_386 [(spare_13, 3, 4, .int qs_381), (r0, 13, 5, .ref kernel_377), (spare_13, 3, 10, .int pk_267), (spare_13, 3, 5, .ref yb_267), (spare_13, 3, 6, .ref ye_267), (r0, 13, 18, .int (-2)), (r0, 13, 16, .ref spare_13), (spare_13, 3, 3, .int ql_18), (spare_13, 3, 2, .ref ut_14), (spare_13, 3, 1, .int (tq.ve spare_13)), (spare_13, 3, 0, .ref uz_14), (ta, 2, 1, .int 0), (r0, 13, 0, .ref ta), (ta, 2, 0, .ref tr_), (r0, 13, 7, .ref op)] [(yb_267, 171, 40, ca 1, gb_381), (ye_267, 172, 40, ca 1, ge_381), (ut_14, 173, 1500, ca 1, gt_18), (uz_14, 174, (tq.ul spare_13), ca 1, (tq.ux spare_13)), (tr_, 197, 4000, ca 0, fa)] [(jFdo, jDcc dC dI ca Gx_386 none phn_383), (jFcd, jCD dC dI ca Gx_386 none t_21), ([(2, 0), (2, 1)], jOl (dC, dI) G0 2 [ta] s.heap), (jFy, jYb dC dI Gx_386), (jFs11, jSef dC dI Gx_386), (jFl, jLs dC dI ca Gx_386 3 none wl)] H_386 locs_386 → (jNk [0, 1, 2, 4, 6, 7, 8, 9, 10, 12, 13, 14, 15, 16]) G0 Gx_386 → jLe G0 Gx_386 → (0 ≤ v3_386.toInt ∧ v3_386.toInt ≤ qs_381.toInt ∧ zcx_386 ≤ 8 + 24 * v3_386.toInt ∧ zsx_386 ≤ 1720 + 185 * jEd ge_381 v3_386.toInt) → (qs_381.toInt - v3_386.toInt : Int) < N → ∀ ls : Array Slot, lv_has ls 5 [(0, .ref r0), (1, .int a1), (2, .ref spare_13), (3, .int v3_386)] → W p l e R s m ([.ref r0, .int a1] : List Value).toArray below meth c H_386 locs_386 zcx_386 zsx_386 Q (F0 m 97 ls []) := by
              intro N
              induction N with
              | zero => intro Gx_386 zcx_386 zsx_386 v3_386 H_386 locs_386 hh_386 hN_386 hle_386 hi_386 hm; exact absurd hm (by omega)
              | succ N L97 =>
                intro Gx_386 zcx_386 zsx_386 v3_386 H_386 locs_386 hh_386 hN_386 hle_386 hi_386 hm_386 ls hl
                have hg_387 := hle_386 _ _ hg_r0
                have hg_388 := hle_386 _ _ hg_spare_13
                have hg_389 := hle_386 _ _ hg_kernel_377
                have hg_390 := hle_386 _ _ hgb_267
                have hg_391 := hle_386 _ _ hge_267
                have hg_392 := hle_386 _ _ hgt_14
                have hg_393 := hle_386 _ _ hgz_14
                have hg_394 := hle_386 _ _ hg_ta
                have hg_395 := hle_386 _ _ hg_tr_
                have hg_396 := hle_386 _ _ hg_op
                obtain ⟨hi_386_0, hi_386_1, hi_386_2, hi_386_3⟩ := hi_386
                have hql := jSn.le hr_382_2 (by omega)
                refine lv_iload_n hx hb dX11_batch_97 rfl (lv_at hl 3 rfl) ?_
                refine lv_aload_n hx hb dX11_batch_98 rfl (lv_at hl 2 rfl) ?_
                refine j7_read hx hb hown hK (C := RX1) (T := TX1) (N := 17) rfl hly_3_4 hlk_168 (hh_386.at 0 rfl) dX11_batch_99 ?_
                refine lv_icmp_ge (tgt := 165) hx hb dX11_batch_102 (by decide) (fun c_397 => ?_) (fun c_397 => ?_)
                · skip
                  have c_397' : v3_386.toInt ≥ qs_381.toInt := jb_ge (rfl) (rfl) c_397
                  have hjl := jEd.le hr_382_2 (k := v3_386.toInt) (by omega) (by omega) (by omega)
                  obtain ⟨hfi9, hfs9⟩ : jdIv t_21 wl ∧ jdCs t_21 wl = jdCs tq wl := ⟨(by rw [ht_22]; exact hpIV.put (by omega) (by omega)), (by rw [ht_22]; exact jdCs.put hnsp9)⟩
                  refine lv_aload_n hx hb dX11_batch_165 rfl (lv_at hl 2 rfl) ?_
                  refine j7_read hx hb hown hK (C := RX1) (T := TX1) (N := 17) rfl hly_3_4 hlk_168 (hh_386.at 0 rfl) dX11_batch_166 ?_
                  have hsz_398 := hh_386.2.2.2.2.2.1
                  have htt_398 := hh_386.2.2.2.2.2.2.1
                  refine W.room (fun hrc_398 hrs_398 => ?_)
                  refine W.widen (k := LC - s.heap.size) (n := LS - jTot s.heap) (by omega) (by omega) ?_
                  rw [hQ]
                  exact W.iret (v := qs_381) hx hb hr (fun t ht hW => ⟨⟨qs_381, (0, phn_383, (pt.toInt.toNat - (0 : Int).toNat), t_21, Gx_386), rfl, by skip; (try dsimp only); refine ⟨by omega, by omega, by omega, ?_, hfi9, hfs9⟩; exact Or.inr ⟨by omega, by omega, jBa.part (hr_19p_3.yes (by omega)).1 (by omega) (hr_19p_3.yes (by omega)).2 hr_382_3⟩, ⟨hh_386.ra (by first | (simp only; omega) | omega) (by first | (simp only; omega) | omega) (M1 := [(ta, 2, 1, .int 0)]) [11] rfl ht, hN_386, by rw [ht]; exact hh_386.iv 2 rfl, by rw [ht]; exact hh_386.2.2.2.2.2.2.2.2.sub (L1 := [(jFy, jYb dC dI Gx_386), (jFs11, jSef dC dI Gx_386), (jFl, jLs dC dI ca Gx_386 3 none wl), (jFdo, jDcc dC dI ca Gx_386 none phn_383), (jFcd, jCD dC dI ca Gx_386 none t_21)]) [3, 4, 5, 0, 1] rfl⟩⟩, by rw [ht]; try exact hh_386.1.1, fun q h9 hq => by rw [ht]; try exact hh_386.1.2.1 q h9 hq⟩) hh_386.1.2.2 dX11_batch_169
                · skip
                  have c_397' : v3_386.toInt < qs_381.toInt := jb_ge_n (rfl) (rfl) c_397
                  have hn2 := jEd.nx hr_382_2 (k := v3_386.toInt) (by omega) (by omega)
                  have hnb := jEd.nx (hr_382_2.mono (by omega) : jSn _ _ _ 1500) (k := v3_386.toInt) (by omega) (by omega)
                  refine lv_aload_n hx hb dX11_batch_105 rfl (lv_at hl 2 rfl) ?_
                  refine j7_read hx hb hown hK (C := RX1) (T := TX1) (N := 17) rfl hly_3_2 hlk_174 (hh_386.at 8 rfl) dX11_batch_106 ?_
                  refine lv_aload_n hx hb dX11_batch_109 rfl (lv_at hl 2 rfl) ?_
                  refine j7_read hx hb hown hK (C := RX1) (T := TX1) (N := 17) rfl hly_3_5 hlk_182 (hh_386.at 3 rfl) dX11_batch_110 ?_
                  refine lv_iload_n hx hb dX11_batch_113 rfl (lv_at hl 3 rfl) ?_
                  refine j7_ialdM hx hb hK hh_386 hB171 1 rfl (by decide) hg_390 (x := v3_386.toInt) (rfl) (by omega) (j := 0) rfl dX11_batch_114 (fun z_399 ez_399 (hz_399 : 0 ≤ z_399.toInt ∧ z_399.toInt ≤ 1500) => ?_)
                  have hqz_399 : z_399.toInt = jSo gb_381 (v3_386.toInt) := by unfold jSo; rw [ez_399]
                  refine lv_aload_n hx hb dX11_batch_115 rfl (lv_at hl 2 rfl) ?_
                  refine j7_read hx hb hown hK (C := RX1) (T := TX1) (N := 17) rfl hly_3_6 hlk_185 (hh_386.at 4 rfl) dX11_batch_116 ?_
                  refine lv_iload_n hx hb dX11_batch_119 rfl (lv_at hl 3 rfl) ?_
                  refine j7_ialdM hx hb hK hh_386 hB172 1 rfl (by decide) hg_391 (x := v3_386.toInt) (rfl) (by omega) (j := 1) rfl dX11_batch_120 (fun z_400 ez_400 (hz_400 : 0 ≤ z_400.toInt ∧ z_400.toInt ≤ 1500) => ?_)
                  have hqz_400 : z_400.toInt = jSo ge_381 (v3_386.toInt) := by unfold jSo; rw [ez_400]
                  have hsz_401 := hh_386.2.2.2.2.2.1
                  have htt_401 := hh_386.2.2.2.2.2.2.1
                  refine W.room (fun hrc_401 hrs_401 => ?_)
                  refine j_callx (A0 := jA base) (H0 := s.heap) (va_runS (As := [.ref ut_14, .int z_399, .int z_400]) (rest := []) ⟨hx, hb, hml, hown, hts⟩ (uJ7_copyOfRange_feeccUt9 l dC dI ca base B hB hAp hB101 hB173 hB280 Gx_386 H_386 ut_14 z_399 z_400 1500 LC LS) (va_cwS 3 hts (jgS (jWr_77 _ (List.mem_of_getElem? (i := 21) rfl)) (jWr_77 _ (List.mem_of_getElem? (i := 22) rfl)) (jWr_16 _ (List.mem_of_getElem? (i := 7) rfl)) (jWr_77 _ (List.mem_of_getElem? (i := 23) rfl))) rfl rfl rfl (by decide +kernel) ⟨by rw [← hR]; exact Nat.le_of_ble_eq_true rfl, by rw [← hR]; exact Nat.le_of_ble_eq_true rfl⟩) ⟨fun a U g mk q => by obtain ⟨q0, q1, q2, qK, q10, q11, q12, q13⟩ := q; exact ⟨q0, q1, q2, jG.calling g mk a qK, (jK8.calling g mk a q10), q11, q12, q13⟩, fun U hU hW => ⟨rfl, hU, hh_386.2.1, hG.step hW hU hh_386.1, (jK8.warm hW hK8), hg_392, jP.nil, ⟨(by first | (with_reducible assumption) | omega | rfl | fail), (by first | (with_reducible assumption) | omega | rfl | fail), (by first | (with_reducible assumption) | omega | rfl | fail), (by first | (with_reducible assumption) | omega | rfl | fail)⟩⟩⟩ rfl rfl hl.1 rfl (lv_room (Nat.le_of_ble_eq_true rfl)) dX11_batch_121 ⟨by rw [hRc]; omega, by rw [hRs]; omega⟩) hh_386.1 (fun q _ h => h) (fun q h => h) (fun r_402 u_401 t_401 H_401 locs_401 ht_401 hvm_401 hr_402 hb_401 hz_401 hk_401 hS_401 => ?_)
                  rw [ht_401] at hb_401
                  obtain ⟨m_ret_401, G_401⟩ := u_401
                  simp only at hb_401
                  obtain ⟨⟨hb_4011, hb_4012, hb_4013, hb_4014, hb_4015, hb_4016⟩, hN_401, hbK_401⟩ := hb_401
                  have hE9_401 := hN_401
                  have hM_401 := hN_401
                  have hN_401 : (jNk [0, 1, 2, 4, 6, 7, 8, 9, 10, 12, 13, 14, 15, 16]) Gx_386 G_401 := hN_401.sub (by decide)
                  have hh_401 : jSt (dC, dI) B base G0 G_401 EX11_batchU s.heap (zcx_386 + (1)) (zsx_386 + (m_ret_401)) [(spare_13, 3, 4, .int qs_381), (r0, 13, 5, .ref kernel_377), (spare_13, 3, 10, .int pk_267), (spare_13, 3, 5, .ref yb_267), (spare_13, 3, 6, .ref ye_267), (r0, 13, 18, .int (-2)), (r0, 13, 16, .ref spare_13), (spare_13, 3, 3, .int ql_18), (spare_13, 3, 2, .ref ut_14), (spare_13, 3, 1, .int (tq.ve spare_13)), (spare_13, 3, 0, .ref uz_14), (ta, 2, 1, .int 0), (r0, 13, 0, .ref ta), (ta, 2, 0, .ref tr_), (r0, 13, 7, .ref op)] [(yb_267, 171, 40, ca 1, gb_381), (ye_267, 172, 40, ca 1, ge_381), (ut_14, 173, 1500, ca 1, gt_18), (uz_14, 174, (tq.ul spare_13), ca 1, (tq.ux spare_13)), (tr_, 197, 4000, ca 0, fa)] [(jFdo, jDcc dC dI ca Gx_386 none phn_383), (jFcd, jCD dC dI ca Gx_386 none t_21), ([(2, 0), (2, 1)], jOl (dC, dI) G0 2 [ta] s.heap), (jFy, jYb dC dI Gx_386), (jFs11, jSef dC dI Gx_386), (jFl, jLs dC dI ca Gx_386 3 none wl)] H_401 locs_401 := (hh_386.callG hb_4011 hb_4012 hb_4013 hb_4014 hb_4015 hS_401 rfl (L1 := [(spare_13, 3, 4, .int qs_381), (r0, 13, 5, .ref kernel_377), (spare_13, 3, 10, .int pk_267), (spare_13, 3, 5, .ref yb_267), (spare_13, 3, 6, .ref ye_267), (r0, 13, 18, .int (-2)), (r0, 13, 16, .ref spare_13), (spare_13, 3, 3, .int ql_18), (spare_13, 3, 2, .ref ut_14), (spare_13, 3, 1, .int (tq.ve spare_13)), (spare_13, 3, 0, .ref uz_14), (ta, 2, 1, .int 0), (r0, 13, 0, .ref ta), (ta, 2, 0, .ref tr_), (r0, 13, 7, .ref op)]) [0, 1, 2, 3, 4, 5, 6, 7, 8, 9, 10, 11, 12, 13, 14] rfl rfl (M1 := [(yb_267, 171, 40, ca 1, gb_381), (ye_267, 172, 40, ca 1, ge_381), (ut_14, 173, 1500, ca 1, gt_18), (uz_14, 174, (tq.ul spare_13), ca 1, (tq.ux spare_13)), (tr_, 197, 4000, ca 0, fa)]) [0, 1, 2, 3, 4] rfl rfl (I1 := [(jFdo, jDcc dC dI ca Gx_386 none phn_383), (jFcd, jCD dC dI ca Gx_386 none t_21), ([(2, 0), (2, 1)], jOl (dC, dI) G0 2 [ta] s.heap), (jFy, jYb dC dI Gx_386), (jFs11, jSef dC dI Gx_386), (jFl, jLs dC dI ca Gx_386 3 none wl)]) [0, 1, 2, 3, 4, 5] rfl rfl).more hb_4016
                  have hNn_401 : (jNk [0, 1, 2, 4, 6, 7, 8, 9, 10, 12, 13, 14, 15, 16]) G0 G_401 := (hN_386).tr hN_401
                  have hg_403 := hb_4012 _ _ hg_387
                  have hg_404 := hb_4012 _ _ hg_388
                  have hg_405 := hb_4012 _ _ hg_389
                  have hg_406 := hb_4012 _ _ hg_390
                  have hg_407 := hb_4012 _ _ hg_391
                  have hg_408 := hb_4012 _ _ hg_392
                  have hg_409 := hb_4012 _ _ hg_393
                  have hg_410 := hb_4012 _ _ hg_394
                  have hg_411 := hb_4012 _ _ hg_395
                  have hg_412 := hb_4012 _ _ hg_396
                  have hd_413 := jDcc.grow (hh_401.iv 0 rfl) hb_4012 hE9_401 (by decide)
                  have hh_414 := hh_401.sub (L1 := [(spare_13, 3, 4, .int qs_381), (r0, 13, 5, .ref kernel_377), (spare_13, 3, 10, .int pk_267), (spare_13, 3, 5, .ref yb_267), (spare_13, 3, 6, .ref ye_267), (r0, 13, 18, .int (-2)), (r0, 13, 16, .ref spare_13), (spare_13, 3, 3, .int ql_18), (spare_13, 3, 2, .ref ut_14), (spare_13, 3, 1, .int (tq.ve spare_13)), (spare_13, 3, 0, .ref uz_14), (ta, 2, 1, .int 0), (r0, 13, 0, .ref ta), (ta, 2, 0, .ref tr_), (r0, 13, 7, .ref op)]) [0, 1, 2, 3, 4, 5, 6, 7, 8, 9, 10, 11, 12, 13, 14] rfl (M1 := [(yb_267, 171, 40, ca 1, gb_381), (ye_267, 172, 40, ca 1, ge_381), (ut_14, 173, 1500, ca 1, gt_18), (uz_14, 174, (tq.ul spare_13), ca 1, (tq.ux spare_13)), (tr_, 197, 4000, ca 0, fa)]) [0, 1, 2, 3, 4] rfl (I1 := [(jFcd, jCD dC dI ca Gx_386 none t_21), ([(2, 0), (2, 1)], jOl (dC, dI) G0 2 [ta] s.heap), (jFy, jYb dC dI Gx_386), (jFs11, jSef dC dI Gx_386), (jFl, jLs dC dI ca Gx_386 3 none wl)]) [1, 2, 3, 4, 5] rfl
                  clear hh_401
                  have hh_415 := hh_414.addI (jDcc.ie hd_413)
                  clear hh_414
                  have hd_416 := jCD.grow (hh_415.iv 1 rfl) hb_4012 hE9_401 (by decide)
                  have hh_417 := hh_415.sub (L1 := [(spare_13, 3, 4, .int qs_381), (r0, 13, 5, .ref kernel_377), (spare_13, 3, 10, .int pk_267), (spare_13, 3, 5, .ref yb_267), (spare_13, 3, 6, .ref ye_267), (r0, 13, 18, .int (-2)), (r0, 13, 16, .ref spare_13), (spare_13, 3, 3, .int ql_18), (spare_13, 3, 2, .ref ut_14), (spare_13, 3, 1, .int (tq.ve spare_13)), (spare_13, 3, 0, .ref uz_14), (ta, 2, 1, .int 0), (r0, 13, 0, .ref ta), (ta, 2, 0, .ref tr_), (r0, 13, 7, .ref op)]) [0, 1, 2, 3, 4, 5, 6, 7, 8, 9, 10, 11, 12, 13, 14] rfl (M1 := [(yb_267, 171, 40, ca 1, gb_381), (ye_267, 172, 40, ca 1, ge_381), (ut_14, 173, 1500, ca 1, gt_18), (uz_14, 174, (tq.ul spare_13), ca 1, (tq.ux spare_13)), (tr_, 197, 4000, ca 0, fa)]) [0, 1, 2, 3, 4] rfl (I1 := [(jFdo, jDcc dC dI ca G_401 none phn_383), ([(2, 0), (2, 1)], jOl (dC, dI) G0 2 [ta] s.heap), (jFy, jYb dC dI Gx_386), (jFs11, jSef dC dI Gx_386), (jFl, jLs dC dI ca Gx_386 3 none wl)]) [0, 2, 3, 4, 5] rfl
                  clear hh_415
                  have hh_418 := hh_417.addI (jCD.ie hd_416)
                  clear hh_417
                  have hd_419 := jYb.grow (hh_418.iv 3 rfl) hb_4012 hN_401 (by decide)
                  have hh_420 := hh_418.sub (L1 := [(spare_13, 3, 4, .int qs_381), (r0, 13, 5, .ref kernel_377), (spare_13, 3, 10, .int pk_267), (spare_13, 3, 5, .ref yb_267), (spare_13, 3, 6, .ref ye_267), (r0, 13, 18, .int (-2)), (r0, 13, 16, .ref spare_13), (spare_13, 3, 3, .int ql_18), (spare_13, 3, 2, .ref ut_14), (spare_13, 3, 1, .int (tq.ve spare_13)), (spare_13, 3, 0, .ref uz_14), (ta, 2, 1, .int 0), (r0, 13, 0, .ref ta), (ta, 2, 0, .ref tr_), (r0, 13, 7, .ref op)]) [0, 1, 2, 3, 4, 5, 6, 7, 8, 9, 10, 11, 12, 13, 14] rfl (M1 := [(yb_267, 171, 40, ca 1, gb_381), (ye_267, 172, 40, ca 1, ge_381), (ut_14, 173, 1500, ca 1, gt_18), (uz_14, 174, (tq.ul spare_13), ca 1, (tq.ux spare_13)), (tr_, 197, 4000, ca 0, fa)]) [0, 1, 2, 3, 4] rfl (I1 := [(jFcd, jCD dC dI ca G_401 none t_21), (jFdo, jDcc dC dI ca G_401 none phn_383), ([(2, 0), (2, 1)], jOl (dC, dI) G0 2 [ta] s.heap), (jFs11, jSef dC dI Gx_386), (jFl, jLs dC dI ca Gx_386 3 none wl)]) [0, 1, 2, 4, 5] rfl
                  clear hh_418
                  have hh_421 := hh_420.addI (jYb.ie hd_419)
                  clear hh_420
                  have hd_422 := jSef.grow (hh_421.iv 4 rfl) hb_4012 hM_401 (by decide)
                  have hh_423 := hh_421.sub (L1 := [(spare_13, 3, 4, .int qs_381), (r0, 13, 5, .ref kernel_377), (spare_13, 3, 10, .int pk_267), (spare_13, 3, 5, .ref yb_267), (spare_13, 3, 6, .ref ye_267), (r0, 13, 18, .int (-2)), (r0, 13, 16, .ref spare_13), (spare_13, 3, 3, .int ql_18), (spare_13, 3, 2, .ref ut_14), (spare_13, 3, 1, .int (tq.ve spare_13)), (spare_13, 3, 0, .ref uz_14), (ta, 2, 1, .int 0), (r0, 13, 0, .ref ta), (ta, 2, 0, .ref tr_), (r0, 13, 7, .ref op)]) [0, 1, 2, 3, 4, 5, 6, 7, 8, 9, 10, 11, 12, 13, 14] rfl (M1 := [(yb_267, 171, 40, ca 1, gb_381), (ye_267, 172, 40, ca 1, ge_381), (ut_14, 173, 1500, ca 1, gt_18), (uz_14, 174, (tq.ul spare_13), ca 1, (tq.ux spare_13)), (tr_, 197, 4000, ca 0, fa)]) [0, 1, 2, 3, 4] rfl (I1 := [(jFy, jYb dC dI G_401), (jFcd, jCD dC dI ca G_401 none t_21), (jFdo, jDcc dC dI ca G_401 none phn_383), ([(2, 0), (2, 1)], jOl (dC, dI) G0 2 [ta] s.heap), (jFl, jLs dC dI ca Gx_386 3 none wl)]) [0, 1, 2, 3, 5] rfl
                  clear hh_421
                  have hh_424 := hh_423.addI (jSef.ie hd_422)
                  clear hh_423
                  have hd_425 := jLs.grow (hh_424.iv 5 rfl) hb_4012 hN_401 (by decide)
                  have hh_426 := hh_424.sub (L1 := [(spare_13, 3, 4, .int qs_381), (r0, 13, 5, .ref kernel_377), (spare_13, 3, 10, .int pk_267), (spare_13, 3, 5, .ref yb_267), (spare_13, 3, 6, .ref ye_267), (r0, 13, 18, .int (-2)), (r0, 13, 16, .ref spare_13), (spare_13, 3, 3, .int ql_18), (spare_13, 3, 2, .ref ut_14), (spare_13, 3, 1, .int (tq.ve spare_13)), (spare_13, 3, 0, .ref uz_14), (ta, 2, 1, .int 0), (r0, 13, 0, .ref ta), (ta, 2, 0, .ref tr_), (r0, 13, 7, .ref op)]) [0, 1, 2, 3, 4, 5, 6, 7, 8, 9, 10, 11, 12, 13, 14] rfl (M1 := [(yb_267, 171, 40, ca 1, gb_381), (ye_267, 172, 40, ca 1, ge_381), (ut_14, 173, 1500, ca 1, gt_18), (uz_14, 174, (tq.ul spare_13), ca 1, (tq.ux spare_13)), (tr_, 197, 4000, ca 0, fa)]) [0, 1, 2, 3, 4] rfl (I1 := [(jFs11, jSef dC dI G_401), (jFy, jYb dC dI G_401), (jFcd, jCD dC dI ca G_401 none t_21), (jFdo, jDcc dC dI ca G_401 none phn_383), ([(2, 0), (2, 1)], jOl (dC, dI) G0 2 [ta] s.heap)]) [0, 1, 2, 3, 4] rfl
                  clear hh_424
                  have hh_427 := hh_426.addI (jLs.ie hd_425)
                  clear hh_426
                  obtain ⟨hr_402, hr_402n, hr_402p⟩ := hr_402
                  try simp only at hr_402p
                  obtain ⟨ret_428, rfl, hg_ret_428⟩ := hr_402
                  have hsy_401 : s.heap.size ≤ ret_428 := Nat.le_trans hh_386.1.1 hr_402n.le
                  refine lv_astore (lv' := [(4, .ref ret_428), (0, .ref r0), (1, .int a1), (2, .ref spare_13), (3, .int v3_386)]) hx hb dX11_batch_124 hl (by decide) rfl (fun ls hl => ?_)
                  refine lv_aload_n hx hb dX11_batch_126 rfl (lv_at hl 3 rfl) ?_
                  obtain ⟨v_429, hv_429, hh_430⟩ := hh_427.pin (C := RX1) (T := TX1) (N := 17) hB3 rfl (by decide) hg_404 (i := 9) (by decide) rfl
                  clear hh_427
                  obtain ⟨behind_431, rfl, hg_behind_431⟩ := hv_429
                  refine j7_read hx hb hown hK (C := RX1) (T := TX1) (N := 17) rfl hly_3_9 hlk_178 (hh_430.at 0 rfl) dX11_batch_127 ?_
                  refine lv_iload_n hx hb dX11_batch_130 rfl (lv_at hl 4 rfl) ?_
                  refine lv_aload_n hx hb dX11_batch_131 rfl (lv_at hl 1 rfl) ?_
                  refine j7_read hx hb hown hK (C := RX11) (T := TX11) (N := 19) rfl hly_13_5 hlk_41 (hh_430.at 2 rfl) dX11_batch_132 ?_
                  refine lv_aload_n hx hb dX11_batch_135 rfl (lv_at hl 3 rfl) ?_
                  refine lv_iload_n hx hb dX11_batch_136 rfl (lv_at hl 4 rfl) ?_
                  refine lv_aload_n hx hb dX11_batch_137 rfl (lv_at hl 1 rfl) ?_
                  refine j7_read hx hb hown hK (C := RX11) (T := TX11) (N := 19) rfl hly_13_5 hlk_41 (hh_430.at 2 rfl) dX11_batch_138 ?_
                  obtain ⟨v_432, hv_432, hh_433⟩ := hh_430.pin (C := RX5) (T := TX5) (N := 11) hB7 rfl (by decide) hg_405 (i := 2) (by decide) rfl
                  clear hh_430
                  obtain ⟨start_434, rfl, hg_start_434⟩ := hv_432
                  refine j7_read hx hb hown hK (C := RX5) (T := TX5) (N := 11) rfl hly_7_2 hlk_217 (hh_433.at 0 rfl) dX11_batch_141 ?_
                  have hsz_435 := hh_433.2.2.2.2.2.1
                  have htt_435 := hh_433.2.2.2.2.2.2.1
                  refine W.room (fun hrc_435 hrs_435 => ?_)
                  refine j_callx (A0 := jA base) (H0 := s.heap) (va_runV (As := [.int v3_386, .ref start_434]) (rest := [.ref kernel_377, .int v3_386, .ref behind_431]) ⟨hx, hb, hml, hown, hts⟩ (uX1_stateBehind l dC dI ca base B hB hAp hB3 hB11 hB210 G_401 H_401 spare_13 v3_386 start_434 1) (cwV 2 hts (jgV (jWr_30 _ (List.mem_of_getElem? (i := 9) rfl)) (jWr_30 _ (List.mem_of_getElem? (i := 10) rfl)) (jWr_30 _ (List.mem_of_getElem? (i := 11) rfl)) (jWr_2 _ (List.mem_of_getElem? (i := 21) rfl)) (jWr_30 _ (List.mem_of_getElem? (i := 12) rfl))) rfl rfl rfl (by decide +kernel) ⟨by rw [← hR]; exact Nat.le_of_ble_eq_true rfl, by rw [← hR]; exact Nat.le_of_ble_eq_true rfl⟩) ⟨fun a U g mk q => by obtain ⟨q0, q1, q2, qK, q10, q11, q12, q13, q14⟩ := q; exact ⟨q0, q1, q2, jG.calling g mk a qK, (va_K.moved (Vm.Alike.refl U.vm) q10), q11, q12, q13, q14⟩, hh_433.recv (C := RX1) (T := TX1) (N := 17) hB3 rfl (by decide) hg_404 hK, fun U hU hW => ⟨rfl, hU, hh_433.2.1, hG.step hW hU hh_433.1, va_K.moved hW.alike hK2, hg_404, hg_start_434, jP.nil, trivial⟩⟩ rfl rfl hl.1 rfl (lv_room (Nat.le_of_ble_eq_true rfl)) dX11_batch_144 ⟨by rw [hRc]; show _ + 0 ≤ _; omega, by rw [hRs]; show _ + 0 ≤ _; omega⟩) hh_433.1 (fun q _ h => h) (fun q h => h) (fun r_436 u_435 t_435 H_435 locs_435 ht_435 hvm_435 hr_436 hb_435 hz_435 hk_435 hS_435 => ?_)
                  rw [ht_435] at hb_435
                  obtain ⟨hb_4351, hb_4352, hb_4353, hb_4354, hb_4355⟩ := hb_435
                  have hh_435 : jSt (dC, dI) B base G0 G_401 EX11_batchU s.heap (zcx_386 + (1)) (zsx_386 + (m_ret_401)) [(kernel_377, 7, 2, .ref start_434), (spare_13, 3, 9, .ref behind_431), (spare_13, 3, 4, .int qs_381), (r0, 13, 5, .ref kernel_377), (spare_13, 3, 10, .int pk_267), (spare_13, 3, 5, .ref yb_267), (spare_13, 3, 6, .ref ye_267), (r0, 13, 18, .int (-2)), (r0, 13, 16, .ref spare_13), (spare_13, 3, 3, .int ql_18), (spare_13, 3, 2, .ref ut_14), (spare_13, 3, 1, .int (tq.ve spare_13)), (spare_13, 3, 0, .ref uz_14), (ta, 2, 1, .int 0), (r0, 13, 0, .ref ta), (ta, 2, 0, .ref tr_), (r0, 13, 7, .ref op)] [(yb_267, 171, 40, ca 1, gb_381), (ye_267, 172, 40, ca 1, ge_381), (ut_14, 173, 1500, ca 1, gt_18), (uz_14, 174, (tq.ul spare_13), ca 1, (tq.ux spare_13)), (tr_, 197, 4000, ca 0, fa)] [(jFl, jLs dC dI ca G_401 3 none wl), (jFs11, jSef dC dI G_401), (jFy, jYb dC dI G_401), (jFcd, jCD dC dI ca G_401 none t_21), (jFdo, jDcc dC dI ca G_401 none phn_383), ([(2, 0), (2, 1)], jOl (dC, dI) G0 2 [ta] s.heap)] H_435 locs_435 := ((hh_433.call hb_4351 hb_4352 hb_4353 hb_4354 hS_435 rfl (L1 := [(kernel_377, 7, 2, .ref start_434), (spare_13, 3, 9, .ref behind_431), (spare_13, 3, 4, .int qs_381), (r0, 13, 5, .ref kernel_377), (spare_13, 3, 10, .int pk_267), (spare_13, 3, 5, .ref yb_267), (spare_13, 3, 6, .ref ye_267), (r0, 13, 18, .int (-2)), (r0, 13, 16, .ref spare_13), (spare_13, 3, 3, .int ql_18), (spare_13, 3, 2, .ref ut_14), (spare_13, 3, 1, .int (tq.ve spare_13)), (spare_13, 3, 0, .ref uz_14), (ta, 2, 1, .int 0), (r0, 13, 0, .ref ta), (ta, 2, 0, .ref tr_), (r0, 13, 7, .ref op)]) [0, 1, 2, 3, 4, 5, 6, 7, 8, 9, 10, 11, 12, 13, 14, 15, 16] rfl rfl (M1 := [(yb_267, 171, 40, ca 1, gb_381), (ye_267, 172, 40, ca 1, ge_381), (ut_14, 173, 1500, ca 1, gt_18), (uz_14, 174, (tq.ul spare_13), ca 1, (tq.ux spare_13)), (tr_, 197, 4000, ca 0, fa)]) [0, 1, 2, 3, 4] rfl rfl (I1 := [(jFl, jLs dC dI ca G_401 3 none wl), (jFs11, jSef dC dI G_401), (jFy, jYb dC dI G_401), (jFcd, jCD dC dI ca G_401 none t_21), (jFdo, jDcc dC dI ca G_401 none phn_383), ([(2, 0), (2, 1)], jOl (dC, dI) G0 2 [ta] s.heap)]) [0, 1, 2, 3, 4, 5] rfl rfl).more hb_4355)
                  clear hh_433 ht_435 hvm_435 hz_435 hk_435 hS_435 hb_4351 hb_4352 hb_4353 hb_4354 hb_4355
                  obtain ⟨ret_437, rfl, hg_ret_437⟩ := hr_436
                  refine lv_aload hx hb dX11_batch_147 (lv_at hl 0 rfl) ?_
                  refine lv_aload_n hx hb dX11_batch_149 rfl (lv_at hl 3 rfl) ?_
                  obtain ⟨v_438, hv_438, hh_439⟩ := hh_435.pin (C := RX1) (T := TX1) (N := 17) hB3 rfl (by decide) hg_404 (i := 8) (by decide) rfl
                  clear hh_435
                  obtain ⟨early_440, rfl, hg_early_440⟩ := hv_438
                  refine j7_read hx hb hown hK (C := RX1) (T := TX1) (N := 17) rfl hly_3_8 hlk_225 (hh_439.at 0 rfl) dX11_batch_150 ?_
                  refine lv_iload_n hx hb dX11_batch_153 rfl (lv_at hl 4 rfl) ?_
                  refine j7_iald hx hb hK hh_439 hB101 1 rfl (by decide) hg_early_440 (x := v3_386.toInt) (rfl) (by omega) dX11_batch_154 (fun z_441 (hz_441 : True) => ?_)
                  have hsz_442 := hh_439.2.2.2.2.2.1
                  have htt_442 := hh_439.2.2.2.2.2.2.1
                  refine W.room (fun hrc_442 hrs_442 => ?_)
                  refine j_callx (A0 := jA base) (H0 := s.heap) (va_runV (As := [.ref ret_437, .ref ret_428, .int z_441]) (rest := [.int v3_386, .ref behind_431]) ⟨hx, hb, hml, hown, hts⟩ (uX5_checkS l dC dI ca base B hB hAp hB5 hB7 hB8 hB11 hB12 hB101 hB102 hB132 hB133 hB211 hB214 hB280 hB290 hB291 hB292 hB293 hB313 hB315 G_401 H_435 kernel_377 ret_437 ret_428 z_441 m_ret_401 (min 1 (m_ret_401 / 3)) LC LS) (cwV 3 hts (jgV (jWr_78 _ (List.mem_of_getElem? (i := 14) rfl)) (jWr_78 _ (List.mem_of_getElem? (i := 15) rfl)) (jWr_78 _ (List.mem_of_getElem? (i := 16) rfl)) (jWr_2 _ (List.mem_of_getElem? (i := 4) rfl)) (jWr_78 _ (List.mem_of_getElem? (i := 17) rfl))) rfl rfl rfl (by decide +kernel) ⟨by rw [← hR]; exact Nat.le_of_ble_eq_true rfl, by rw [← hR]; exact Nat.le_of_ble_eq_true rfl⟩) ⟨fun a U g mk q => by obtain ⟨q0, q1, q2, qK, q10, q11, q12, q13, q14, q15, q16, q17, q18⟩ := q; exact ⟨q0, q1, q2, jG.calling g mk a qK, (va_K.moved (Vm.Alike.refl U.vm) q10), (jK5.moved (Vm.Alike.refl U.vm) q11), (jK6.moved (Vm.Alike.refl U.vm) q12), q13, q14, q15, q16, q17, q18⟩, hh_439.recv (C := RX5) (T := TX5) (N := 11) hB7 rfl (by decide) hg_405 hK, fun U hU hW => ⟨rfl, hU, hh_439.2.1, hG.step hW hU hh_439.1, va_K.moved hW.alike hK2, jK5.moved hW.alike hK5, jK6.moved hW.alike hK6, hg_405, hg_ret_437, hg_ret_428, jP.nil, (hh_439.2.2.2.2.2.2.2.2.sub (L1 := [(jFs11, jSef dC dI G_401)]) [1] rfl), ⟨(by first | (with_reducible assumption) | omega | rfl | fail), (by first | (with_reducible assumption) | assumption | omega | rfl | fail)⟩⟩⟩ rfl rfl hl.1 rfl (lv_room (Nat.le_of_ble_eq_true rfl)) dX11_batch_155 ⟨by rw [hRc]; omega, by rw [hRs]; omega⟩) hh_439.1 (fun q _ h => h) (fun q h => h) (fun r_443 u_442 t_442 H_442 locs_442 ht_442 hvm_442 hr_443 hb_442 hz_442 hk_442 hS_442 => ?_)
                  rw [ht_442] at hb_442
                  obtain ⟨G_442, rfl⟩ : ∃ z, z = u_442 := ⟨_, rfl⟩
                  try simp only at hb_442
                  obtain ⟨⟨hb_4421, hb_4422, hb_4423, hb_4424, hb_4425, hb_4426⟩, hN_442, hbE_442⟩ := hb_442
                  have hE9_442 := hN_442
                  have hN_442 : (jNk [0, 1, 2, 4, 6, 7, 8, 9, 10, 12, 13, 14, 15, 16]) G_401 G_442 := hN_442.sub (by decide)
                  have hh_442 : jSt (dC, dI) B base G0 G_442 EX11_batchU s.heap ((zcx_386 + (1)) + (23)) ((zsx_386 + (m_ret_401)) + ((183 + 336 * (min 1 (m_ret_401 / 3))))) [(spare_13, 3, 8, .ref early_440), (kernel_377, 7, 2, .ref start_434), (spare_13, 3, 9, .ref behind_431), (spare_13, 3, 4, .int qs_381), (r0, 13, 5, .ref kernel_377), (spare_13, 3, 10, .int pk_267), (spare_13, 3, 5, .ref yb_267), (spare_13, 3, 6, .ref ye_267), (r0, 13, 18, .int (-2)), (r0, 13, 16, .ref spare_13), (spare_13, 3, 3, .int ql_18), (spare_13, 3, 2, .ref ut_14), (spare_13, 3, 1, .int (tq.ve spare_13)), (spare_13, 3, 0, .ref uz_14), (ta, 2, 1, .int 0), (r0, 13, 0, .ref ta), (ta, 2, 0, .ref tr_), (r0, 13, 7, .ref op)] [(yb_267, 171, 40, ca 1, gb_381), (ye_267, 172, 40, ca 1, ge_381), (ut_14, 173, 1500, ca 1, gt_18), (uz_14, 174, (tq.ul spare_13), ca 1, (tq.ux spare_13)), (tr_, 197, 4000, ca 0, fa)] [(jFl, jLs dC dI ca G_401 3 none wl), (jFy, jYb dC dI G_401), (jFcd, jCD dC dI ca G_401 none t_21), (jFdo, jDcc dC dI ca G_401 none phn_383), ([(2, 0), (2, 1)], jOl (dC, dI) G0 2 [ta] s.heap)] H_442 locs_442 := (hh_439.callG hb_4421 hb_4422 hb_4423 hb_4424 hb_4425 hS_442 rfl (L1 := [(spare_13, 3, 8, .ref early_440), (kernel_377, 7, 2, .ref start_434), (spare_13, 3, 9, .ref behind_431), (spare_13, 3, 4, .int qs_381), (r0, 13, 5, .ref kernel_377), (spare_13, 3, 10, .int pk_267), (spare_13, 3, 5, .ref yb_267), (spare_13, 3, 6, .ref ye_267), (r0, 13, 18, .int (-2)), (r0, 13, 16, .ref spare_13), (spare_13, 3, 3, .int ql_18), (spare_13, 3, 2, .ref ut_14), (spare_13, 3, 1, .int (tq.ve spare_13)), (spare_13, 3, 0, .ref uz_14), (ta, 2, 1, .int 0), (r0, 13, 0, .ref ta), (ta, 2, 0, .ref tr_), (r0, 13, 7, .ref op)]) [0, 1, 2, 3, 4, 5, 6, 7, 8, 9, 10, 11, 12, 13, 14, 15, 16, 17] rfl rfl (M1 := [(yb_267, 171, 40, ca 1, gb_381), (ye_267, 172, 40, ca 1, ge_381), (ut_14, 173, 1500, ca 1, gt_18), (uz_14, 174, (tq.ul spare_13), ca 1, (tq.ux spare_13)), (tr_, 197, 4000, ca 0, fa)]) [0, 1, 2, 3, 4] rfl rfl (I1 := [(jFl, jLs dC dI ca G_401 3 none wl), (jFy, jYb dC dI G_401), (jFcd, jCD dC dI ca G_401 none t_21), (jFdo, jDcc dC dI ca G_401 none phn_383), ([(2, 0), (2, 1)], jOl (dC, dI) G0 2 [ta] s.heap)]) [0, 2, 3, 4, 5] rfl rfl).more hb_4426
                  have hNn_442 : (jNk [0, 1, 2, 4, 6, 7, 8, 9, 10, 12, 13, 14, 15, 16]) G0 G_442 := (hNn_401).tr hN_442
                  have hg_444 := hb_4422 _ _ hg_ret_428
                  have hg_445 := hb_4422 _ _ hg_403
                  have hg_446 := hb_4422 _ _ hg_404
                  have hg_447 := hb_4422 _ _ hg_behind_431
                  have hg_448 := hb_4422 _ _ hg_early_440
                  have hg_449 := hb_4422 _ _ hg_start_434
                  have hg_450 := hb_4422 _ _ hg_405
                  have hg_451 := hb_4422 _ _ hg_406
                  have hg_452 := hb_4422 _ _ hg_407
                  have hg_453 := hb_4422 _ _ hg_408
                  have hg_454 := hb_4422 _ _ hg_409
                  have hg_455 := hb_4422 _ _ hg_410
                  have hg_456 := hb_4422 _ _ hg_411
                  have hg_457 := hb_4422 _ _ hg_412
                  have hd_458 := jLs.grow (hh_442.iv 0 rfl) hb_4422 hN_442 (by decide)
                  have hh_459 := hh_442.sub (L1 := [(spare_13, 3, 8, .ref early_440), (kernel_377, 7, 2, .ref start_434), (spare_13, 3, 9, .ref behind_431), (spare_13, 3, 4, .int qs_381), (r0, 13, 5, .ref kernel_377), (spare_13, 3, 10, .int pk_267), (spare_13, 3, 5, .ref yb_267), (spare_13, 3, 6, .ref ye_267), (r0, 13, 18, .int (-2)), (r0, 13, 16, .ref spare_13), (spare_13, 3, 3, .int ql_18), (spare_13, 3, 2, .ref ut_14), (spare_13, 3, 1, .int (tq.ve spare_13)), (spare_13, 3, 0, .ref uz_14), (ta, 2, 1, .int 0), (r0, 13, 0, .ref ta), (ta, 2, 0, .ref tr_), (r0, 13, 7, .ref op)]) [0, 1, 2, 3, 4, 5, 6, 7, 8, 9, 10, 11, 12, 13, 14, 15, 16, 17] rfl (M1 := [(yb_267, 171, 40, ca 1, gb_381), (ye_267, 172, 40, ca 1, ge_381), (ut_14, 173, 1500, ca 1, gt_18), (uz_14, 174, (tq.ul spare_13), ca 1, (tq.ux spare_13)), (tr_, 197, 4000, ca 0, fa)]) [0, 1, 2, 3, 4] rfl (I1 := [(jFy, jYb dC dI G_401), (jFcd, jCD dC dI ca G_401 none t_21), (jFdo, jDcc dC dI ca G_401 none phn_383), ([(2, 0), (2, 1)], jOl (dC, dI) G0 2 [ta] s.heap)]) [1, 2, 3, 4] rfl
                  clear hh_442
                  have hh_460 := hh_459.addI (jLs.ie hd_458)
                  clear hh_459
                  have hd_461 := jYb.grow (hh_460.iv 1 rfl) hb_4422 hN_442 (by decide)
                  have hh_462 := hh_460.sub (L1 := [(spare_13, 3, 8, .ref early_440), (kernel_377, 7, 2, .ref start_434), (spare_13, 3, 9, .ref behind_431), (spare_13, 3, 4, .int qs_381), (r0, 13, 5, .ref kernel_377), (spare_13, 3, 10, .int pk_267), (spare_13, 3, 5, .ref yb_267), (spare_13, 3, 6, .ref ye_267), (r0, 13, 18, .int (-2)), (r0, 13, 16, .ref spare_13), (spare_13, 3, 3, .int ql_18), (spare_13, 3, 2, .ref ut_14), (spare_13, 3, 1, .int (tq.ve spare_13)), (spare_13, 3, 0, .ref uz_14), (ta, 2, 1, .int 0), (r0, 13, 0, .ref ta), (ta, 2, 0, .ref tr_), (r0, 13, 7, .ref op)]) [0, 1, 2, 3, 4, 5, 6, 7, 8, 9, 10, 11, 12, 13, 14, 15, 16, 17] rfl (M1 := [(yb_267, 171, 40, ca 1, gb_381), (ye_267, 172, 40, ca 1, ge_381), (ut_14, 173, 1500, ca 1, gt_18), (uz_14, 174, (tq.ul spare_13), ca 1, (tq.ux spare_13)), (tr_, 197, 4000, ca 0, fa)]) [0, 1, 2, 3, 4] rfl (I1 := [(jFl, jLs dC dI ca G_442 3 none wl), (jFcd, jCD dC dI ca G_401 none t_21), (jFdo, jDcc dC dI ca G_401 none phn_383), ([(2, 0), (2, 1)], jOl (dC, dI) G0 2 [ta] s.heap)]) [0, 2, 3, 4] rfl
                  clear hh_460
                  have hh_463 := hh_462.addI (jYb.ie hd_461)
                  clear hh_462
                  have hd_464 := jCD.grow (hh_463.iv 2 rfl) hb_4422 hE9_442 (by decide)
                  have hh_465 := hh_463.sub (L1 := [(spare_13, 3, 8, .ref early_440), (kernel_377, 7, 2, .ref start_434), (spare_13, 3, 9, .ref behind_431), (spare_13, 3, 4, .int qs_381), (r0, 13, 5, .ref kernel_377), (spare_13, 3, 10, .int pk_267), (spare_13, 3, 5, .ref yb_267), (spare_13, 3, 6, .ref ye_267), (r0, 13, 18, .int (-2)), (r0, 13, 16, .ref spare_13), (spare_13, 3, 3, .int ql_18), (spare_13, 3, 2, .ref ut_14), (spare_13, 3, 1, .int (tq.ve spare_13)), (spare_13, 3, 0, .ref uz_14), (ta, 2, 1, .int 0), (r0, 13, 0, .ref ta), (ta, 2, 0, .ref tr_), (r0, 13, 7, .ref op)]) [0, 1, 2, 3, 4, 5, 6, 7, 8, 9, 10, 11, 12, 13, 14, 15, 16, 17] rfl (M1 := [(yb_267, 171, 40, ca 1, gb_381), (ye_267, 172, 40, ca 1, ge_381), (ut_14, 173, 1500, ca 1, gt_18), (uz_14, 174, (tq.ul spare_13), ca 1, (tq.ux spare_13)), (tr_, 197, 4000, ca 0, fa)]) [0, 1, 2, 3, 4] rfl (I1 := [(jFy, jYb dC dI G_442), (jFl, jLs dC dI ca G_442 3 none wl), (jFdo, jDcc dC dI ca G_401 none phn_383), ([(2, 0), (2, 1)], jOl (dC, dI) G0 2 [ta] s.heap)]) [0, 1, 3, 4] rfl
                  clear hh_463
                  have hh_466 := hh_465.addI (jCD.ie hd_464)
                  clear hh_465
                  have hd_467 := jDcc.grow (hh_466.iv 3 rfl) hb_4422 hE9_442 (by decide)
                  have hh_468 := hh_466.sub (L1 := [(spare_13, 3, 8, .ref early_440), (kernel_377, 7, 2, .ref start_434), (spare_13, 3, 9, .ref behind_431), (spare_13, 3, 4, .int qs_381), (r0, 13, 5, .ref kernel_377), (spare_13, 3, 10, .int pk_267), (spare_13, 3, 5, .ref yb_267), (spare_13, 3, 6, .ref ye_267), (r0, 13, 18, .int (-2)), (r0, 13, 16, .ref spare_13), (spare_13, 3, 3, .int ql_18), (spare_13, 3, 2, .ref ut_14), (spare_13, 3, 1, .int (tq.ve spare_13)), (spare_13, 3, 0, .ref uz_14), (ta, 2, 1, .int 0), (r0, 13, 0, .ref ta), (ta, 2, 0, .ref tr_), (r0, 13, 7, .ref op)]) [0, 1, 2, 3, 4, 5, 6, 7, 8, 9, 10, 11, 12, 13, 14, 15, 16, 17] rfl (M1 := [(yb_267, 171, 40, ca 1, gb_381), (ye_267, 172, 40, ca 1, ge_381), (ut_14, 173, 1500, ca 1, gt_18), (uz_14, 174, (tq.ul spare_13), ca 1, (tq.ux spare_13)), (tr_, 197, 4000, ca 0, fa)]) [0, 1, 2, 3, 4] rfl (I1 := [(jFcd, jCD dC dI ca G_442 none t_21), (jFy, jYb dC dI G_442), (jFl, jLs dC dI ca G_442 3 none wl), ([(2, 0), (2, 1)], jOl (dC, dI) G0 2 [ta] s.heap)]) [0, 1, 2, 4] rfl
                  clear hh_466
                  have hh_469 := hh_468.addI (jDcc.ie hd_467)
                  clear hh_468
                  have hh_470 := hh_469.addIs hbE_442
                  obtain ⟨hr_443, hr_443p⟩ := hr_443
                  try simp only at hr_443p
                  obtain ⟨ret_471, rfl, hg_ret_471⟩ := hr_443
                  refine j7_qast hx hb hK2 hh_470 hB hB210 2 rfl (by decide) (by decide) rfl rfl rfl hg_447 (x := v3_386.toInt) (rfl) (by omega) hB11 (T := TX9) (N := 9) rfl (by decide) hg_ret_471 (Or.inr ⟨_, rfl, hg_ret_471⟩) dX11_batch_158 (fun H_472 locs_472 hh_472 => ?_)
                  clear hh_470
                  obtain ⟨z_473, ez_473⟩ : ∃ y : Int32, y = v3_386 + 1 := ⟨_, rfl⟩
                  refine lv_iinc (v := z_473) (lv' := [(3, .int z_473), (4, .ref ret_428), (0, .ref r0), (1, .int a1), (2, .ref spare_13)]) hx hb dX11_batch_159 hl (k := 4) rfl (by rw [ez_473]; rfl) (by decide) rfl (fun ls hl => ?_)
                  have hz_473 : z_473.toInt = v3_386.toInt + 1 := by rw [ez_473]; exact jb_iadd2 (rfl) (by decide) (by omega)
                  have hje := jEd.to hnb.2.2.1 (k1 := z_473.toInt) (by omega)
                  refine lv_goto (tgt := 97) hx hb dX11_batch_162 (by decide) ?_
                  refine W.tight (c2 := ((zcx_386 + (1)) + (23))) (n2 := ((zsx_386 + (m_ret_401)) + ((183 + 336 * (min 1 (m_ret_401 / 3)))))) hh_472.2.2.2.2.2.1 hh_472.2.2.2.2.2.2.1 ?_
                  exact L97 G_442 ((zcx_386 + (1)) + (23)) ((zsx_386 + (m_ret_401)) + ((183 + 336 * (min 1 (m_ret_401 / 3))))) z_473 _ _ (hh_472.sub (L1 := [(spare_13, 3, 4, .int qs_381), (r0, 13, 5, .ref kernel_377), (spare_13, 3, 10, .int pk_267), (spare_13, 3, 5, .ref yb_267), (spare_13, 3, 6, .ref ye_267), (r0, 13, 18, .int (-2)), (r0, 13, 16, .ref spare_13), (spare_13, 3, 3, .int ql_18), (spare_13, 3, 2, .ref ut_14), (spare_13, 3, 1, .int (tq.ve spare_13)), (spare_13, 3, 0, .ref uz_14), (ta, 2, 1, .int 0), (r0, 13, 0, .ref ta), (ta, 2, 0, .ref tr_), (r0, 13, 7, .ref op)]) [3, 4, 5, 6, 7, 8, 9, 10, 11, 12, 13, 14, 15, 16, 17] rfl (M1 := [(yb_267, 171, 40, ca 1, gb_381), (ye_267, 172, 40, ca 1, ge_381), (ut_14, 173, 1500, ca 1, gt_18), (uz_14, 174, (tq.ul spare_13), ca 1, (tq.ux spare_13)), (tr_, 197, 4000, ca 0, fa)]) [0, 1, 2, 3, 4] rfl (I1 := [(jFdo, jDcc dC dI ca G_442 none phn_383), (jFcd, jCD dC dI ca G_442 none t_21), ([(2, 0), (2, 1)], jOl (dC, dI) G0 2 [ta] s.heap), (jFy, jYb dC dI G_442), (jFs11, jSef dC dI G_442), (jFl, jLs dC dI ca G_442 3 none wl)]) [1, 2, 5, 3, 0, 4] rfl) (hNn_442) (((hle_386).tr hb_4012).tr hb_4422) (⟨(by first | (with_reducible assumption) | omega | rfl | fail), (by first | (with_reducible assumption) | omega | rfl | fail), (by first | (with_reducible assumption) | omega | rfl | fail), (by first | (with_reducible assumption) | omega | rfl | fail)⟩) (by omega) _ (lv_sub hl [2, 3, 4, 0] rfl)
            refine W.tight (c2 := 0) (n2 := 0) hh_385.2.2.2.2.2.1 hh_385.2.2.2.2.2.2.1 ?_
            exact L97 (qs_381.toInt - (0 : Int32).toInt : Int).toNat.succ G0 0 0 0 _ _ (hh_385.sub (L1 := [(spare_13, 3, 4, .int qs_381), (r0, 13, 5, .ref kernel_377), (spare_13, 3, 10, .int pk_267), (spare_13, 3, 5, .ref yb_267), (spare_13, 3, 6, .ref ye_267), (r0, 13, 18, .int (-2)), (r0, 13, 16, .ref spare_13), (spare_13, 3, 3, .int ql_18), (spare_13, 3, 2, .ref ut_14), (spare_13, 3, 1, .int (tq.ve spare_13)), (spare_13, 3, 0, .ref uz_14), (ta, 2, 1, .int 0), (r0, 13, 0, .ref ta), (ta, 2, 0, .ref tr_), (r0, 13, 7, .ref op)]) [0, 2, 4, 5, 6, 7, 8, 10, 11, 12, 13, 14, 15, 16, 17] rfl (M1 := [(yb_267, 171, 40, ca 1, gb_381), (ye_267, 172, 40, ca 1, ge_381), (ut_14, 173, 1500, ca 1, gt_18), (uz_14, 174, (tq.ul spare_13), ca 1, (tq.ux spare_13)), (tr_, 197, 4000, ca 0, fa)]) [0, 1, 2, 3, 4] rfl (I1 := [(jFdo, jDcc dC dI ca G0 none phn_383), (jFcd, jCD dC dI ca G0 none t_21), ([(2, 0), (2, 1)], jOl (dC, dI) G0 2 [ta] s.heap), (jFy, jYb dC dI G0), (jFs11, jSef dC dI G0), (jFl, jLs dC dI ca G0 3 none wl)]) [0, 1, 2, 3, 4, 5] rfl) (jNk.rf) (jLe.rf) (⟨(by first | (with_reducible assumption) | omega | rfl | fail), (by first | (with_reducible assumption) | omega | rfl | fail), (by first | (with_reducible assumption) | omega | rfl | fail), (by first | (with_reducible assumption) | omega | rfl | fail)⟩) (by omega) _ (lv_sub hl [2, 3, 1, 0] rfl)
      · skip
        have c_20' : r_19.toInt = 0 := jb_ne_n (rfl) ((by decide)) c_20
        have hF_474 := jCD.full (hh_18.iv 0 rfl) hg_spare_13 (hh_18.at 1 rfl) (hh_18.at 2 rfl) (hh_18.at 0 rfl) (hh_18.at 3 rfl) (hh_18.2.2.2.2.2.2.2.1.sub (L1 := [(ut_14, 173, 1500, ca 1, gt_18), (uz_14, 174, (tq.ul spare_13), ca 1, (tq.ux spare_13))]) [0, 1] rfl) (by omega)
        obtain ⟨t_474, ht_475⟩ : ∃ q : jDtl, q = tq.put spare_13 (tq.ve spare_13) ql_18 gt_18 (tq.ul spare_13) (tq.ux spare_13) := ⟨_, rfl⟩
        rw [← ht_475] at hF_474
        have hh_476 := hh_18.sub (L1 := [(spare_13, 3, 3, .int ql_18), (spare_13, 3, 2, .ref ut_14), (spare_13, 3, 1, .int (tq.ve spare_13)), (spare_13, 3, 0, .ref uz_14), (r0, 13, 15, .ref spare_13), (ta, 2, 1, .int 0), (r0, 13, 0, .ref ta), (ta, 2, 0, .ref tr_), (r0, 13, 7, .ref op)]) [0, 1, 2, 3, 4, 5, 6, 7, 8] rfl (M1 := [(ut_14, 173, 1500, ca 1, gt_18), (uz_14, 174, (tq.ul spare_13), ca 1, (tq.ux spare_13)), (tr_, 197, 4000, ca 0, fa)]) [0, 1, 2] rfl (I1 := [([(2, 0), (2, 1)], jOl (dC, dI) G0 2 [ta] s.heap), (jFy, jYb dC dI G0), (jFs11, jSef dC dI G0), (jFl, jLs dC dI ca G0 3 none wl), (jFdo, jDcc dC dI ca G0 none ph)]) [1, 2, 3, 4, 5] rfl
        clear hh_18
        have hh_477 := hh_476.addI (jCD.ie hF_474)
        clear hh_476
        obtain ⟨hfi9, hfs9⟩ : jdIv t_474 wl ∧ jdCs t_474 wl = jdCs tq wl := ⟨(by rw [ht_475]; exact hpIV.put (by omega) (by omega)), (by rw [ht_475]; exact jdCs.put hnsp9)⟩
        refine lv_bipush (v := (-2)) hx hb dX11_batch_45 (by decide) ?_
        have hsz_478 := hh_477.2.2.2.2.2.1
        have htt_478 := hh_477.2.2.2.2.2.2.1
        refine W.room (fun hrc_478 hrs_478 => ?_)
        refine W.widen (k := LC - s.heap.size) (n := LS - jTot s.heap) (by omega) (by omega) ?_
        rw [hQ]
        exact W.iret (v := (-2)) hx hb hr (fun t ht hW => ⟨⟨(-2), (0, ph, (pt.toInt.toNat - (0 : Int).toNat), t_474, G0), rfl, by skip; (try dsimp only); refine ⟨by omega, by omega, by omega, ?_, hfi9, hfs9⟩; exact Or.inr ⟨by omega, by omega, jBa.long (hr_19p_3.no (by omega)) (by omega)⟩, ⟨hh_477.ra (by first | (simp only; omega) | omega) (by first | (simp only; omega) | omega) (M1 := [(ta, 2, 1, .int 0)]) [5] rfl ht, jNk.rf, by rw [ht]; exact hh_477.iv 1 rfl, by rw [ht]; exact hh_477.2.2.2.2.2.2.2.2.sub (L1 := [(jFy, jYb dC dI G0), (jFs11, jSef dC dI G0), (jFl, jLs dC dI ca G0 3 none wl), (jFdo, jDcc dC dI ca G0 none ph), (jFcd, jCD dC dI ca G0 none t_474)]) [2, 3, 4, 5, 0] rfl⟩⟩, by rw [ht]; try exact hh_477.1.1, fun q h9 hq => by rw [ht]; try exact hh_477.1.2.1 q h9 hq⟩) hh_477.1.2.2 dX11_batch_47
    · skip
      have c_4' : a1.toInt > pt.toInt := jb_le_n (rfl) (rfl) c_4
      obtain ⟨hfi9, hfs9⟩ : jdIv tq wl ∧ jdCs tq wl = jdCs tq wl := ⟨hpIV, rfl⟩
      refine lv_iconst (v := (-1)) hx hb dX11_batch_15 (by decide) ?_
      have hsz_479 := hh_1.2.2.2.2.2.1
      have htt_479 := hh_1.2.2.2.2.2.2.1
      refine W.room (fun hrc_479 hrs_479 => ?_)
      refine W.widen (k := LC - s.heap.size) (n := LS - jTot s.heap) (by omega) (by omega) ?_
      rw [hQ]
      exact W.iret (v := (-1)) hx hb hr (fun t ht hW => ⟨⟨(-1), (pt, ph, (pt.toInt.toNat - (pt.toInt : Int).toNat), tq, G0), rfl, by skip; (try dsimp only); refine ⟨by omega, by omega, by omega, ?_, hfi9, hfs9⟩; exact Or.inl ⟨by omega, by omega⟩, ⟨hh_1.ra (by first | (simp only; omega) | omega) (by first | (simp only; omega) | omega) (M1 := [(ta, 2, 1, .int pt)]) [1] rfl ht, jNk.rf, by rw [ht]; exact hh_1.iv 0 rfl, by rw [ht]; exact hh_1.2.2.2.2.2.2.2.2.sub (L1 := [(jFy, jYb dC dI G0), (jFs11, jSef dC dI G0), (jFl, jLs dC dI ca G0 3 none wl), (jFdo, jDcc dC dI ca G0 none ph), (jFcd, jCD dC dI ca G0 none tq)]) [1, 2, 3, 4, 5] rfl⟩⟩, by rw [ht]; try exact hh_1.1.1, fun q h9 hq => by rw [ht]; try exact hh_1.1.2.1 q h9 hq⟩) hh_1.1.2.2 dX11_batch_16
end
