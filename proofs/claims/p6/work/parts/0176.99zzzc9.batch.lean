section
theorem dX11_batch_0 : decode cX11_batch 0 = .ok (.iload_n 1, 1) := by decide +kernel
theorem dX11_batch_1 : decode cX11_batch 1 = .ok (.ifCond .lt 14, 3) := by decide +kernel
theorem dX11_batch_4 : decode cX11_batch 4 = .ok (.iload_n 1, 1) := by decide +kernel
theorem dX11_batch_5 : decode cX11_batch 5 = .ok (.aload_n 0, 1) := by decide +kernel
theorem dX11_batch_6 : decode cX11_batch 6 = .ok (.getfield 14, 3) := by decide +kernel
theorem dX11_batch_9 : decode cX11_batch 9 = .ok (.getfield 92, 3) := by decide +kernel
theorem dX11_batch_12 : decode cX11_batch 12 = .ok (.if_icmp .le 5, 3) := by decide +kernel
theorem dX11_batch_15 : decode cX11_batch 15 = .ok (.iconst (-1), 1) := by decide +kernel
theorem dX11_batch_16 : decode cX11_batch 16 = .ok (.ireturn, 1) := by decide +kernel
theorem dX11_batch_17 : decode cX11_batch 17 = .ok (.aload_n 0, 1) := by decide +kernel
theorem dX11_batch_18 : decode cX11_batch 18 = .ok (.getfield 14, 3) := by decide +kernel
theorem dX11_batch_21 : decode cX11_batch 21 = .ok (.iconst 0, 1) := by decide +kernel
theorem dX11_batch_22 : decode cX11_batch 22 = .ok (.putfield 92, 3) := by decide +kernel
theorem dX11_batch_25 : decode cX11_batch 25 = .ok (.aload_n 0, 1) := by decide +kernel
theorem dX11_batch_26 : decode cX11_batch 26 = .ok (.getfield 82, 3) := by decide +kernel
theorem dX11_batch_29 : decode cX11_batch 29 = .ok (.astore_n 2, 1) := by decide +kernel
theorem dX11_batch_30 : decode cX11_batch 30 = .ok (.aload_n 2, 1) := by decide +kernel
theorem dX11_batch_31 : decode cX11_batch 31 = .ok (.aload_n 0, 1) := by decide +kernel
theorem dX11_batch_32 : decode cX11_batch 32 = .ok (.getfield 14, 3) := by decide +kernel
theorem dX11_batch_35 : decode cX11_batch 35 = .ok (.getfield 98, 3) := by decide +kernel
theorem dX11_batch_38 : decode cX11_batch 38 = .ok (.iload_n 1, 1) := by decide +kernel
theorem dX11_batch_39 : decode cX11_batch 39 = .ok (.invokevirtual 196, 3) := by decide +kernel
theorem dX11_batch_42 : decode cX11_batch 42 = .ok (.ifCond .ne 6, 3) := by decide +kernel
theorem dX11_batch_45 : decode cX11_batch 45 = .ok (.bipush (-2), 2) := by decide +kernel
theorem dX11_batch_47 : decode cX11_batch 47 = .ok (.ireturn, 1) := by decide +kernel
theorem dX11_batch_48 : decode cX11_batch 48 = .ok (.aload_n 0, 1) := by decide +kernel
theorem dX11_batch_49 : decode cX11_batch 49 = .ok (.aload_n 0, 1) := by decide +kernel
theorem dX11_batch_50 : decode cX11_batch 50 = .ok (.getfield 200, 3) := by decide +kernel
theorem dX11_batch_53 : decode cX11_batch 53 = .ok (.ifnonnull 13, 3) := by decide +kernel
theorem dX11_batch_56 : decode cX11_batch 56 = .ok (.new 71, 3) := by decide +kernel
theorem dX11_batch_59 : decode cX11_batch 59 = .ok (.dup, 1) := by decide +kernel
theorem dX11_batch_60 : decode cX11_batch 60 = .ok (.invokespecial 81, 3) := by decide +kernel
theorem dX11_batch_63 : decode cX11_batch 63 = .ok (.goto 7, 3) := by decide +kernel
theorem dX11_batch_66 : decode cX11_batch 66 = .ok (.aload_n 0, 1) := by decide +kernel
theorem dX11_batch_67 : decode cX11_batch 67 = .ok (.getfield 200, 3) := by decide +kernel
theorem dX11_batch_70 : decode cX11_batch 70 = .ok (.putfield 82, 3) := by decide +kernel
theorem dX11_batch_73 : decode cX11_batch 73 = .ok (.aload_n 0, 1) := by decide +kernel
theorem dX11_batch_74 : decode cX11_batch 74 = .ok (.aload_n 2, 1) := by decide +kernel
theorem dX11_batch_75 : decode cX11_batch 75 = .ok (.putfield 200, 3) := by decide +kernel
theorem dX11_batch_78 : decode cX11_batch 78 = .ok (.aload_n 0, 1) := by decide +kernel
theorem dX11_batch_79 : decode cX11_batch 79 = .ok (.bipush (-2), 2) := by decide +kernel
theorem dX11_batch_81 : decode cX11_batch 81 = .ok (.putfield 89, 3) := by decide +kernel
theorem dX11_batch_84 : decode cX11_batch 84 = .ok (.aload_n 2, 1) := by decide +kernel
theorem dX11_batch_85 : decode cX11_batch 85 = .ok (.aload_n 0, 1) := by decide +kernel
theorem dX11_batch_86 : decode cX11_batch 86 = .ok (.getfield 41, 3) := by decide +kernel
theorem dX11_batch_89 : decode cX11_batch 89 = .ok (.getfield 203, 3) := by decide +kernel
theorem dX11_batch_92 : decode cX11_batch 92 = .ok (.invokevirtual 207, 3) := by decide +kernel
theorem dX11_batch_95 : decode cX11_batch 95 = .ok (.iconst 0, 1) := by decide +kernel
theorem dX11_batch_96 : decode cX11_batch 96 = .ok (.istore_n 3, 1) := by decide +kernel
theorem dX11_batch_97 : decode cX11_batch 97 = .ok (.iload_n 3, 1) := by decide +kernel
theorem dX11_batch_98 : decode cX11_batch 98 = .ok (.aload_n 2, 1) := by decide +kernel
theorem dX11_batch_99 : decode cX11_batch 99 = .ok (.getfield 168, 3) := by decide +kernel
theorem dX11_batch_102 : decode cX11_batch 102 = .ok (.if_icmp .ge 63, 3) := by decide +kernel
theorem dX11_batch_105 : decode cX11_batch 105 = .ok (.aload_n 2, 1) := by decide +kernel
theorem dX11_batch_106 : decode cX11_batch 106 = .ok (.getfield 174, 3) := by decide +kernel
theorem dX11_batch_109 : decode cX11_batch 109 = .ok (.aload_n 2, 1) := by decide +kernel
theorem dX11_batch_110 : decode cX11_batch 110 = .ok (.getfield 182, 3) := by decide +kernel
theorem dX11_batch_113 : decode cX11_batch 113 = .ok (.iload_n 3, 1) := by decide +kernel
theorem dX11_batch_114 : decode cX11_batch 114 = .ok (.iaload, 1) := by decide +kernel
theorem dX11_batch_115 : decode cX11_batch 115 = .ok (.aload_n 2, 1) := by decide +kernel
theorem dX11_batch_116 : decode cX11_batch 116 = .ok (.getfield 185, 3) := by decide +kernel
theorem dX11_batch_119 : decode cX11_batch 119 = .ok (.iload_n 3, 1) := by decide +kernel
theorem dX11_batch_120 : decode cX11_batch 120 = .ok (.iaload, 1) := by decide +kernel
theorem dX11_batch_121 : decode cX11_batch 121 = .ok (.invokestatic 211, 3) := by decide +kernel
theorem dX11_batch_124 : decode cX11_batch 124 = .ok (.astore 4, 2) := by decide +kernel
theorem dX11_batch_126 : decode cX11_batch 126 = .ok (.aload_n 2, 1) := by decide +kernel
theorem dX11_batch_127 : decode cX11_batch 127 = .ok (.getfield 178, 3) := by decide +kernel
theorem dX11_batch_130 : decode cX11_batch 130 = .ok (.iload_n 3, 1) := by decide +kernel
theorem dX11_batch_131 : decode cX11_batch 131 = .ok (.aload_n 0, 1) := by decide +kernel
theorem dX11_batch_132 : decode cX11_batch 132 = .ok (.getfield 41, 3) := by decide +kernel
theorem dX11_batch_135 : decode cX11_batch 135 = .ok (.aload_n 2, 1) := by decide +kernel
theorem dX11_batch_136 : decode cX11_batch 136 = .ok (.iload_n 3, 1) := by decide +kernel
theorem dX11_batch_137 : decode cX11_batch 137 = .ok (.aload_n 0, 1) := by decide +kernel
theorem dX11_batch_138 : decode cX11_batch 138 = .ok (.getfield 41, 3) := by decide +kernel
theorem dX11_batch_141 : decode cX11_batch 141 = .ok (.getfield 217, 3) := by decide +kernel
theorem dX11_batch_144 : decode cX11_batch 144 = .ok (.invokevirtual 221, 3) := by decide +kernel
theorem dX11_batch_147 : decode cX11_batch 147 = .ok (.aload 4, 2) := by decide +kernel
theorem dX11_batch_149 : decode cX11_batch 149 = .ok (.aload_n 2, 1) := by decide +kernel
theorem dX11_batch_150 : decode cX11_batch 150 = .ok (.getfield 225, 3) := by decide +kernel
theorem dX11_batch_153 : decode cX11_batch 153 = .ok (.iload_n 3, 1) := by decide +kernel
theorem dX11_batch_154 : decode cX11_batch 154 = .ok (.iaload, 1) := by decide +kernel
theorem dX11_batch_155 : decode cX11_batch 155 = .ok (.invokevirtual 228, 3) := by decide +kernel
theorem dX11_batch_158 : decode cX11_batch 158 = .ok (.aastore, 1) := by decide +kernel
theorem dX11_batch_159 : decode cX11_batch 159 = .ok (.iinc 3 1, 3) := by decide +kernel
theorem dX11_batch_162 : decode cX11_batch 162 = .ok (.goto (-65), 3) := by decide +kernel
theorem dX11_batch_165 : decode cX11_batch 165 = .ok (.aload_n 2, 1) := by decide +kernel
theorem dX11_batch_166 : decode cX11_batch 166 = .ok (.getfield 168, 3) := by decide +kernel
theorem dX11_batch_169 : decode cX11_batch 169 = .ok (.ireturn, 1) := by decide +kernel
def EX1_decodeU : List (Nat × Nat) := [(3, 3), (173, 0)]
set_option maxHeartbeats 4000000 in
set_option maxRecDepth 20000 in
theorem uX1_decodeU (l : Launch) (dC : Nat → ClassId) (dI : Nat → Nat → Nat) (ca : Nat → ClassId) (base : Nat) (B : jF) (hB : jBok B) (hAp : jAp (dC, dI)) (hB3 : ∀ n G a H, B 3 n G a H ↔ jOb (dC, dI) 3 17 (F3 n G) a H) (hB100 : ∀ n G a H, B 100 n G a H ↔ jAr (dC, dI) (ca 0) (fun j z => True) n a H) (hB173 : ∀ n G a H, B 173 n G a H ↔ jAr (dC, dI) (ca 1) (fun j z => True) n a H) (hB197 : ∀ n G a H, B 197 n G a H ↔ jAr (dC, dI) (ca 0) (fun j z => jBf j z) n a H) (G0 : jT) (H0 : Heap) (r0 : Nat) (r1 : Nat) (a2 : Int32) (n0 : Nat) (tx_ : Nat) (tq : jDtl) (fb : Nat → Int32) (ft : Nat → Int32) : Met l yX1_decode (jw yX1_decode cX1_decode 7 (some .boolean)) ({ frames := 1, cells := 0, slots := 0, locals := 27 }) (va_Pc [.ref r0, .ref r1, .int a2] (fun U => U.heap = H0 ∧ jX B base G0 [] H0 ∧ jG dC dI ca base U ∧ G0 r0 = some (3, n0) ∧ G0 r1 = some (197, 4000) ∧ G0 tx_ = some (173, 1500) ∧ jP (dC, dI) G0 H0 [(r0, 3, 2, .ref tx_)] ∧ jMc (dC, dI) G0 H0 [(r1, 197, 4000, ca 0, fb), (tx_, 173, 1500, ca 1, ft)] ∧ jIs (dC, dI) G0 H0 [(jFcd, jCD dC dI ca G0 (some r0) tq)] ∧ 0 ≤ a2.toInt ∧ a2.toInt ≤ 4000)) (va_Qi (S := Int32 × (Nat → Int32)) (fun r u => (r = 0 ∨ r = 1) ∧ (0 ≤ u.1.toInt ∧ u.1.toInt ≤ 1500 ∧ u.1.toInt ≤ a2.toInt + 3 ∧ jVdc (jB8 fb) a2.toInt r.toInt u.1.toInt u.2)) (fun u t => (jRt (dC, dI) B base G0 EX1_decodeU H0 [(r0, 3, 3, .int u.1)] t.heap ∧ jMc (dC, dI) G0 t.heap [(tx_, 173, 1500, ca 1, u.2)]) ∧ jIs (dC, dI) G0 t.heap [(jFcd, jCD dC dI ca G0 (some r0) tq)]) (jA base)) 0 0 (jA base) := by
  refine Met.ofW (cc := cX1_decode) (maxL := 7) (ret := (some .boolean)) (by decide) rfl ?_
  intro p e s m args below meth c s₁ Bd hml hv
  obtain ⟨rfl, hH0, hX, hG, hg_r0, hg_r1, hg_tx_, hP0, hM0, hI0, hp0, hp1⟩ := hv
  have hK := hG.1
  have hx := Bd.exec
  have hb := Bd.bytes
  have hr := Bd.returns
  have hts := atoms_spec (ws := (jw yX1_decode cX1_decode 7 (some .boolean))) Bd.pre
  have htw : ∀ w ∈ jWl, w.before _ s = true := fun w h => hts w (List.mem_cons_of_mem _ h)
  have hown : s.vm.findClass RX1 = some m.cls := findClass_of_methodNamed Bd.named
  have hlocks := Bd.notSynchronized
  obtain ⟨Q, hQ⟩ : ∃ Q, Q = MQ below (va_Qi (S := Int32 × (Nat → Int32)) (fun r u => (r = 0 ∨ r = 1) ∧ (0 ≤ u.1.toInt ∧ u.1.toInt ≤ 1500 ∧ u.1.toInt ≤ a2.toInt + 3 ∧ jVdc (jB8 fb) a2.toInt r.toInt u.1.toInt u.2)) (fun u t => (jRt (dC, dI) B base G0 EX1_decodeU H0 [(r0, 3, 3, .int u.1)] t.heap ∧ jMc (dC, dI) G0 t.heap [(tx_, 173, 1500, ca 1, u.2)]) ∧ jIs (dC, dI) G0 t.heap [(jFcd, jCD dC dI ca G0 (some r0) tq)]) (jA base)) ([.ref r0, .ref r1, .int a2] : List Value).toArray s 0 0 (jA base) := ⟨_, rfl⟩
  rw [← hQ]
  have hl := lv_entry ([.ref r0, .ref r1, .int a2]) (n := 7) (Nat.le_of_ble_eq_true rfl)
  rw [lg_entry_eq]
  generalize (lg_sl ([.ref r0, .ref r1, .int a2]) ++ List.replicate (7 - (lg_sl ([.ref r0, .ref r1, .int a2])).length) Slot.unset).toArray = ls at hl ⊢
  have hl : lv_has ls 7 [(0, .ref r0), (1, .ref r1), (2, .int a2)] := hl
  generalize hR : (headSpec (jw yX1_decode cX1_decode 7 (some .boolean)) ({ frames := 1, cells := 0, slots := 0, locals := 27 })).room = R
  subst hH0
  have hh : jSt (dC, dI) B base G0 G0 EX1_decodeU s.heap 0 0 [(r0, 3, 2, .ref tx_)] [(r1, 197, 4000, ca 0, fb), (tx_, 173, 1500, ca 1, ft)] [(jFcd, jCD dC dI ca G0 (some r0) tq)] s.heap [] := jSt.start hX hP0 hM0 hI0
  clear hX hP0
  have hk0 : (0 : Int32).toInt = 0 := by decide
  have hk1 : (1 : Int32).toInt = 1 := by decide
  have hk2 : (2 : Int32).toInt = 2 := by decide
  have hk10 : (10 : Int32).toInt = 10 := by decide
  have hk1023 : (1023 : Int32).toInt = 1023 := by decide
  have hk1500 : (1500 : Int32).toInt = 1500 := by decide
  have hk55296 : (55296 : Int32).toInt = 55296 := by decide
  have hk56320 : (56320 : Int32).toInt = 56320 := by decide
  have hk65533 : (65533 : Int32).toInt = 65533 := by decide
  have hk65536 : (65536 : Int32).toInt = 65536 := by decide
  have hly_3_2 := htw (u_lay RX1 TX1 2) (jWc_wsX10 _ (u_in_lay (by decide)))
  have hly_3_3 := htw (u_lay RX1 TX1 3) (jWc_wsX10 _ (u_in_lay (by decide)))
  have hlk_42 := (htw (.fieldLink RX1 42 "ProofServer$Document" "length" "I") (jWr_29 _ (List.mem_of_getElem? (i := 5) rfl)))
  have hcs_65 := htw (.constant RX1 65 65536) (jWr_93 _ (List.mem_of_getElem? (i := 20) rfl))
  have hlk_15 := (htw (.fieldLink RX1 15 "ProofServer$Document" "text" "[I") (jWr_10 _ (List.mem_of_getElem? (i := 6) rfl)))
  have hcs_66 := htw (.constant RX1 66 55296) (jWr_93 _ (List.mem_of_getElem? (i := 21) rfl))
  have hcs_67 := htw (.constant RX1 67 56320) (jWr_93 _ (List.mem_of_getElem? (i := 22) rfl))
  have hcs_68 := htw (.constant RX1 68 65533) (jWr_93 _ (List.mem_of_getElem? (i := 23) rfl))
  have hrg_a2 := jb_rng a2
  refine lv_aload_n hx hb dX1_decode_0 rfl (lv_at hl 0 rfl) ?_
  refine lv_iconst (v := 0) hx hb dX1_decode_1 (by decide) ?_
  have hd_2 := hh.iv 0 rfl
  have hd_22 := hh.at 0 rfl
  have hh_3 := hh.sub (L1 := [(r0, 3, 2, .ref tx_)]) [0] rfl (M1 := [(r1, 197, 4000, ca 0, fb), (tx_, 173, 1500, ca 1, ft)]) [0, 1] rfl (I1 := []) [] rfl
  clear hh
  refine j7_putX hx hb hown hK hh_3 hB hAp hB3 (C := RX1) (T := TX1) (N := 17) rfl (by decide) hg_r0 (i := 3) (by decide) hly_3_3 rfl hlk_42 rfl (ty := .int) (v := .int 0) (by decide +kernel) rfl rfl (⟨_, rfl, by omega, by omega⟩) rfl (L1 := [(r0, 3, 2, .ref tx_)]) [0] rfl rfl rfl dX1_decode_2 (fun H_1 locs_1 hr_1 hh_1 => ?_)
  clear hh_3
  have hd_2n := jCD.fld hd_2 hg_r0 hr_1 hd_22 (hh_1.at 1 rfl)
  have hh_4 := hh_1.addI (jCD.ie hd_2n)
  clear hh_1
  clear hd_2 hd_2n hd_22 hr_1
  refine lv_iconst (v := 0) hx hb dX1_decode_5 (by decide) ?_
  refine lv_istore_n (lv' := [(3, .int 0), (0, .ref r0), (1, .ref r1), (2, .int a2)]) hx hb dX1_decode_6 rfl hl (by decide) rfl (fun ls hl => ?_)
  refine lv_iconst (v := 0) hx hb dX1_decode_7 (by decide) ?_
  refine lv_istore (lv' := [(4, .int 0), (3, .int 0), (0, .ref r0), (1, .ref r1), (2, .int a2)]) hx hb dX1_decode_8 hl (by decide) rfl (fun ls hl => ?_)
  have L10 : ∀ (N : Nat) (v3_5 : Int32) (v4_5 : Int32) (wl_5 : Int32) (ft_5 : Nat → Int32) (H_5 : Heap) (locs_5 : List Loc), jSt (dC, dI) B base G0 G0 EX1_decodeU s.heap 0 0 [(r0, 3, 3, .int wl_5), (r0, 3, 2, .ref tx_)] [(tx_, 173, 1500, ca 1, ft_5), (r1, 197, 4000, ca 0, fb)] [(jFcd, jCD dC dI ca G0 (some r0) tq)] H_5 locs_5 → (0 ≤ v4_5.toInt ∧ v4_5.toInt ≤ v3_5.toInt ∧ v3_5.toInt ≤ a2.toInt + 3 ∧ 0 ≤ wl_5.toInt ∧ wl_5.toInt ≤ 1500 ∧ wl_5.toInt ≤ v3_5.toInt ∧ jDe (jB8 fb) a2.toInt ft_5 wl_5.toInt v3_5.toInt) → (((a2.toInt - v4_5.toInt).toNat : Int) : Int) < N → ∀ ls : Array Slot, lv_has ls 7 [(0, .ref r0), (1, .ref r1), (2, .int a2), (3, .int v3_5), (4, .int v4_5)] → W p l e R s m ([.ref r0, .ref r1, .int a2] : List Value).toArray below meth c H_5 locs_5 0 0 Q (F0 m 10 ls []) := by
    intro N
    induction N with
    | zero => intro v3_5 v4_5 wl_5 ft_5 H_5 locs_5 hh_5  hi_5 hm; exact absurd hm (by omega)
    | succ N L10 =>
      intro v3_5 v4_5 wl_5 ft_5 H_5 locs_5 hh_5  hi_5 hm_5 ls hl
      obtain ⟨hi_5_0, hi_5_1, hi_5_2, hi_5_3, hi_5_4, hi_5_5, hi_5_6⟩ := hi_5
      refine lv_iload hx hb dX1_decode_10 (lv_at hl 4 rfl) ?_
      refine lv_iload_n hx hb dX1_decode_12 rfl (lv_at hl 2 rfl) ?_
      refine lv_icmp_ge (tgt := 165) hx hb dX1_decode_13 (by decide) (fun c_6 => ?_) (fun c_6 => ?_)
      · skip
        have c_6' : v4_5.toInt ≥ a2.toInt := jb_ge (rfl) (rfl) c_6
        refine lv_iconst (v := 1) hx hb dX1_decode_165 (by decide) ?_
        rw [hQ]
        exact W.zret (v := 1) hx hb hr (jb_nz (Or.inr rfl)) (fun t ht hW => ⟨⟨1, (wl_5, ft_5), rfl, ⟨(Or.inr rfl), by (try dsimp only); refine ⟨by omega, by omega, by omega, ?_⟩; exact Or.inr ⟨by omega, hi_5_6.done (by omega)⟩⟩, ⟨⟨hh_5.rt (M1 := [(r0, 3, 3, .int wl_5)]) [0] rfl ht, by rw [ht]; exact hh_5.2.2.2.2.2.2.2.1.sub [0] rfl⟩, by rw [ht]; exact hh_5.2.2.2.2.2.2.2.2.sub (L1 := [(jFcd, jCD dC dI ca G0 (some r0) tq)]) [0] rfl⟩⟩, by rw [ht]; try exact hh_5.1.1, fun q h9 hq => by rw [ht]; try exact hh_5.1.2.1 q h9 hq⟩) hh_5.1.2.2 dX1_decode_166
      · skip
        have c_6' : v4_5.toInt < a2.toInt := jb_ge_n (rfl) (rfl) c_6
        refine lv_iload_n hx hb dX1_decode_16 rfl (lv_at hl 3 rfl) ?_
        refine lv_iload_n hx hb dX1_decode_17 rfl (lv_at hl 2 rfl) ?_
        refine lv_icmp_ge (tgt := 165) hx hb dX1_decode_18 (by decide) (fun c_7 => ?_) (fun c_7 => ?_)
        · skip
          have c_7' : v3_5.toInt ≥ a2.toInt := jb_ge (rfl) (rfl) c_7
          refine lv_iconst (v := 1) hx hb dX1_decode_165 (by decide) ?_
          rw [hQ]
          exact W.zret (v := 1) hx hb hr (jb_nz (Or.inr rfl)) (fun t ht hW => ⟨⟨1, (wl_5, ft_5), rfl, ⟨(Or.inr rfl), by (try dsimp only); refine ⟨by omega, by omega, by omega, ?_⟩; exact Or.inr ⟨by omega, hi_5_6.done (by omega)⟩⟩, ⟨⟨hh_5.rt (M1 := [(r0, 3, 3, .int wl_5)]) [0] rfl ht, by rw [ht]; exact hh_5.2.2.2.2.2.2.2.1.sub [0] rfl⟩, by rw [ht]; exact hh_5.2.2.2.2.2.2.2.2.sub (L1 := [(jFcd, jCD dC dI ca G0 (some r0) tq)]) [0] rfl⟩⟩, by rw [ht]; try exact hh_5.1.1, fun q h9 hq => by rw [ht]; try exact hh_5.1.2.1 q h9 hq⟩) hh_5.1.2.2 dX1_decode_166
        · skip
          have c_7' : v3_5.toInt < a2.toInt := jb_ge_n (rfl) (rfl) c_7
          refine lv_aload_n hx hb dX1_decode_21 rfl (lv_at hl 1 rfl) ?_
          refine lv_iload_n hx hb dX1_decode_22 rfl (lv_at hl 3 rfl) ?_
          refine lv_iload_n hx hb dX1_decode_23 rfl (lv_at hl 2 rfl) ?_
          refine va_calli (A0 := jA base) (H0 := s.heap) (va_runS (As := [.ref r1, .int v3_5, .int a2]) (rest := []) ⟨hx, hb, hml, hown, hts⟩ (uX0_decodedP l dC dI ca base B hB hAp hB197 G0 H_5 r1 v3_5 a2 fb) (va_cwS 3 hts (jgS (jWr_94 _ (List.mem_of_getElem? (i := 0) rfl)) (jWr_20 _ (List.mem_of_getElem? (i := 13) rfl)) (jWr_1 _ (List.mem_of_getElem? (i := 14) rfl)) (jWr_20 _ (List.mem_of_getElem? (i := 14) rfl))) rfl rfl rfl (by decide +kernel) ⟨by rw [← hR]; exact Nat.le_of_ble_eq_true rfl, by rw [← hR]; exact Nat.le_of_ble_eq_true rfl⟩) ⟨fun a U g mk q => by obtain ⟨q0, q1, q2, qK, q10, q11, q12, q13⟩ := q; exact ⟨q0, q1, q2, jG.calling g mk a qK, q10, q11, q12, q13⟩, fun U hU hW => ⟨rfl, hU, hh_5.2.1, hG.step hW hU hh_5.1, hg_r1, jP.nil, (hh_5.2.2.2.2.2.2.2.1.sub (L1 := [(r1, 197, 4000, ca 0, fb)]) [1] rfl), by first | omega | (refine ⟨?_, ?_, ?_⟩ <;> (first | omega | rfl | assumption | decide | exact Or.inl rfl | exact Or.inr rfl | (simp only; omega)))⟩⟩ rfl rfl hl.1 rfl (lv_room (Nat.le_of_ble_eq_true rfl)) dX1_decode_24 ⟨Nat.zero_le _, Nat.zero_le _⟩) hh_5.1 (fun q _ h => h) (fun q h => h) (fun r_9 u_8 t_8 H_8 locs_8 ht_8 hvm_8 hr_9 hb_8 hz_8 hk_8 hS_8 => ?_)
          rw [ht_8] at hb_8
          obtain ⟨hb_81, hb_82, hb_83, hb_84, hb_85⟩ := hb_8
          have hh_8 : jSt (dC, dI) B base G0 G0 EX1_decodeU s.heap 0 0 [(r0, 3, 3, .int wl_5), (r0, 3, 2, .ref tx_)] [(tx_, 173, 1500, ca 1, ft_5), (r1, 197, 4000, ca 0, fb)] [(jFcd, jCD dC dI ca G0 (some r0) tq)] H_8 locs_8 := ((hh_5.call hb_81 hb_82 hb_83 hb_84 hS_8 rfl (L1 := [(r0, 3, 3, .int wl_5), (r0, 3, 2, .ref tx_)]) [0, 1] rfl rfl (M1 := [(tx_, 173, 1500, ca 1, ft_5), (r1, 197, 4000, ca 0, fb)]) [0, 1] rfl rfl (I1 := [(jFcd, jCD dC dI ca G0 (some r0) tq)]) [0] rfl rfl).more hb_85)
          clear hh_5 ht_8 hvm_8 hz_8 hk_8 hS_8 hb_81 hb_82 hb_83 hb_84 hb_85
          obtain ⟨hr_9_0, hr_9_1, hr_9_2⟩ := hr_9
          refine lv_istore (lv' := [(5, .int r_9), (0, .ref r0), (1, .ref r1), (2, .int a2), (3, .int v3_5), (4, .int v4_5)]) hx hb dX1_decode_27 hl (by decide) rfl (fun ls hl => ?_)
          refine lv_iload_n hx hb dX1_decode_29 rfl (lv_at hl 4 rfl) ?_
          refine lv_iload hx hb dX1_decode_30 (lv_at hl 0 rfl) ?_
          refine lv_if_ge (tgt := 39) hx hb dX1_decode_32 (by decide) (fun c_10 => ?_) (fun c_10 => ?_)
          · skip
            have c_10' : r_9.toInt ≥ 0 := jb_ge (rfl) ((by decide)) c_10
            refine lv_iload hx hb dX1_decode_39 (lv_at hl 0 rfl) ?_
            refine va_calli (A0 := jA base) (H0 := s.heap) (va_runS (As := [.int r_9]) (rest := [.int v3_5]) ⟨hx, hb, hml, hown, hts⟩ (uX0_decodedSizeP l dC dI ca base B hB hAp G0 H_8 r_9) (va_cwS 1 hts (jgS (jWr_94 _ (List.mem_of_getElem? (i := 1) rfl)) (jWr_22 _ (List.mem_of_getElem? (i := 1) rfl)) (jWr_1 _ (List.mem_of_getElem? (i := 14) rfl)) (jWr_22 _ (List.mem_of_getElem? (i := 2) rfl))) rfl rfl rfl (by decide +kernel) ⟨by rw [← hR]; exact Nat.le_of_ble_eq_true rfl, by rw [← hR]; exact Nat.le_of_ble_eq_true rfl⟩) ⟨fun a U g mk q => by obtain ⟨q0, q1, q2, qK, q10, q11⟩ := q; exact ⟨q0, q1, q2, jG.calling g mk a qK, q10, q11⟩, fun U hU hW => ⟨rfl, hU, hh_8.2.1, hG.step hW hU hh_8.1, jP.nil, trivial⟩⟩ rfl rfl hl.1 rfl (lv_room (Nat.le_of_ble_eq_true rfl)) dX1_decode_41 ⟨Nat.zero_le _, Nat.zero_le _⟩) hh_8.1 (fun q _ h => h) (fun q h => h) (fun r_12 u_11 t_11 H_11 locs_11 ht_11 hvm_11 hr_12 hb_11 hz_11 hk_11 hS_11 => ?_)
            rw [ht_11] at hb_11
            obtain ⟨hb_111, hb_112, hb_113, hb_114, hb_115⟩ := hb_11
            have hh_11 : jSt (dC, dI) B base G0 G0 EX1_decodeU s.heap 0 0 [(r0, 3, 3, .int wl_5), (r0, 3, 2, .ref tx_)] [(tx_, 173, 1500, ca 1, ft_5), (r1, 197, 4000, ca 0, fb)] [(jFcd, jCD dC dI ca G0 (some r0) tq)] H_11 locs_11 := ((hh_8.call hb_111 hb_112 hb_113 hb_114 hS_11 rfl (L1 := [(r0, 3, 3, .int wl_5), (r0, 3, 2, .ref tx_)]) [0, 1] rfl rfl (M1 := [(tx_, 173, 1500, ca 1, ft_5), (r1, 197, 4000, ca 0, fb)]) [0, 1] rfl rfl (I1 := [(jFcd, jCD dC dI ca G0 (some r0) tq)]) [0] rfl rfl).more hb_115)
            clear hh_8 ht_11 hvm_11 hz_11 hk_11 hS_11 hb_111 hb_112 hb_113 hb_114 hb_115
            obtain ⟨hr_12_0, hr_12_1, hr_12_2, hr_12_3⟩ := hr_12
            refine lv_iadd hx hb dX1_decode_44 ?_
            refine lv_topi (fun z_13 ez_13 => ?_)
            have hz_13 : z_13.toInt = v3_5.toInt + r_12.toInt := by rw [ez_13]; exact jb_iadd2 (rfl) (rfl) (by omega)
            refine lv_istore_n (lv' := [(3, .int z_13), (5, .int r_9), (0, .ref r0), (1, .ref r1), (2, .int a2), (4, .int v4_5)]) hx hb dX1_decode_45 rfl hl (by decide) rfl (fun ls hl => ?_)
            refine lv_iload hx hb dX1_decode_46 (lv_at hl 1 rfl) ?_
            refine lv_ldc hx hb hown hcs_65 dX1_decode_48 ?_
            refine lv_icmp_lt (tgt := 57) hx hb dX1_decode_50 (by decide) (fun c_14 => ?_) (fun c_14 => ?_)
            · skip
              have c_14' : r_9.toInt < 65536 := jb_lt (rfl) ((by decide)) c_14
              first | (have hr_12_3q := hr_12_3.resolve_left (by omega); clear hr_12_3) | (have hr_12_3q := hr_12_3.resolve_right (by omega); clear hr_12_3) | try clear hr_12_3
              refine lv_iconst (v := 1) hx hb dX1_decode_57 (by decide) ?_
              refine lv_istore (lv' := [(6, .int 1), (3, .int z_13), (5, .int r_9), (0, .ref r0), (1, .ref r1), (2, .int a2), (4, .int v4_5)]) hx hb dX1_decode_58 hl (by decide) rfl (fun ls hl => ?_)
              refine lv_aload_n hx hb dX1_decode_60 rfl (lv_at hl 3 rfl) ?_
              refine j7_read hx hb hown hK (C := RX1) (T := TX1) (N := 17) rfl hly_3_3 hlk_42 (hh_11.at 0 rfl) dX1_decode_61 ?_
              refine lv_iload hx hb dX1_decode_64 (lv_at hl 0 rfl) ?_
              refine lv_iadd hx hb dX1_decode_66 ?_
              refine lv_topi (fun z_15 ez_15 => ?_)
              have hz_15 : z_15.toInt = wl_5.toInt + 1 := by rw [ez_15]; exact jb_iadd2 (rfl) ((by decide)) (by omega)
              refine lv_sipush (v := 1500) hx hb dX1_decode_67 (by decide) ?_
              refine lv_icmp_le (tgt := 75) hx hb dX1_decode_70 (by decide) (fun c_16 => ?_) (fun c_16 => ?_)
              · skip
                have c_16' : z_15.toInt ≤ 1500 := jb_le (rfl) ((by decide)) c_16
                refine lv_iload hx hb dX1_decode_75 (lv_at hl 0 rfl) ?_
                refine lv_iconst (v := 2) hx hb dX1_decode_77 (by decide) ?_
                refine lv_icmp_ne (tgt := 127) hx hb dX1_decode_78 (by decide) (fun c_17 => ?_) (fun c_17 => ?_)
                · skip
                  refine lv_aload_n hx hb dX1_decode_127 rfl (lv_at hl 3 rfl) ?_
                  refine j7_read hx hb hown hK (C := RX1) (T := TX1) (N := 17) rfl hly_3_2 hlk_15 (hh_11.at 1 rfl) dX1_decode_128 ?_
                  refine lv_aload_n hx hb dX1_decode_131 rfl (lv_at hl 3 rfl) ?_
                  refine j7_read hx hb hown hK (C := RX1) (T := TX1) (N := 17) rfl hly_3_3 hlk_42 (hh_11.at 0 rfl) dX1_decode_132 ?_
                  refine lv_iload hx hb dX1_decode_135 (lv_at hl 2 rfl) ?_
                  refine lv_if_ge (tgt := 145) hx hb dX1_decode_137 (by decide) (fun c_18 => ?_) (fun c_18 => ?_)
                  · skip
                    have c_18' : r_9.toInt ≥ 0 := jb_ge (rfl) ((by decide)) c_18
                    refine lv_iload hx hb dX1_decode_145 (lv_at hl 2 rfl) ?_
                    have hd_20 := hh_11.iv 0 rfl
                    have hh_21 := hh_11.sub (L1 := [(r0, 3, 3, .int wl_5), (r0, 3, 2, .ref tx_)]) [0, 1] rfl (M1 := [(tx_, 173, 1500, ca 1, ft_5), (r1, 197, 4000, ca 0, fb)]) [0, 1] rfl (I1 := []) [] rfl
                    clear hh_11
                    have hd_20f := hh_21.at 1 rfl
                    refine j7_iastX hx hb hK hh_21 hB hB173 1 rfl (by decide) (by decide) rfl 0 rfl (M1 := [(r1, 197, 4000, ca 0, fb)]) [1] rfl rfl rfl hg_tx_ (x := wl_5.toInt) (rfl) (by omega) (trivial) dX1_decode_147 (fun H_19 locs_19 fs_22 hv_19 ho_19 hr_19 hh_19 => ?_)
                    have hv_19 : jSo fs_22 (wl_5.toInt) = r_9.toInt := by unfold jSo; rw [hv_19]; try exact rfl
                    clear hh_21
                    have hd_20n := jCD.arr hd_20 hg_r0 hg_tx_ hd_20f hr_19
                    have hh_23 := hh_19.addI (jCD.ie hd_20n)
                    clear hh_19
                    clear hd_20 hd_20f hd_20n hr_19
                    refine lv_aload_n hx hb dX1_decode_148 rfl (lv_at hl 3 rfl) ?_
                    refine lv_dup hx hb dX1_decode_149 rfl ?_
                    refine j7_read hx hb hown hK (C := RX1) (T := TX1) (N := 17) rfl hly_3_3 hlk_42 (hh_23.at 0 rfl) dX1_decode_150 ?_
                    refine lv_iload hx hb dX1_decode_153 (lv_at hl 0 rfl) ?_
                    refine lv_iadd hx hb dX1_decode_155 ?_
                    refine lv_topi (fun z_24 ez_24 => ?_)
                    have hz_24 : z_24.toInt = wl_5.toInt + 1 := by rw [ez_24]; exact jb_iadd2 (rfl) ((by decide)) (by omega)
                    have hd_26 := hh_23.iv 0 rfl
                    have hd_262 := hh_23.at 1 rfl
                    have hh_27 := hh_23.sub (L1 := [(r0, 3, 3, .int wl_5), (r0, 3, 2, .ref tx_)]) [0, 1] rfl (M1 := [(tx_, 173, 1500, ca 1, fs_22), (r1, 197, 4000, ca 0, fb)]) [0, 1] rfl (I1 := []) [] rfl
                    clear hh_23
                    refine j7_putX hx hb hown hK hh_27 hB hAp hB3 (C := RX1) (T := TX1) (N := 17) rfl (by decide) hg_r0 (i := 3) (by decide) hly_3_3 rfl hlk_42 rfl (ty := .int) (v := .int z_24) (by decide +kernel) rfl rfl (⟨_, rfl, by omega, by omega⟩) rfl (L1 := [(r0, 3, 2, .ref tx_)]) [1] rfl rfl rfl dX1_decode_156 (fun H_25 locs_25 hr_25 hh_25 => ?_)
                    clear hh_27
                    have hd_26n := jCD.fld hd_26 hg_r0 hr_25 hd_262 (hh_25.at 1 rfl)
                    have hh_28 := hh_25.addI (jCD.ie hd_26n)
                    clear hh_25
                    clear hd_26 hd_26n hd_262 hr_25
                    obtain ⟨z_29, ez_29⟩ : ∃ y : Int32, y = v4_5 + 1 := ⟨_, rfl⟩
                    refine lv_iinc (v := z_29) (lv' := [(4, .int z_29), (6, .int 1), (3, .int z_13), (5, .int r_9), (0, .ref r0), (1, .ref r1), (2, .int a2)]) hx hb dX1_decode_159 hl (k := 6) rfl (by rw [ez_29]; rfl) (by decide) rfl (fun ls hl => ?_)
                    have hz_29 : z_29.toInt = v4_5.toInt + 1 := by rw [ez_29]; exact jb_iadd2 (rfl) (by decide) (by omega)
                    refine lv_goto (tgt := 10) hx hb dX1_decode_162 (by decide) ?_
                    exact L10 z_13 z_29 z_24 fs_22 _ _ hh_28 (by refine ⟨by omega, by omega, by omega, by omega, by omega, by omega, ?_⟩; first | (exfalso; omega) | (exact hi_5_6.oneC (by omega) hr_9_0 (by omega) (jOth.ho (jOth.mk (n := 1500) ho_19 rfl (by omega)) rfl (by omega)) hv_19 (by omega) (by omega) (by omega))) (by omega) _ (lv_sub hl [4, 5, 6, 2, 0] rfl)
                  · skip
                    have c_18' : r_9.toInt < 0 := jb_ge_n (rfl) ((by decide)) c_18
                    refine lv_ldc hx hb hown hcs_68 dX1_decode_140 ?_
                    refine lv_goto (tgt := 147) hx hb dX1_decode_142 (by decide) ?_
                    have hd_31 := hh_11.iv 0 rfl
                    have hh_32 := hh_11.sub (L1 := [(r0, 3, 3, .int wl_5), (r0, 3, 2, .ref tx_)]) [0, 1] rfl (M1 := [(tx_, 173, 1500, ca 1, ft_5), (r1, 197, 4000, ca 0, fb)]) [0, 1] rfl (I1 := []) [] rfl
                    clear hh_11
                    have hd_31f := hh_32.at 1 rfl
                    refine j7_iastX hx hb hK hh_32 hB hB173 1 rfl (by decide) (by decide) rfl 0 rfl (M1 := [(r1, 197, 4000, ca 0, fb)]) [1] rfl rfl rfl hg_tx_ (x := wl_5.toInt) (rfl) (by omega) (trivial) dX1_decode_147 (fun H_30 locs_30 fs_33 hv_30 ho_30 hr_30 hh_30 => ?_)
                    have hv_30 : jSo fs_33 (wl_5.toInt) = 65533 := by unfold jSo; rw [hv_30]; try exact (by decide)
                    clear hh_32
                    have hd_31n := jCD.arr hd_31 hg_r0 hg_tx_ hd_31f hr_30
                    have hh_34 := hh_30.addI (jCD.ie hd_31n)
                    clear hh_30
                    clear hd_31 hd_31f hd_31n hr_30
                    refine lv_aload_n hx hb dX1_decode_148 rfl (lv_at hl 3 rfl) ?_
                    refine lv_dup hx hb dX1_decode_149 rfl ?_
                    refine j7_read hx hb hown hK (C := RX1) (T := TX1) (N := 17) rfl hly_3_3 hlk_42 (hh_34.at 0 rfl) dX1_decode_150 ?_
                    refine lv_iload hx hb dX1_decode_153 (lv_at hl 0 rfl) ?_
                    refine lv_iadd hx hb dX1_decode_155 ?_
                    refine lv_topi (fun z_35 ez_35 => ?_)
                    have hz_35 : z_35.toInt = wl_5.toInt + 1 := by rw [ez_35]; exact jb_iadd2 (rfl) ((by decide)) (by omega)
                    have hd_37 := hh_34.iv 0 rfl
                    have hd_372 := hh_34.at 1 rfl
                    have hh_38 := hh_34.sub (L1 := [(r0, 3, 3, .int wl_5), (r0, 3, 2, .ref tx_)]) [0, 1] rfl (M1 := [(tx_, 173, 1500, ca 1, fs_33), (r1, 197, 4000, ca 0, fb)]) [0, 1] rfl (I1 := []) [] rfl
                    clear hh_34
                    refine j7_putX hx hb hown hK hh_38 hB hAp hB3 (C := RX1) (T := TX1) (N := 17) rfl (by decide) hg_r0 (i := 3) (by decide) hly_3_3 rfl hlk_42 rfl (ty := .int) (v := .int z_35) (by decide +kernel) rfl rfl (⟨_, rfl, by omega, by omega⟩) rfl (L1 := [(r0, 3, 2, .ref tx_)]) [1] rfl rfl rfl dX1_decode_156 (fun H_36 locs_36 hr_36 hh_36 => ?_)
                    clear hh_38
                    have hd_37n := jCD.fld hd_37 hg_r0 hr_36 hd_372 (hh_36.at 1 rfl)
                    have hh_39 := hh_36.addI (jCD.ie hd_37n)
                    clear hh_36
                    clear hd_37 hd_37n hd_372 hr_36
                    obtain ⟨z_40, ez_40⟩ : ∃ y : Int32, y = v4_5 + 1 := ⟨_, rfl⟩
                    refine lv_iinc (v := z_40) (lv' := [(4, .int z_40), (6, .int 1), (3, .int z_13), (5, .int r_9), (0, .ref r0), (1, .ref r1), (2, .int a2)]) hx hb dX1_decode_159 hl (k := 6) rfl (by rw [ez_40]; rfl) (by decide) rfl (fun ls hl => ?_)
                    have hz_40 : z_40.toInt = v4_5.toInt + 1 := by rw [ez_40]; exact jb_iadd2 (rfl) (by decide) (by omega)
                    refine lv_goto (tgt := 10) hx hb dX1_decode_162 (by decide) ?_
                    exact L10 z_13 z_40 z_35 fs_33 _ _ hh_39 (by refine ⟨by omega, by omega, by omega, by omega, by omega, by omega, ?_⟩; first | (exfalso; omega) | (exact hi_5_6.oneC (by omega) hr_9_0 (by omega) (jOth.ho (jOth.mk (n := 1500) ho_30 rfl (by omega)) rfl (by omega)) hv_30 (by omega) (by omega) (by omega))) (by omega) _ (lv_sub hl [4, 5, 6, 2, 0] rfl)
                · skip
                  exact absurd c_17 (by decide)
              · skip
                have c_16' : z_15.toInt > 1500 := jb_le_n (rfl) ((by decide)) c_16
                refine lv_iconst (v := 0) hx hb dX1_decode_73 (by decide) ?_
                rw [hQ]
                exact W.zret (v := 0) hx hb hr (jb_nz (Or.inl rfl)) (fun t ht hW => ⟨⟨0, (wl_5, ft_5), rfl, ⟨(Or.inl rfl), by (try dsimp only); refine ⟨by omega, by omega, by omega, ?_⟩; exact Or.inl ⟨by omega, hi_5_6.long (by omega) hr_9_0 (s := 1) (by omega) (by omega)⟩⟩, ⟨⟨hh_11.rt (M1 := [(r0, 3, 3, .int wl_5)]) [0] rfl ht, by rw [ht]; exact hh_11.2.2.2.2.2.2.2.1.sub [0] rfl⟩, by rw [ht]; exact hh_11.2.2.2.2.2.2.2.2.sub (L1 := [(jFcd, jCD dC dI ca G0 (some r0) tq)]) [0] rfl⟩⟩, by rw [ht]; try exact hh_11.1.1, fun q h9 hq => by rw [ht]; try exact hh_11.1.2.1 q h9 hq⟩) hh_11.1.2.2 dX1_decode_74
            · skip
              have c_14' : r_9.toInt ≥ 65536 := jb_lt_n (rfl) ((by decide)) c_14
              first | (have hr_12_3q := hr_12_3.resolve_left (by omega); clear hr_12_3) | (have hr_12_3q := hr_12_3.resolve_right (by omega); clear hr_12_3) | try clear hr_12_3
              refine lv_iconst (v := 2) hx hb dX1_decode_53 (by decide) ?_
              refine lv_goto (tgt := 58) hx hb dX1_decode_54 (by decide) ?_
              refine lv_istore (lv' := [(6, .int 2), (3, .int z_13), (5, .int r_9), (0, .ref r0), (1, .ref r1), (2, .int a2), (4, .int v4_5)]) hx hb dX1_decode_58 hl (by decide) rfl (fun ls hl => ?_)
              refine lv_aload_n hx hb dX1_decode_60 rfl (lv_at hl 3 rfl) ?_
              refine j7_read hx hb hown hK (C := RX1) (T := TX1) (N := 17) rfl hly_3_3 hlk_42 (hh_11.at 0 rfl) dX1_decode_61 ?_
              refine lv_iload hx hb dX1_decode_64 (lv_at hl 0 rfl) ?_
              refine lv_iadd hx hb dX1_decode_66 ?_
              refine lv_topi (fun z_41 ez_41 => ?_)
              have hz_41 : z_41.toInt = wl_5.toInt + 2 := by rw [ez_41]; exact jb_iadd2 (rfl) ((by decide)) (by omega)
              refine lv_sipush (v := 1500) hx hb dX1_decode_67 (by decide) ?_
              refine lv_icmp_le (tgt := 75) hx hb dX1_decode_70 (by decide) (fun c_42 => ?_) (fun c_42 => ?_)
              · skip
                have c_42' : z_41.toInt ≤ 1500 := jb_le (rfl) ((by decide)) c_42
                refine lv_iload hx hb dX1_decode_75 (lv_at hl 0 rfl) ?_
                refine lv_iconst (v := 2) hx hb dX1_decode_77 (by decide) ?_
                refine lv_icmp_ne (tgt := 127) hx hb dX1_decode_78 (by decide) (fun c_43 => ?_) (fun c_43 => ?_)
                · skip
                  exact absurd c_43 (by decide)
                · skip
                  refine lv_aload_n hx hb dX1_decode_81 rfl (lv_at hl 3 rfl) ?_
                  refine j7_read hx hb hown hK (C := RX1) (T := TX1) (N := 17) rfl hly_3_2 hlk_15 (hh_11.at 1 rfl) dX1_decode_82 ?_
                  refine lv_aload_n hx hb dX1_decode_85 rfl (lv_at hl 3 rfl) ?_
                  refine j7_read hx hb hown hK (C := RX1) (T := TX1) (N := 17) rfl hly_3_3 hlk_42 (hh_11.at 0 rfl) dX1_decode_86 ?_
                  refine lv_ldc hx hb hown hcs_66 dX1_decode_89 ?_
                  refine lv_iload hx hb dX1_decode_91 (lv_at hl 2 rfl) ?_
                  refine lv_ldc hx hb hown hcs_65 dX1_decode_93 ?_
                  refine lv_isub hx hb dX1_decode_95 ?_
                  refine lv_topi (fun z_44 ez_44 => ?_)
                  have hz_44 : z_44.toInt = r_9.toInt - 65536 := by rw [ez_44]; exact jb_isub2 (rfl) ((by decide)) (by omega)
                  refine lv_bipush (v := 10) hx hb dX1_decode_96 (by decide) ?_
                  refine lv_ishr hx hb dX1_decode_98 ?_
                  refine lv_topi (fun z_45 ez_45 => ?_)
                  have hz_45 : z_45.toInt = z_44.toInt / 2 ^ 10 := by rw [ez_45]; exact jb_ishr 10 (rfl) (by decide)
                  have hsr := jb_shr10 ez_45 (by omega)
                  refine lv_iadd hx hb dX1_decode_99 ?_
                  refine lv_topi (fun z_46 ez_46 => ?_)
                  have hz_46 : z_46.toInt = 55296 + z_45.toInt := by rw [ez_46]; exact jb_iadd2 ((by decide)) (rfl) (by omega)
                  have hd_48 := hh_11.iv 0 rfl
                  have hh_49 := hh_11.sub (L1 := [(r0, 3, 3, .int wl_5), (r0, 3, 2, .ref tx_)]) [0, 1] rfl (M1 := [(tx_, 173, 1500, ca 1, ft_5), (r1, 197, 4000, ca 0, fb)]) [0, 1] rfl (I1 := []) [] rfl
                  clear hh_11
                  have hd_48f := hh_49.at 1 rfl
                  refine j7_iastX hx hb hK hh_49 hB hB173 1 rfl (by decide) (by decide) rfl 0 rfl (M1 := [(r1, 197, 4000, ca 0, fb)]) [1] rfl rfl rfl hg_tx_ (x := wl_5.toInt) (rfl) (by omega) (trivial) dX1_decode_100 (fun H_47 locs_47 fs_50 hv_47 ho_47 hr_47 hh_47 => ?_)
                  have hv_47 : jSo fs_50 (wl_5.toInt) = z_46.toInt := by unfold jSo; rw [hv_47]; try exact rfl
                  clear hh_49
                  have hd_48n := jCD.arr hd_48 hg_r0 hg_tx_ hd_48f hr_47
                  have hh_51 := hh_47.addI (jCD.ie hd_48n)
                  clear hh_47
                  clear hd_48 hd_48f hd_48n hr_47
                  refine lv_aload_n hx hb dX1_decode_101 rfl (lv_at hl 3 rfl) ?_
                  refine j7_read hx hb hown hK (C := RX1) (T := TX1) (N := 17) rfl hly_3_2 hlk_15 (hh_51.at 1 rfl) dX1_decode_102 ?_
                  refine lv_aload_n hx hb dX1_decode_105 rfl (lv_at hl 3 rfl) ?_
                  refine j7_read hx hb hown hK (C := RX1) (T := TX1) (N := 17) rfl hly_3_3 hlk_42 (hh_51.at 0 rfl) dX1_decode_106 ?_
                  refine lv_iconst (v := 1) hx hb dX1_decode_109 (by decide) ?_
                  refine lv_iadd hx hb dX1_decode_110 ?_
                  refine lv_topi (fun z_52 ez_52 => ?_)
                  have hz_52 : z_52.toInt = wl_5.toInt + 1 := by rw [ez_52]; exact jb_iadd2 (rfl) ((by decide)) (by omega)
                  refine lv_ldc hx hb hown hcs_67 dX1_decode_111 ?_
                  refine lv_iload hx hb dX1_decode_113 (lv_at hl 2 rfl) ?_
                  refine lv_ldc hx hb hown hcs_65 dX1_decode_115 ?_
                  refine lv_isub hx hb dX1_decode_117 ?_
                  refine lv_topi (fun z_53 ez_53 => ?_)
                  have hz_53 : z_53.toInt = r_9.toInt - 65536 := by rw [ez_53]; exact jb_isub2 (rfl) ((by decide)) (by omega)
                  refine lv_sipush (v := 1023) hx hb dX1_decode_118 (by decide) ?_
                  refine lv_iand hx hb dX1_decode_121 ?_
                  refine lv_topi (fun z_54 ez_54 => ?_)
                  have hz_54 : 0 ≤ z_54.toInt ∧ z_54.toInt ≤ 1023 := by rw [ez_54]; exact jb_and z_53 (m := 1023) (k := 10) (by decide) (by decide)
                  have had := jb_a1023 ez_54
                  refine lv_iadd hx hb dX1_decode_122 ?_
                  refine lv_topi (fun z_55 ez_55 => ?_)
                  have hz_55 : z_55.toInt = 56320 + z_54.toInt := by rw [ez_55]; exact jb_iadd2 ((by decide)) (rfl) (by omega)
                  have hd_57 := hh_51.iv 0 rfl
                  have hh_58 := hh_51.sub (L1 := [(r0, 3, 3, .int wl_5), (r0, 3, 2, .ref tx_)]) [0, 1] rfl (M1 := [(tx_, 173, 1500, ca 1, fs_50), (r1, 197, 4000, ca 0, fb)]) [0, 1] rfl (I1 := []) [] rfl
                  clear hh_51
                  have hd_57f := hh_58.at 1 rfl
                  refine j7_iastX hx hb hK hh_58 hB hB173 1 rfl (by decide) (by decide) rfl 0 rfl (M1 := [(r1, 197, 4000, ca 0, fb)]) [1] rfl rfl rfl hg_tx_ (x := z_52.toInt) (rfl) (by omega) (trivial) dX1_decode_123 (fun H_56 locs_56 fs_59 hv_56 ho_56 hr_56 hh_56 => ?_)
                  have hv_56 : jSo fs_59 (z_52.toInt) = z_55.toInt := by unfold jSo; rw [hv_56]; try exact rfl
                  rw [show z_52.toInt = (wl_5.toInt + 1) by omega] at hv_56 ho_56
                  clear hh_58
                  have hd_57n := jCD.arr hd_57 hg_r0 hg_tx_ hd_57f hr_56
                  have hh_60 := hh_56.addI (jCD.ie hd_57n)
                  clear hh_56
                  clear hd_57 hd_57f hd_57n hr_56
                  refine lv_goto (tgt := 148) hx hb dX1_decode_124 (by decide) ?_
                  refine lv_aload_n hx hb dX1_decode_148 rfl (lv_at hl 3 rfl) ?_
                  refine lv_dup hx hb dX1_decode_149 rfl ?_
                  refine j7_read hx hb hown hK (C := RX1) (T := TX1) (N := 17) rfl hly_3_3 hlk_42 (hh_60.at 0 rfl) dX1_decode_150 ?_
                  refine lv_iload hx hb dX1_decode_153 (lv_at hl 0 rfl) ?_
                  refine lv_iadd hx hb dX1_decode_155 ?_
                  refine lv_topi (fun z_61 ez_61 => ?_)
                  have hz_61 : z_61.toInt = wl_5.toInt + 2 := by rw [ez_61]; exact jb_iadd2 (rfl) ((by decide)) (by omega)
                  have hd_63 := hh_60.iv 0 rfl
                  have hd_632 := hh_60.at 1 rfl
                  have hh_64 := hh_60.sub (L1 := [(r0, 3, 3, .int wl_5), (r0, 3, 2, .ref tx_)]) [0, 1] rfl (M1 := [(tx_, 173, 1500, ca 1, fs_59), (r1, 197, 4000, ca 0, fb)]) [0, 1] rfl (I1 := []) [] rfl
                  clear hh_60
                  refine j7_putX hx hb hown hK hh_64 hB hAp hB3 (C := RX1) (T := TX1) (N := 17) rfl (by decide) hg_r0 (i := 3) (by decide) hly_3_3 rfl hlk_42 rfl (ty := .int) (v := .int z_61) (by decide +kernel) rfl rfl (⟨_, rfl, by omega, by omega⟩) rfl (L1 := [(r0, 3, 2, .ref tx_)]) [1] rfl rfl rfl dX1_decode_156 (fun H_62 locs_62 hr_62 hh_62 => ?_)
                  clear hh_64
                  have hd_63n := jCD.fld hd_63 hg_r0 hr_62 hd_632 (hh_62.at 1 rfl)
                  have hh_65 := hh_62.addI (jCD.ie hd_63n)
                  clear hh_62
                  clear hd_63 hd_63n hd_632 hr_62
                  obtain ⟨z_66, ez_66⟩ : ∃ y : Int32, y = v4_5 + 1 := ⟨_, rfl⟩
                  refine lv_iinc (v := z_66) (lv' := [(4, .int z_66), (6, .int 2), (3, .int z_13), (5, .int r_9), (0, .ref r0), (1, .ref r1), (2, .int a2)]) hx hb dX1_decode_159 hl (k := 6) rfl (by rw [ez_66]; rfl) (by decide) rfl (fun ls hl => ?_)
                  have hz_66 : z_66.toInt = v4_5.toInt + 1 := by rw [ez_66]; exact jb_iadd2 (rfl) (by decide) (by omega)
                  refine lv_goto (tgt := 10) hx hb dX1_decode_162 (by decide) ?_
                  exact L10 z_13 z_66 z_61 fs_59 _ _ hh_65 (by refine ⟨by omega, by omega, by omega, by omega, by omega, by omega, ?_⟩; first | (exfalso; omega) | (exact hi_5_6.twoC (by omega) hr_9_0 (by omega) (jOth.ho2 (jOth.mk (n := 1500) ho_47 rfl (by omega)) (jOth.mk (n := 1500) ho_56 rfl (by omega)) rfl (by omega) (by omega)) (((jOth.mk (n := 1500) ho_56 rfl (by omega) : jOth 1500 _ _ _) _ (by omega) (by omega) (by omega)).trans hv_47) (jSoA hv_56 (by omega)) (by omega) (by omega) (by omega) (by omega))) (by omega) _ (lv_sub hl [4, 5, 6, 2, 0] rfl)
              · skip
                have c_42' : z_41.toInt > 1500 := jb_le_n (rfl) ((by decide)) c_42
                refine lv_iconst (v := 0) hx hb dX1_decode_73 (by decide) ?_
                rw [hQ]
                exact W.zret (v := 0) hx hb hr (jb_nz (Or.inl rfl)) (fun t ht hW => ⟨⟨0, (wl_5, ft_5), rfl, ⟨(Or.inl rfl), by (try dsimp only); refine ⟨by omega, by omega, by omega, ?_⟩; exact Or.inl ⟨by omega, hi_5_6.long (by omega) hr_9_0 (s := 2) (by omega) (by omega)⟩⟩, ⟨⟨hh_11.rt (M1 := [(r0, 3, 3, .int wl_5)]) [0] rfl ht, by rw [ht]; exact hh_11.2.2.2.2.2.2.2.1.sub [0] rfl⟩, by rw [ht]; exact hh_11.2.2.2.2.2.2.2.2.sub (L1 := [(jFcd, jCD dC dI ca G0 (some r0) tq)]) [0] rfl⟩⟩, by rw [ht]; try exact hh_11.1.1, fun q h9 hq => by rw [ht]; try exact hh_11.1.2.1 q h9 hq⟩) hh_11.1.2.2 dX1_decode_74
          · skip
            have c_10' : r_9.toInt < 0 := jb_ge_n (rfl) ((by decide)) c_10
            refine lv_iconst (v := 1) hx hb dX1_decode_35 (by decide) ?_
            refine lv_goto (tgt := 44) hx hb dX1_decode_36 (by decide) ?_
            refine lv_iadd hx hb dX1_decode_44 ?_
            refine lv_topi (fun z_67 ez_67 => ?_)
            have hz_67 : z_67.toInt = v3_5.toInt + 1 := by rw [ez_67]; exact jb_iadd2 (rfl) ((by decide)) (by omega)
            refine lv_istore_n (lv' := [(3, .int z_67), (5, .int r_9), (0, .ref r0), (1, .ref r1), (2, .int a2), (4, .int v4_5)]) hx hb dX1_decode_45 rfl hl (by decide) rfl (fun ls hl => ?_)
            refine lv_iload hx hb dX1_decode_46 (lv_at hl 1 rfl) ?_
            refine lv_ldc hx hb hown hcs_65 dX1_decode_48 ?_
            refine lv_icmp_lt (tgt := 57) hx hb dX1_decode_50 (by decide) (fun c_68 => ?_) (fun c_68 => ?_)
            · skip
              have c_68' : r_9.toInt < 65536 := jb_lt (rfl) ((by decide)) c_68
              refine lv_iconst (v := 1) hx hb dX1_decode_57 (by decide) ?_
              refine lv_istore (lv' := [(6, .int 1), (3, .int z_67), (5, .int r_9), (0, .ref r0), (1, .ref r1), (2, .int a2), (4, .int v4_5)]) hx hb dX1_decode_58 hl (by decide) rfl (fun ls hl => ?_)
              refine lv_aload_n hx hb dX1_decode_60 rfl (lv_at hl 3 rfl) ?_
              refine j7_read hx hb hown hK (C := RX1) (T := TX1) (N := 17) rfl hly_3_3 hlk_42 (hh_8.at 0 rfl) dX1_decode_61 ?_
              refine lv_iload hx hb dX1_decode_64 (lv_at hl 0 rfl) ?_
              refine lv_iadd hx hb dX1_decode_66 ?_
              refine lv_topi (fun z_69 ez_69 => ?_)
              have hz_69 : z_69.toInt = wl_5.toInt + 1 := by rw [ez_69]; exact jb_iadd2 (rfl) ((by decide)) (by omega)
              refine lv_sipush (v := 1500) hx hb dX1_decode_67 (by decide) ?_
              refine lv_icmp_le (tgt := 75) hx hb dX1_decode_70 (by decide) (fun c_70 => ?_) (fun c_70 => ?_)
              · skip
                have c_70' : z_69.toInt ≤ 1500 := jb_le (rfl) ((by decide)) c_70
                refine lv_iload hx hb dX1_decode_75 (lv_at hl 0 rfl) ?_
                refine lv_iconst (v := 2) hx hb dX1_decode_77 (by decide) ?_
                refine lv_icmp_ne (tgt := 127) hx hb dX1_decode_78 (by decide) (fun c_71 => ?_) (fun c_71 => ?_)
                · skip
                  refine lv_aload_n hx hb dX1_decode_127 rfl (lv_at hl 3 rfl) ?_
                  refine j7_read hx hb hown hK (C := RX1) (T := TX1) (N := 17) rfl hly_3_2 hlk_15 (hh_8.at 1 rfl) dX1_decode_128 ?_
                  refine lv_aload_n hx hb dX1_decode_131 rfl (lv_at hl 3 rfl) ?_
                  refine j7_read hx hb hown hK (C := RX1) (T := TX1) (N := 17) rfl hly_3_3 hlk_42 (hh_8.at 0 rfl) dX1_decode_132 ?_
                  refine lv_iload hx hb dX1_decode_135 (lv_at hl 2 rfl) ?_
                  refine lv_if_ge (tgt := 145) hx hb dX1_decode_137 (by decide) (fun c_72 => ?_) (fun c_72 => ?_)
                  · skip
                    have c_72' : r_9.toInt ≥ 0 := jb_ge (rfl) ((by decide)) c_72
                    refine lv_iload hx hb dX1_decode_145 (lv_at hl 2 rfl) ?_
                    have hd_74 := hh_8.iv 0 rfl
                    have hh_75 := hh_8.sub (L1 := [(r0, 3, 3, .int wl_5), (r0, 3, 2, .ref tx_)]) [0, 1] rfl (M1 := [(tx_, 173, 1500, ca 1, ft_5), (r1, 197, 4000, ca 0, fb)]) [0, 1] rfl (I1 := []) [] rfl
                    clear hh_8
                    have hd_74f := hh_75.at 1 rfl
                    refine j7_iastX hx hb hK hh_75 hB hB173 1 rfl (by decide) (by decide) rfl 0 rfl (M1 := [(r1, 197, 4000, ca 0, fb)]) [1] rfl rfl rfl hg_tx_ (x := wl_5.toInt) (rfl) (by omega) (trivial) dX1_decode_147 (fun H_73 locs_73 fs_76 hv_73 ho_73 hr_73 hh_73 => ?_)
                    have hv_73 : jSo fs_76 (wl_5.toInt) = r_9.toInt := by unfold jSo; rw [hv_73]; try exact rfl
                    clear hh_75
                    have hd_74n := jCD.arr hd_74 hg_r0 hg_tx_ hd_74f hr_73
                    have hh_77 := hh_73.addI (jCD.ie hd_74n)
                    clear hh_73
                    clear hd_74 hd_74f hd_74n hr_73
                    refine lv_aload_n hx hb dX1_decode_148 rfl (lv_at hl 3 rfl) ?_
                    refine lv_dup hx hb dX1_decode_149 rfl ?_
                    refine j7_read hx hb hown hK (C := RX1) (T := TX1) (N := 17) rfl hly_3_3 hlk_42 (hh_77.at 0 rfl) dX1_decode_150 ?_
                    refine lv_iload hx hb dX1_decode_153 (lv_at hl 0 rfl) ?_
                    refine lv_iadd hx hb dX1_decode_155 ?_
                    refine lv_topi (fun z_78 ez_78 => ?_)
                    have hz_78 : z_78.toInt = wl_5.toInt + 1 := by rw [ez_78]; exact jb_iadd2 (rfl) ((by decide)) (by omega)
                    have hd_80 := hh_77.iv 0 rfl
                    have hd_802 := hh_77.at 1 rfl
                    have hh_81 := hh_77.sub (L1 := [(r0, 3, 3, .int wl_5), (r0, 3, 2, .ref tx_)]) [0, 1] rfl (M1 := [(tx_, 173, 1500, ca 1, fs_76), (r1, 197, 4000, ca 0, fb)]) [0, 1] rfl (I1 := []) [] rfl
                    clear hh_77
                    refine j7_putX hx hb hown hK hh_81 hB hAp hB3 (C := RX1) (T := TX1) (N := 17) rfl (by decide) hg_r0 (i := 3) (by decide) hly_3_3 rfl hlk_42 rfl (ty := .int) (v := .int z_78) (by decide +kernel) rfl rfl (⟨_, rfl, by omega, by omega⟩) rfl (L1 := [(r0, 3, 2, .ref tx_)]) [1] rfl rfl rfl dX1_decode_156 (fun H_79 locs_79 hr_79 hh_79 => ?_)
                    clear hh_81
                    have hd_80n := jCD.fld hd_80 hg_r0 hr_79 hd_802 (hh_79.at 1 rfl)
                    have hh_82 := hh_79.addI (jCD.ie hd_80n)
                    clear hh_79
                    clear hd_80 hd_80n hd_802 hr_79
                    obtain ⟨z_83, ez_83⟩ : ∃ y : Int32, y = v4_5 + 1 := ⟨_, rfl⟩
                    refine lv_iinc (v := z_83) (lv' := [(4, .int z_83), (6, .int 1), (3, .int z_67), (5, .int r_9), (0, .ref r0), (1, .ref r1), (2, .int a2)]) hx hb dX1_decode_159 hl (k := 6) rfl (by rw [ez_83]; rfl) (by decide) rfl (fun ls hl => ?_)
                    have hz_83 : z_83.toInt = v4_5.toInt + 1 := by rw [ez_83]; exact jb_iadd2 (rfl) (by decide) (by omega)
                    refine lv_goto (tgt := 10) hx hb dX1_decode_162 (by decide) ?_
                    exact L10 z_67 z_83 z_78 fs_76 _ _ hh_82 (by refine ⟨by omega, by omega, by omega, by omega, by omega, by omega, ?_⟩; first | (exfalso; omega) | (exact hi_5_6.oneC (by omega) hr_9_0 (by omega) (jOth.ho (jOth.mk (n := 1500) ho_73 rfl (by omega)) rfl (by omega)) hv_73 (by omega) (by omega) (by omega))) (by omega) _ (lv_sub hl [4, 5, 6, 2, 0] rfl)
                  · skip
                    have c_72' : r_9.toInt < 0 := jb_ge_n (rfl) ((by decide)) c_72
                    refine lv_ldc hx hb hown hcs_68 dX1_decode_140 ?_
                    refine lv_goto (tgt := 147) hx hb dX1_decode_142 (by decide) ?_
                    have hd_85 := hh_8.iv 0 rfl
                    have hh_86 := hh_8.sub (L1 := [(r0, 3, 3, .int wl_5), (r0, 3, 2, .ref tx_)]) [0, 1] rfl (M1 := [(tx_, 173, 1500, ca 1, ft_5), (r1, 197, 4000, ca 0, fb)]) [0, 1] rfl (I1 := []) [] rfl
                    clear hh_8
                    have hd_85f := hh_86.at 1 rfl
                    refine j7_iastX hx hb hK hh_86 hB hB173 1 rfl (by decide) (by decide) rfl 0 rfl (M1 := [(r1, 197, 4000, ca 0, fb)]) [1] rfl rfl rfl hg_tx_ (x := wl_5.toInt) (rfl) (by omega) (trivial) dX1_decode_147 (fun H_84 locs_84 fs_87 hv_84 ho_84 hr_84 hh_84 => ?_)
                    have hv_84 : jSo fs_87 (wl_5.toInt) = 65533 := by unfold jSo; rw [hv_84]; try exact (by decide)
                    clear hh_86
                    have hd_85n := jCD.arr hd_85 hg_r0 hg_tx_ hd_85f hr_84
                    have hh_88 := hh_84.addI (jCD.ie hd_85n)
                    clear hh_84
                    clear hd_85 hd_85f hd_85n hr_84
                    refine lv_aload_n hx hb dX1_decode_148 rfl (lv_at hl 3 rfl) ?_
                    refine lv_dup hx hb dX1_decode_149 rfl ?_
                    refine j7_read hx hb hown hK (C := RX1) (T := TX1) (N := 17) rfl hly_3_3 hlk_42 (hh_88.at 0 rfl) dX1_decode_150 ?_
                    refine lv_iload hx hb dX1_decode_153 (lv_at hl 0 rfl) ?_
                    refine lv_iadd hx hb dX1_decode_155 ?_
                    refine lv_topi (fun z_89 ez_89 => ?_)
                    have hz_89 : z_89.toInt = wl_5.toInt + 1 := by rw [ez_89]; exact jb_iadd2 (rfl) ((by decide)) (by omega)
                    have hd_91 := hh_88.iv 0 rfl
                    have hd_912 := hh_88.at 1 rfl
                    have hh_92 := hh_88.sub (L1 := [(r0, 3, 3, .int wl_5), (r0, 3, 2, .ref tx_)]) [0, 1] rfl (M1 := [(tx_, 173, 1500, ca 1, fs_87), (r1, 197, 4000, ca 0, fb)]) [0, 1] rfl (I1 := []) [] rfl
                    clear hh_88
                    refine j7_putX hx hb hown hK hh_92 hB hAp hB3 (C := RX1) (T := TX1) (N := 17) rfl (by decide) hg_r0 (i := 3) (by decide) hly_3_3 rfl hlk_42 rfl (ty := .int) (v := .int z_89) (by decide +kernel) rfl rfl (⟨_, rfl, by omega, by omega⟩) rfl (L1 := [(r0, 3, 2, .ref tx_)]) [1] rfl rfl rfl dX1_decode_156 (fun H_90 locs_90 hr_90 hh_90 => ?_)
                    clear hh_92
                    have hd_91n := jCD.fld hd_91 hg_r0 hr_90 hd_912 (hh_90.at 1 rfl)
                    have hh_93 := hh_90.addI (jCD.ie hd_91n)
                    clear hh_90
                    clear hd_91 hd_91n hd_912 hr_90
                    obtain ⟨z_94, ez_94⟩ : ∃ y : Int32, y = v4_5 + 1 := ⟨_, rfl⟩
                    refine lv_iinc (v := z_94) (lv' := [(4, .int z_94), (6, .int 1), (3, .int z_67), (5, .int r_9), (0, .ref r0), (1, .ref r1), (2, .int a2)]) hx hb dX1_decode_159 hl (k := 6) rfl (by rw [ez_94]; rfl) (by decide) rfl (fun ls hl => ?_)
                    have hz_94 : z_94.toInt = v4_5.toInt + 1 := by rw [ez_94]; exact jb_iadd2 (rfl) (by decide) (by omega)
                    refine lv_goto (tgt := 10) hx hb dX1_decode_162 (by decide) ?_
                    exact L10 z_67 z_94 z_89 fs_87 _ _ hh_93 (by refine ⟨by omega, by omega, by omega, by omega, by omega, by omega, ?_⟩; first | (exfalso; omega) | (exact hi_5_6.oneC (by omega) hr_9_0 (by omega) (jOth.ho (jOth.mk (n := 1500) ho_84 rfl (by omega)) rfl (by omega)) hv_84 (by omega) (by omega) (by omega))) (by omega) _ (lv_sub hl [4, 5, 6, 2, 0] rfl)
                · skip
                  exact absurd c_71 (by decide)
              · skip
                have c_70' : z_69.toInt > 1500 := jb_le_n (rfl) ((by decide)) c_70
                refine lv_iconst (v := 0) hx hb dX1_decode_73 (by decide) ?_
                rw [hQ]
                exact W.zret (v := 0) hx hb hr (jb_nz (Or.inl rfl)) (fun t ht hW => ⟨⟨0, (wl_5, ft_5), rfl, ⟨(Or.inl rfl), by (try dsimp only); refine ⟨by omega, by omega, by omega, ?_⟩; exact Or.inl ⟨by omega, hi_5_6.long (by omega) hr_9_0 (s := 1) (by omega) (by omega)⟩⟩, ⟨⟨hh_8.rt (M1 := [(r0, 3, 3, .int wl_5)]) [0] rfl ht, by rw [ht]; exact hh_8.2.2.2.2.2.2.2.1.sub [0] rfl⟩, by rw [ht]; exact hh_8.2.2.2.2.2.2.2.2.sub (L1 := [(jFcd, jCD dC dI ca G0 (some r0) tq)]) [0] rfl⟩⟩, by rw [ht]; try exact hh_8.1.1, fun q h9 hq => by rw [ht]; try exact hh_8.1.2.1 q h9 hq⟩) hh_8.1.2.2 dX1_decode_74
            · skip
              have c_68' : r_9.toInt ≥ 65536 := jb_lt_n (rfl) ((by decide)) c_68
              refine lv_iconst (v := 2) hx hb dX1_decode_53 (by decide) ?_
              refine lv_goto (tgt := 58) hx hb dX1_decode_54 (by decide) ?_
              refine lv_istore (lv' := [(6, .int 2), (3, .int z_67), (5, .int r_9), (0, .ref r0), (1, .ref r1), (2, .int a2), (4, .int v4_5)]) hx hb dX1_decode_58 hl (by decide) rfl (fun ls hl => ?_)
              refine lv_aload_n hx hb dX1_decode_60 rfl (lv_at hl 3 rfl) ?_
              refine j7_read hx hb hown hK (C := RX1) (T := TX1) (N := 17) rfl hly_3_3 hlk_42 (hh_8.at 0 rfl) dX1_decode_61 ?_
              refine lv_iload hx hb dX1_decode_64 (lv_at hl 0 rfl) ?_
              refine lv_iadd hx hb dX1_decode_66 ?_
              refine lv_topi (fun z_95 ez_95 => ?_)
              have hz_95 : z_95.toInt = wl_5.toInt + 2 := by rw [ez_95]; exact jb_iadd2 (rfl) ((by decide)) (by omega)
              refine lv_sipush (v := 1500) hx hb dX1_decode_67 (by decide) ?_
              refine lv_icmp_le (tgt := 75) hx hb dX1_decode_70 (by decide) (fun c_96 => ?_) (fun c_96 => ?_)
              · skip
                have c_96' : z_95.toInt ≤ 1500 := jb_le (rfl) ((by decide)) c_96
                refine lv_iload hx hb dX1_decode_75 (lv_at hl 0 rfl) ?_
                refine lv_iconst (v := 2) hx hb dX1_decode_77 (by decide) ?_
                refine lv_icmp_ne (tgt := 127) hx hb dX1_decode_78 (by decide) (fun c_97 => ?_) (fun c_97 => ?_)
                · skip
                  exact absurd c_97 (by decide)
                · skip
                  refine lv_aload_n hx hb dX1_decode_81 rfl (lv_at hl 3 rfl) ?_
                  refine j7_read hx hb hown hK (C := RX1) (T := TX1) (N := 17) rfl hly_3_2 hlk_15 (hh_8.at 1 rfl) dX1_decode_82 ?_
                  refine lv_aload_n hx hb dX1_decode_85 rfl (lv_at hl 3 rfl) ?_
                  refine j7_read hx hb hown hK (C := RX1) (T := TX1) (N := 17) rfl hly_3_3 hlk_42 (hh_8.at 0 rfl) dX1_decode_86 ?_
                  refine lv_ldc hx hb hown hcs_66 dX1_decode_89 ?_
                  refine lv_iload hx hb dX1_decode_91 (lv_at hl 2 rfl) ?_
                  refine lv_ldc hx hb hown hcs_65 dX1_decode_93 ?_
                  refine lv_isub hx hb dX1_decode_95 ?_
                  refine lv_topi (fun z_98 ez_98 => ?_)
                  have hz_98 : z_98.toInt = r_9.toInt - 65536 := by rw [ez_98]; exact jb_isub2 (rfl) ((by decide)) (by omega)
                  refine lv_bipush (v := 10) hx hb dX1_decode_96 (by decide) ?_
                  refine lv_ishr hx hb dX1_decode_98 ?_
                  refine lv_topi (fun z_99 ez_99 => ?_)
                  have hz_99 : z_99.toInt = z_98.toInt / 2 ^ 10 := by rw [ez_99]; exact jb_ishr 10 (rfl) (by decide)
                  have hsr := jb_shr10 ez_99 (by omega)
                  refine lv_iadd hx hb dX1_decode_99 ?_
                  refine lv_topi (fun z_100 ez_100 => ?_)
                  have hz_100 : z_100.toInt = 55296 + z_99.toInt := by rw [ez_100]; exact jb_iadd2 ((by decide)) (rfl) (by omega)
                  have hd_102 := hh_8.iv 0 rfl
                  have hh_103 := hh_8.sub (L1 := [(r0, 3, 3, .int wl_5), (r0, 3, 2, .ref tx_)]) [0, 1] rfl (M1 := [(tx_, 173, 1500, ca 1, ft_5), (r1, 197, 4000, ca 0, fb)]) [0, 1] rfl (I1 := []) [] rfl
                  clear hh_8
                  have hd_102f := hh_103.at 1 rfl
                  refine j7_iastX hx hb hK hh_103 hB hB173 1 rfl (by decide) (by decide) rfl 0 rfl (M1 := [(r1, 197, 4000, ca 0, fb)]) [1] rfl rfl rfl hg_tx_ (x := wl_5.toInt) (rfl) (by omega) (trivial) dX1_decode_100 (fun H_101 locs_101 fs_104 hv_101 ho_101 hr_101 hh_101 => ?_)
                  have hv_101 : jSo fs_104 (wl_5.toInt) = z_100.toInt := by unfold jSo; rw [hv_101]; try exact rfl
                  clear hh_103
                  have hd_102n := jCD.arr hd_102 hg_r0 hg_tx_ hd_102f hr_101
                  have hh_105 := hh_101.addI (jCD.ie hd_102n)
                  clear hh_101
                  clear hd_102 hd_102f hd_102n hr_101
                  refine lv_aload_n hx hb dX1_decode_101 rfl (lv_at hl 3 rfl) ?_
                  refine j7_read hx hb hown hK (C := RX1) (T := TX1) (N := 17) rfl hly_3_2 hlk_15 (hh_105.at 1 rfl) dX1_decode_102 ?_
                  refine lv_aload_n hx hb dX1_decode_105 rfl (lv_at hl 3 rfl) ?_
                  refine j7_read hx hb hown hK (C := RX1) (T := TX1) (N := 17) rfl hly_3_3 hlk_42 (hh_105.at 0 rfl) dX1_decode_106 ?_
                  refine lv_iconst (v := 1) hx hb dX1_decode_109 (by decide) ?_
                  refine lv_iadd hx hb dX1_decode_110 ?_
                  refine lv_topi (fun z_106 ez_106 => ?_)
                  have hz_106 : z_106.toInt = wl_5.toInt + 1 := by rw [ez_106]; exact jb_iadd2 (rfl) ((by decide)) (by omega)
                  refine lv_ldc hx hb hown hcs_67 dX1_decode_111 ?_
                  refine lv_iload hx hb dX1_decode_113 (lv_at hl 2 rfl) ?_
                  refine lv_ldc hx hb hown hcs_65 dX1_decode_115 ?_
                  refine lv_isub hx hb dX1_decode_117 ?_
                  refine lv_topi (fun z_107 ez_107 => ?_)
                  have hz_107 : z_107.toInt = r_9.toInt - 65536 := by rw [ez_107]; exact jb_isub2 (rfl) ((by decide)) (by omega)
                  refine lv_sipush (v := 1023) hx hb dX1_decode_118 (by decide) ?_
                  refine lv_iand hx hb dX1_decode_121 ?_
                  refine lv_topi (fun z_108 ez_108 => ?_)
                  have hz_108 : 0 ≤ z_108.toInt ∧ z_108.toInt ≤ 1023 := by rw [ez_108]; exact jb_and z_107 (m := 1023) (k := 10) (by decide) (by decide)
                  have had := jb_a1023 ez_108
                  refine lv_iadd hx hb dX1_decode_122 ?_
                  refine lv_topi (fun z_109 ez_109 => ?_)
                  have hz_109 : z_109.toInt = 56320 + z_108.toInt := by rw [ez_109]; exact jb_iadd2 ((by decide)) (rfl) (by omega)
                  have hd_111 := hh_105.iv 0 rfl
                  have hh_112 := hh_105.sub (L1 := [(r0, 3, 3, .int wl_5), (r0, 3, 2, .ref tx_)]) [0, 1] rfl (M1 := [(tx_, 173, 1500, ca 1, fs_104), (r1, 197, 4000, ca 0, fb)]) [0, 1] rfl (I1 := []) [] rfl
                  clear hh_105
                  have hd_111f := hh_112.at 1 rfl
                  refine j7_iastX hx hb hK hh_112 hB hB173 1 rfl (by decide) (by decide) rfl 0 rfl (M1 := [(r1, 197, 4000, ca 0, fb)]) [1] rfl rfl rfl hg_tx_ (x := z_106.toInt) (rfl) (by omega) (trivial) dX1_decode_123 (fun H_110 locs_110 fs_113 hv_110 ho_110 hr_110 hh_110 => ?_)
                  have hv_110 : jSo fs_113 (z_106.toInt) = z_109.toInt := by unfold jSo; rw [hv_110]; try exact rfl
                  rw [show z_106.toInt = (wl_5.toInt + 1) by omega] at hv_110 ho_110
                  clear hh_112
                  have hd_111n := jCD.arr hd_111 hg_r0 hg_tx_ hd_111f hr_110
                  have hh_114 := hh_110.addI (jCD.ie hd_111n)
                  clear hh_110
                  clear hd_111 hd_111f hd_111n hr_110
                  refine lv_goto (tgt := 148) hx hb dX1_decode_124 (by decide) ?_
                  refine lv_aload_n hx hb dX1_decode_148 rfl (lv_at hl 3 rfl) ?_
                  refine lv_dup hx hb dX1_decode_149 rfl ?_
                  refine j7_read hx hb hown hK (C := RX1) (T := TX1) (N := 17) rfl hly_3_3 hlk_42 (hh_114.at 0 rfl) dX1_decode_150 ?_
                  refine lv_iload hx hb dX1_decode_153 (lv_at hl 0 rfl) ?_
                  refine lv_iadd hx hb dX1_decode_155 ?_
                  refine lv_topi (fun z_115 ez_115 => ?_)
                  have hz_115 : z_115.toInt = wl_5.toInt + 2 := by rw [ez_115]; exact jb_iadd2 (rfl) ((by decide)) (by omega)
                  have hd_117 := hh_114.iv 0 rfl
                  have hd_1172 := hh_114.at 1 rfl
                  have hh_118 := hh_114.sub (L1 := [(r0, 3, 3, .int wl_5), (r0, 3, 2, .ref tx_)]) [0, 1] rfl (M1 := [(tx_, 173, 1500, ca 1, fs_113), (r1, 197, 4000, ca 0, fb)]) [0, 1] rfl (I1 := []) [] rfl
                  clear hh_114
                  refine j7_putX hx hb hown hK hh_118 hB hAp hB3 (C := RX1) (T := TX1) (N := 17) rfl (by decide) hg_r0 (i := 3) (by decide) hly_3_3 rfl hlk_42 rfl (ty := .int) (v := .int z_115) (by decide +kernel) rfl rfl (⟨_, rfl, by omega, by omega⟩) rfl (L1 := [(r0, 3, 2, .ref tx_)]) [1] rfl rfl rfl dX1_decode_156 (fun H_116 locs_116 hr_116 hh_116 => ?_)
                  clear hh_118
                  have hd_117n := jCD.fld hd_117 hg_r0 hr_116 hd_1172 (hh_116.at 1 rfl)
                  have hh_119 := hh_116.addI (jCD.ie hd_117n)
                  clear hh_116
                  clear hd_117 hd_117n hd_1172 hr_116
                  obtain ⟨z_120, ez_120⟩ : ∃ y : Int32, y = v4_5 + 1 := ⟨_, rfl⟩
                  refine lv_iinc (v := z_120) (lv' := [(4, .int z_120), (6, .int 2), (3, .int z_67), (5, .int r_9), (0, .ref r0), (1, .ref r1), (2, .int a2)]) hx hb dX1_decode_159 hl (k := 6) rfl (by rw [ez_120]; rfl) (by decide) rfl (fun ls hl => ?_)
                  have hz_120 : z_120.toInt = v4_5.toInt + 1 := by rw [ez_120]; exact jb_iadd2 (rfl) (by decide) (by omega)
                  refine lv_goto (tgt := 10) hx hb dX1_decode_162 (by decide) ?_
                  exact L10 z_67 z_120 z_115 fs_113 _ _ hh_119 (by refine ⟨by omega, by omega, by omega, by omega, by omega, by omega, ?_⟩; first | (exfalso; omega) | (exact hi_5_6.twoC (by omega) hr_9_0 (by omega) (jOth.ho2 (jOth.mk (n := 1500) ho_101 rfl (by omega)) (jOth.mk (n := 1500) ho_110 rfl (by omega)) rfl (by omega) (by omega)) (((jOth.mk (n := 1500) ho_110 rfl (by omega) : jOth 1500 _ _ _) _ (by omega) (by omega) (by omega)).trans hv_101) (jSoA hv_110 (by omega)) (by omega) (by omega) (by omega) (by omega))) (by omega) _ (lv_sub hl [4, 5, 6, 2, 0] rfl)
              · skip
                have c_96' : z_95.toInt > 1500 := jb_le_n (rfl) ((by decide)) c_96
                refine lv_iconst (v := 0) hx hb dX1_decode_73 (by decide) ?_
                rw [hQ]
                exact W.zret (v := 0) hx hb hr (jb_nz (Or.inl rfl)) (fun t ht hW => ⟨⟨0, (wl_5, ft_5), rfl, ⟨(Or.inl rfl), by (try dsimp only); refine ⟨by omega, by omega, by omega, ?_⟩; exact Or.inl ⟨by omega, hi_5_6.long (by omega) hr_9_0 (s := 2) (by omega) (by omega)⟩⟩, ⟨⟨hh_8.rt (M1 := [(r0, 3, 3, .int wl_5)]) [0] rfl ht, by rw [ht]; exact hh_8.2.2.2.2.2.2.2.1.sub [0] rfl⟩, by rw [ht]; exact hh_8.2.2.2.2.2.2.2.2.sub (L1 := [(jFcd, jCD dC dI ca G0 (some r0) tq)]) [0] rfl⟩⟩, by rw [ht]; try exact hh_8.1.1, fun q h9 hq => by rw [ht]; try exact hh_8.1.2.1 q h9 hq⟩) hh_8.1.2.2 dX1_decode_74
  exact L10 (((a2.toInt - (0 : Int32).toInt).toNat : Int) : Int).toNat.succ 0 0 0 ft _ _ (hh_4.sub (L1 := [(r0, 3, 3, .int 0), (r0, 3, 2, .ref tx_)]) [0, 1] rfl (M1 := [(tx_, 173, 1500, ca 1, ft), (r1, 197, 4000, ca 0, fb)]) [1, 0] rfl (I1 := [(jFcd, jCD dC dI ca G0 (some r0) tq)]) [0] rfl) (by refine ⟨by omega, by omega, by omega, by omega, by omega, by omega, jDe.start _ _ _ (by omega) (by omega)⟩) (by omega) _ (lv_sub hl [2, 3, 4, 1, 0] rfl)
end
