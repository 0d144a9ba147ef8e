theorem dX11_batch_0 : decode cX11_batch 0 = .ok (.iload_n 1, 1) := by decide +kernel
theorem dX11_batch_1 : decode cX11_batch 1 = .ok (.ifCond .lt 14, 3) := by decide +kernel
theorem dX11_batch_4 : decode cX11_batch 4 = .ok (.iload_n 1, 1) := by decide +kernel
theorem dX11_batch_5 : decode cX11_batch 5 = .ok (.aload_n 0, 1) := by decide +kernel
theorem dX11_batch_6 : decode cX11_batch 6 = .ok (.getfield 14, 3) := by decide +kernel
theorem dX11_batch_9 : decode cX11_batch 9 = .ok (.getfield 92, 3) := by decide +kernel
theorem dX11_batch_12 : decode cX11_batch 12 = .ok (.if_icmp .le 5, 3) := by decide +kernel
theorem dX11_batch_15 : decode cX11_batch 15 = .ok (.iconst (-1), 1) := by decide +kernel
theorem dX11_batch_16 : decode cX11_batch 16 = .ok (.ireturn, 1) := by decide +kernel
theorem dX11_batch_17 : decode cX11_batch 17 = .ok (.aload_n 0, 1) := by decide +kernel
theorem dX11_batch_18 : decode cX11_batch 18 = .ok (.getfield 14, 3) := by decide +kernel
theorem dX11_batch_21 : decode cX11_batch 21 = .ok (.iconst 0, 1) := by decide +kernel
theorem dX11_batch_22 : decode cX11_batch 22 = .ok (.putfield 92, 3) := by decide +kernel
theorem dX11_batch_25 : decode cX11_batch 25 = .ok (.aload_n 0, 1) := by decide +kernel
theorem dX11_batch_26 : decode cX11_batch 26 = .ok (.getfield 82, 3) := by decide +kernel
theorem dX11_batch_29 : decode cX11_batch 29 = .ok (.astore_n 2, 1) := by decide +kernel
theorem dX11_batch_30 : decode cX11_batch 30 = .ok (.aload_n 2, 1) := by decide +kernel
theorem dX11_batch_31 : decode cX11_batch 31 = .ok (.aload_n 0, 1) := by decide +kernel
theorem dX11_batch_32 : decode cX11_batch 32 = .ok (.getfield 14, 3) := by decide +kernel
theorem dX11_batch_35 : decode cX11_batch 35 = .ok (.getfield 98, 3) := by decide +kernel
theorem dX11_batch_38 : decode cX11_batch 38 = .ok (.iload_n 1, 1) := by decide +kernel
theorem dX11_batch_39 : decode cX11_batch 39 = .ok (.invokevirtual 196, 3) := by decide +kernel
theorem dX11_batch_42 : decode cX11_batch 42 = .ok (.ifCond .ne 6, 3) := by decide +kernel
theorem dX11_batch_45 : decode cX11_batch 45 = .ok (.bipush (-2), 2) := by decide +kernel
theorem dX11_batch_47 : decode cX11_batch 47 = .ok (.ireturn, 1) := by decide +kernel
theorem dX11_batch_48 : decode cX11_batch 48 = .ok (.aload_n 0, 1) := by decide +kernel
theorem dX11_batch_49 : decode cX11_batch 49 = .ok (.aload_n 0, 1) := by decide +kernel
theorem dX11_batch_50 : decode cX11_batch 50 = .ok (.getfield 200, 3) := by decide +kernel
theorem dX11_batch_53 : decode cX11_batch 53 = .ok (.ifnonnull 13, 3) := by decide +kernel
theorem dX11_batch_56 : decode cX11_batch 56 = .ok (.new 71, 3) := by decide +kernel
theorem dX11_batch_59 : decode cX11_batch 59 = .ok (.dup, 1) := by decide +kernel
theorem dX11_batch_60 : decode cX11_batch 60 = .ok (.invokespecial 81, 3) := by decide +kernel
theorem dX11_batch_63 : decode cX11_batch 63 = .ok (.goto 7, 3) := by decide +kernel
theorem dX11_batch_66 : decode cX11_batch 66 = .ok (.aload_n 0, 1) := by decide +kernel
theorem dX11_batch_67 : decode cX11_batch 67 = .ok (.getfield 200, 3) := by decide +kernel
theorem dX11_batch_70 : decode cX11_batch 70 = .ok (.putfield 82, 3) := by decide +kernel
theorem dX11_batch_73 : decode cX11_batch 73 = .ok (.aload_n 0, 1) := by decide +kernel
theorem dX11_batch_74 : decode cX11_batch 74 = .ok (.aload_n 2, 1) := by decide +kernel
theorem dX11_batch_75 : decode cX11_batch 75 = .ok (.putfield 200, 3) := by decide +kernel
theorem dX11_batch_78 : decode cX11_batch 78 = .ok (.aload_n 0, 1) := by decide +kernel
theorem dX11_batch_79 : decode cX11_batch 79 = .ok (.bipush (-2), 2) := by decide +kernel
theorem dX11_batch_81 : decode cX11_batch 81 = .ok (.putfield 89, 3) := by decide +kernel
theorem dX11_batch_84 : decode cX11_batch 84 = .ok (.aload_n 2, 1) := by decide +kernel
theorem dX11_batch_85 : decode cX11_batch 85 = .ok (.aload_n 0, 1) := by decide +kernel
theorem dX11_batch_86 : decode cX11_batch 86 = .ok (.getfield 41, 3) := by decide +kernel
theorem dX11_batch_89 : decode cX11_batch 89 = .ok (.getfield 203, 3) := by decide +kernel
theorem dX11_batch_92 : decode cX11_batch 92 = .ok (.invokevirtual 207, 3) := by decide +kernel
theorem dX11_batch_95 : decode cX11_batch 95 = .ok (.iconst 0, 1) := by decide +kernel
theorem dX11_batch_96 : decode cX11_batch 96 = .ok (.istore_n 3, 1) := by decide +kernel
theorem dX11_batch_97 : decode cX11_batch 97 = .ok (.iload_n 3, 1) := by decide +kernel
theorem dX11_batch_98 : decode cX11_batch 98 = .ok (.aload_n 2, 1) := by decide +kernel
theorem dX11_batch_99 : decode cX11_batch 99 = .ok (.getfield 168, 3) := by decide +kernel
theorem dX11_batch_102 : decode cX11_batch 102 = .ok (.if_icmp .ge 63, 3) := by decide +kernel
theorem dX11_batch_105 : decode cX11_batch 105 = .ok (.aload_n 2, 1) := by decide +kernel
theorem dX11_batch_106 : decode cX11_batch 106 = .ok (.getfield 174, 3) := by decide +kernel
theorem dX11_batch_109 : decode cX11_batch 109 = .ok (.aload_n 2, 1) := by decide +kernel
theorem dX11_batch_110 : decode cX11_batch 110 = .ok (.getfield 182, 3) := by decide +kernel
theorem dX11_batch_113 : decode cX11_batch 113 = .ok (.iload_n 3, 1) := by decide +kernel
theorem dX11_batch_114 : decode cX11_batch 114 = .ok (.iaload, 1) := by decide +kernel
theorem dX11_batch_115 : decode cX11_batch 115 = .ok (.aload_n 2, 1) := by decide +kernel
theorem dX11_batch_116 : decode cX11_batch 116 = .ok (.getfield 185, 3) := by decide +kernel
theorem dX11_batch_119 : decode cX11_batch 119 = .ok (.iload_n 3, 1) := by decide +kernel
theorem dX11_batch_120 : decode cX11_batch 120 = .ok (.iaload, 1) := by decide +kernel
theorem dX11_batch_121 : decode cX11_batch 121 = .ok (.invokestatic 211, 3) := by decide +kernel
theorem dX11_batch_124 : decode cX11_batch 124 = .ok (.astore 4, 2) := by decide +kernel
theorem dX11_batch_126 : decode cX11_batch 126 = .ok (.aload_n 2, 1) := by decide +kernel
theorem dX11_batch_127 : decode cX11_batch 127 = .ok (.getfield 178, 3) := by decide +kernel
theorem dX11_batch_130 : decode cX11_batch 130 = .ok (.iload_n 3, 1) := by decide +kernel
theorem dX11_batch_131 : decode cX11_batch 131 = .ok (.aload_n 0, 1) := by decide +kernel
theorem dX11_batch_132 : decode cX11_batch 132 = .ok (.getfield 41, 3) := by decide +kernel
theorem dX11_batch_135 : decode cX11_batch 135 = .ok (.aload_n 2, 1) := by decide +kernel
theorem dX11_batch_136 : decode cX11_batch 136 = .ok (.iload_n 3, 1) := by decide +kernel
theorem dX11_batch_137 : decode cX11_batch 137 = .ok (.aload_n 0, 1) := by decide +kernel
theorem dX11_batch_138 : decode cX11_batch 138 = .ok (.getfield 41, 3) := by decide +kernel
theorem dX11_batch_141 : decode cX11_batch 141 = .ok (.getfield 217, 3) := by decide +kernel
theorem dX11_batch_144 : decode cX11_batch 144 = .ok (.invokevirtual 221, 3) := by decide +kernel
theorem dX11_batch_147 : decode cX11_batch 147 = .ok (.aload 4, 2) := by decide +kernel
theorem dX11_batch_149 : decode cX11_batch 149 = .ok (.aload_n 2, 1) := by decide +kernel
theorem dX11_batch_150 : decode cX11_batch 150 = .ok (.getfield 225, 3) := by decide +kernel
theorem dX11_batch_153 : decode cX11_batch 153 = .ok (.iload_n 3, 1) := by decide +kernel
theorem dX11_batch_154 : decode cX11_batch 154 = .ok (.iaload, 1) := by decide +kernel
theorem dX11_batch_155 : decode cX11_batch 155 = .ok (.invokevirtual 228, 3) := by decide +kernel
theorem dX11_batch_158 : decode cX11_batch 158 = .ok (.aastore, 1) := by decide +kernel
theorem dX11_batch_159 : decode cX11_batch 159 = .ok (.iinc 3 1, 3) := by decide +kernel
theorem dX11_batch_162 : decode cX11_batch 162 = .ok (.goto (-65), 3) := by decide +kernel
theorem dX11_batch_165 : decode cX11_batch 165 = .ok (.aload_n 2, 1) := by decide +kernel
theorem dX11_batch_166 : decode cX11_batch 166 = .ok (.getfield 168, 3) := by decide +kernel
theorem dX11_batch_169 : decode cX11_batch 169 = .ok (.ireturn, 1) := by decide +kernel
def EX0_decodedT : List (Nat × Nat) := []
def EX1_decodeT : List (Nat × Nat) := [(3, 3), (101, 0)]
def EX11_batch : List (Nat × Nat) := [(2, 1), (3, 3), (3, 4), (7, 5), (7, 10), (8, 3), (11, 2), (11, 3), (11, 4), (11, 5), (11, 6), (11, 7), (11, 8), (12, 3), (12, 4), (12, 5), (12, 7), (12, 8), (12, 10), (13, 15), (13, 16), (13, 18), (101, 0), (102, 0), (132, 0), (133, 0), (171, 0), (172, 0), (210, 0), (211, 0), (280, 0), (290, 0), (291, 0), (292, 0), (293, 0)]
set_option maxHeartbeats 4000000 in
set_option maxRecDepth 20000 in
theorem uX0_decodedT (l : Launch) (dC : Nat → ClassId) (dI : Nat → Nat → Nat) (ca : Nat → ClassId) (base : Nat) (B : jF) (hB : jBok B) (hAp : jAp (dC, dI)) (hB196 : ∀ n G a H, B 196 n G a H ↔ jAr (dC, dI) (ca 0) (fun j z => jBf j z) n a H) (G0 : jT) (H0 : Heap) (r0 : Nat) (a1 : Int32) (a2 : Int32) (n0 : Nat) : Met l yX0_decoded (jw yX0_decoded cX0_decoded 8 (some .int)) ({ frames := 0, cells := 0, slots := 0, locals := 0 }) (va_Pc [.ref r0, .int a1, .int a2] (fun U => U.heap = H0 ∧ jX B base G0 [] H0 ∧ jG dC dI ca base U ∧ G0 r0 = some (196, n0) ∧ jP (dC, dI) G0 H0 [] ∧ n0 < 1000000 ∧ a2.toInt ≤ 1000000)) (va_Qi (S := Unit) (fun r u => (True)) (fun u t => jRt (dC, dI) B base G0 EX0_decodedT H0 [] t.heap) (jA base)) 0 0 (jA base) := by
  refine Met.ofW (cc := cX0_decoded) (maxL := 8) (ret := (some .int)) (by decide) rfl ?_
  intro p e s m args below meth c s₁ Bd hml hv
  obtain ⟨rfl, hH0, hX, hG, hg_r0, hP0, hp0, hp1⟩ := hv
  have hK := hG.1
  have hx := Bd.exec
  have hb := Bd.bytes
  have hr := Bd.returns
  have hts := atoms_spec (ws := (jw yX0_decoded cX0_decoded 8 (some .int))) Bd.pre
  have htw : ∀ w ∈ jWl, w.before _ s = true := fun w h => hts w (List.mem_cons_of_mem _ h)
  have hown : s.vm.findClass RX0 = some m.cls := findClass_of_methodNamed Bd.named
  have hlocks := Bd.notSynchronized
  obtain ⟨Q, hQ⟩ : ∃ Q, Q = MQ below (va_Qi (S := Unit) (fun r u => (True)) (fun u t => jRt (dC, dI) B base G0 EX0_decodedT H0 [] t.heap) (jA base)) ([.ref r0, .int a1, .int a2] : List Value).toArray s 0 0 (jA base) := ⟨_, rfl⟩
  rw [← hQ]
  have hl := lv_entry ([.ref r0, .int a1, .int a2]) (n := 8) (Nat.le_of_ble_eq_true rfl)
  rw [lg_entry_eq]
  generalize (lg_sl ([.ref r0, .int a1, .int a2]) ++ List.replicate (8 - (lg_sl ([.ref r0, .int a1, .int a2])).length) Slot.unset).toArray = ls at hl ⊢
  have hl : lv_has ls 8 [(0, .ref r0), (1, .int a1), (2, .int a2)] := hl
  generalize hR : (headSpec (jw yX0_decoded cX0_decoded 8 (some .int)) ({ frames := 0, cells := 0, slots := 0, locals := 0 })).room = R
  subst hH0
  have hh : jSt (dC, dI) B base G0 G0 EX0_decodedT s.heap 0 0 [] [] [] s.heap [] := jSt.start hX hP0 jMc.nil jIs.nil
  clear hX hP0
  have hkm1 : ((-1) : Int32).toInt = (-1) := by decide
  have hk0 : (0 : Int32).toInt = 0 := by decide
  have hk1 : (1 : Int32).toInt = 1 := by decide
  have hk2 : (2 : Int32).toInt = 2 := by decide
  have hk3 : (3 : Int32).toInt = 3 := by decide
  have hk6 : (6 : Int32).toInt = 6 := by decide
  have hk63 : (63 : Int32).toInt = 63 := by decide
  have hk128 : (128 : Int32).toInt = 128 := by decide
  have hk192 : (192 : Int32).toInt = 192 := by decide
  have hk194 : (194 : Int32).toInt = 194 := by decide
  have hk224 : (224 : Int32).toInt = 224 := by decide
  have hk240 : (240 : Int32).toInt = 240 := by decide
  have hk244 : (244 : Int32).toInt = 244 := by decide
  have hk255 : (255 : Int32).toInt = 255 := by decide
  have hk2048 : (2048 : Int32).toInt = 2048 := by decide
  have hk55296 : (55296 : Int32).toInt = 55296 := by decide
  have hk57344 : (57344 : Int32).toInt = 57344 := by decide
  have hk65536 : (65536 : Int32).toInt = 65536 := by decide
  have hk1114111 : (1114111 : Int32).toInt = 1114111 := by decide
  have hcs_60 := htw (.constant RX0 60 65536) (jWr_20 _ (List.mem_of_getElem? (i := 15) rfl))
  have hcs_74 := htw (.constant RX0 74 1114111) (jWr_20 _ (List.mem_of_getElem? (i := 16) rfl))
  have hcs_61 := htw (.constant RX0 61 55296) (jWr_20 _ (List.mem_of_getElem? (i := 17) rfl))
  have hcs_73 := htw (.constant RX0 73 57344) (jWr_20 _ (List.mem_of_getElem? (i := 18) rfl))
  have hrg_a1 := jb_rng a1
  have hrg_a2 := jb_rng a2
  refine lv_iload_n hx hb dX0_decoded_0 rfl (lv_at hl 1 rfl) ?_
  refine lv_if_lt (tgt := 15) hx hb dX0_decoded_1 (by decide) (fun c_1 => ?_) (fun c_1 => ?_)
  · skip
    have c_1' : a1.toInt < 0 := jb_lt (rfl) ((by decide)) c_1
    refine lv_iconst (v := (-1)) hx hb dX0_decoded_15 (by decide) ?_
    rw [hQ]
    exact W.iret (v := (-1)) hx hb hr (fun t ht hW => ⟨⟨(-1), (), rfl, trivial, hh.rt (M1 := []) [] rfl ht⟩, by rw [ht]; try exact hh.1.1, fun q h9 hq => by rw [ht]; try exact hh.1.2.1 q h9 hq⟩) hh.1.2.2 dX0_decoded_16
  · skip
    have c_1' : a1.toInt ≥ 0 := jb_lt_n (rfl) ((by decide)) c_1
    refine lv_iload_n hx hb dX0_decoded_4 rfl (lv_at hl 1 rfl) ?_
    refine lv_iload_n hx hb dX0_decoded_5 rfl (lv_at hl 2 rfl) ?_
    refine lv_icmp_ge (tgt := 15) hx hb dX0_decoded_6 (by decide) (fun c_2 => ?_) (fun c_2 => ?_)
    · skip
      have c_2' : a1.toInt ≥ a2.toInt := jb_ge (rfl) (rfl) c_2
      refine lv_iconst (v := (-1)) hx hb dX0_decoded_15 (by decide) ?_
      rw [hQ]
      exact W.iret (v := (-1)) hx hb hr (fun t ht hW => ⟨⟨(-1), (), rfl, trivial, hh.rt (M1 := []) [] rfl ht⟩, by rw [ht]; try exact hh.1.1, fun q h9 hq => by rw [ht]; try exact hh.1.2.1 q h9 hq⟩) hh.1.2.2 dX0_decoded_16
    · skip
      have c_2' : a1.toInt < a2.toInt := jb_ge_n (rfl) (rfl) c_2
      refine lv_iload_n hx hb dX0_decoded_9 rfl (lv_at hl 2 rfl) ?_
      refine lv_aload_n hx hb dX0_decoded_10 rfl (lv_at hl 0 rfl) ?_
      refine j7_len hx hb hK hh hB196 0 rfl (by decide) hg_r0 (by omega) dX0_decoded_11 (fun z_3 hz_3 => ?_)
      refine lv_icmp_le (tgt := 17) hx hb dX0_decoded_12 (by decide) (fun c_4 => ?_) (fun c_4 => ?_)
      · skip
        have c_4' : a2.toInt ≤ z_3.toInt := jb_le (rfl) (rfl) c_4
        refine lv_aload_n hx hb dX0_decoded_17 rfl (lv_at hl 0 rfl) ?_
        refine lv_iload_n hx hb dX0_decoded_18 rfl (lv_at hl 1 rfl) ?_
        refine j7_bald hx hb hK hh hB196 0 rfl (by decide) hg_r0 (x := a1.toInt) (rfl) (by omega) dX0_decoded_19 (fun z_5 (hz_5 : jBf (a1.toInt).toNat z_5) => ?_)
        refine lv_sipush (v := 255) hx hb dX0_decoded_20 (by decide) ?_
        refine lv_iand hx hb dX0_decoded_23 ?_
        refine lv_topi (fun z_6 ez_6 => ?_)
        have hz_6 : 0 ≤ z_6.toInt ∧ z_6.toInt ≤ 255 := by rw [ez_6]; exact jb_and z_5 (m := 255) (k := 8) (by decide) (by decide)
        refine lv_istore_n (lv' := [(3, .int z_6), (0, .ref r0), (1, .int a1), (2, .int a2)]) hx hb dX0_decoded_24 rfl hl (by decide) rfl (fun ls hl => ?_)
        refine lv_iload_n hx hb dX0_decoded_25 rfl (lv_at hl 0 rfl) ?_
        refine lv_sipush (v := 128) hx hb dX0_decoded_26 (by decide) ?_
        refine lv_icmp_ge (tgt := 34) hx hb dX0_decoded_29 (by decide) (fun c_7 => ?_) (fun c_7 => ?_)
        · skip
          have c_7' : z_6.toInt ≥ 128 := jb_ge (rfl) ((by decide)) c_7
          refine lv_iload_n hx hb dX0_decoded_34 rfl (lv_at hl 0 rfl) ?_
          refine lv_sipush (v := 240) hx hb dX0_decoded_35 (by decide) ?_
          have C57 : ∀ (w0_8 : Int32) (H_8 : Heap) (locs_8 : List Loc), jSt (dC, dI) B base G0 G0 EX0_decodedT s.heap 0 0 [] [] [] H_8 locs_8 → (1 ≤ w0_8.toInt ∧ w0_8.toInt ≤ 3) → ∀ ls : Array Slot, lv_has ls 8 [(0, .ref r0), (1, .int a1), (2, .int a2), (3, .int z_6)] → W p l e R s m ([.ref r0, .int a1, .int a2] : List Value).toArray below meth c H_8 locs_8 0 0 Q (F0 m 57 ls [.int w0_8]) := by
            intro w0_8 H_8 locs_8 hh_8  hi_8 ls hl
            obtain ⟨hi_8_0, hi_8_1⟩ := hi_8
            refine lv_istore (lv' := [(4, .int w0_8), (0, .ref r0), (1, .int a1), (2, .int a2), (3, .int z_6)]) hx hb dX0_decoded_57 hl (by decide) rfl (fun ls hl => ?_)
            refine lv_iload_n hx hb dX0_decoded_59 rfl (lv_at hl 4 rfl) ?_
            refine lv_sipush (v := 194) hx hb dX0_decoded_60 (by decide) ?_
            refine lv_icmp_lt (tgt := 81) hx hb dX0_decoded_63 (by decide) (fun c_9 => ?_) (fun c_9 => ?_)
            · skip
              have c_9' : z_6.toInt < 194 := jb_lt (rfl) ((by decide)) c_9
              refine lv_iconst (v := (-1)) hx hb dX0_decoded_81 (by decide) ?_
              rw [hQ]
              exact W.iret (v := (-1)) hx hb hr (fun t ht hW => ⟨⟨(-1), (), rfl, trivial, hh_8.rt (M1 := []) [] rfl ht⟩, by rw [ht]; try exact hh_8.1.1, fun q h9 hq => by rw [ht]; try exact hh_8.1.2.1 q h9 hq⟩) hh_8.1.2.2 dX0_decoded_82
            · skip
              have c_9' : z_6.toInt ≥ 194 := jb_lt_n (rfl) ((by decide)) c_9
              refine lv_iload_n hx hb dX0_decoded_66 rfl (lv_at hl 4 rfl) ?_
              refine lv_sipush (v := 244) hx hb dX0_decoded_67 (by decide) ?_
              refine lv_icmp_gt (tgt := 81) hx hb dX0_decoded_70 (by decide) (fun c_10 => ?_) (fun c_10 => ?_)
              · skip
                have c_10' : z_6.toInt > 244 := jb_gt (rfl) ((by decide)) c_10
                refine lv_iconst (v := (-1)) hx hb dX0_decoded_81 (by decide) ?_
                rw [hQ]
                exact W.iret (v := (-1)) hx hb hr (fun t ht hW => ⟨⟨(-1), (), rfl, trivial, hh_8.rt (M1 := []) [] rfl ht⟩, by rw [ht]; try exact hh_8.1.1, fun q h9 hq => by rw [ht]; try exact hh_8.1.2.1 q h9 hq⟩) hh_8.1.2.2 dX0_decoded_82
              · skip
                have c_10' : z_6.toInt ≤ 244 := jb_gt_n (rfl) ((by decide)) c_10
                refine lv_iload hx hb dX0_decoded_73 (lv_at hl 0 rfl) ?_
                refine lv_iload_n hx hb dX0_decoded_75 rfl (lv_at hl 3 rfl) ?_
                refine lv_iload_n hx hb dX0_decoded_76 rfl (lv_at hl 2 rfl) ?_
                refine lv_isub hx hb dX0_decoded_77 ?_
                refine lv_topi (fun z_11 ez_11 => ?_)
                have hz_11 : z_11.toInt = a2.toInt - a1.toInt := by rw [ez_11]; exact jb_isub2 (rfl) (rfl) (by omega)
                refine lv_icmp_lt (tgt := 83) hx hb dX0_decoded_78 (by decide) (fun c_12 => ?_) (fun c_12 => ?_)
                · skip
                  have c_12' : w0_8.toInt < z_11.toInt := jb_lt (rfl) (rfl) c_12
                  refine lv_iload_n hx hb dX0_decoded_83 rfl (lv_at hl 4 rfl) ?_
                  refine lv_bipush (v := 63) hx hb dX0_decoded_84 (by decide) ?_
                  refine lv_iload hx hb dX0_decoded_86 (lv_at hl 0 rfl) ?_
                  refine lv_ishr hx hb dX0_decoded_88 ?_
                  refine lv_topi (fun z_13 ez_13 => ?_)
                  refine lv_iand hx hb dX0_decoded_89 ?_
                  refine lv_topi (fun z_14 ez_14 => ?_)
                  refine lv_istore (lv' := [(5, .int z_14), (4, .int w0_8), (0, .ref r0), (1, .int a1), (2, .int a2), (3, .int z_6)]) hx hb dX0_decoded_90 hl (by decide) rfl (fun ls hl => ?_)
                  refine lv_iconst (v := 1) hx hb dX0_decoded_92 (by decide) ?_
                  refine lv_istore (lv' := [(6, .int 1), (5, .int z_14), (4, .int w0_8), (0, .ref r0), (1, .int a1), (2, .int a2), (3, .int z_6)]) hx hb dX0_decoded_93 hl (by decide) rfl (fun ls hl => ?_)
                  have L95 : ∀ (N : Nat) (v5_15 : Int32) (v6_15 : Int32) (H_15 : Heap) (locs_15 : List Loc), jSt (dC, dI) B base G0 G0 EX0_decodedT s.heap 0 0 [] [] [] H_15 locs_15 → (1 ≤ v6_15.toInt ∧ v6_15.toInt ≤ w0_8.toInt + 1) → (w0_8.toInt + 1 - v6_15.toInt : Int) < N → ∀ ls : Array Slot, lv_has ls 8 [(0, .ref r0), (1, .int a1), (2, .int a2), (3, .int z_6), (4, .int w0_8), (5, .int v5_15), (6, .int v6_15)] → W p l e R s m ([.ref r0, .int a1, .int a2] : List Value).toArray below meth c H_15 locs_15 0 0 Q (F0 m 95 ls []) := by
                    intro N
                    induction N with
                    | zero => intro v5_15 v6_15 H_15 locs_15 hh_15  hi_15 hm; exact absurd hm (by omega)
                    | succ N L95 =>
                      intro v5_15 v6_15 H_15 locs_15 hh_15  hi_15 hm_15 ls hl
                      obtain ⟨hi_15_0, hi_15_1⟩ := hi_15
                      refine lv_iload hx hb dX0_decoded_95 (lv_at hl 6 rfl) ?_
                      refine lv_iload hx hb dX0_decoded_97 (lv_at hl 4 rfl) ?_
                      refine lv_icmp_gt (tgt := 147) hx hb dX0_decoded_99 (by decide) (fun c_16 => ?_) (fun c_16 => ?_)
                      · skip
                        have c_16' : v6_15.toInt > w0_8.toInt := jb_gt (rfl) (rfl) c_16
                        refine lv_iload hx hb dX0_decoded_147 (lv_at hl 4 rfl) ?_
                        refine lv_iconst (v := 2) hx hb dX0_decoded_149 (by decide) ?_
                        refine lv_icmp_ne (tgt := 161) hx hb dX0_decoded_150 (by decide) (fun c_17 => ?_) (fun c_17 => ?_)
                        · skip
                          have c_17' : w0_8.toInt ≠ 2 := jb_ne (rfl) ((by decide)) c_17
                          refine lv_iload hx hb dX0_decoded_161 (lv_at hl 4 rfl) ?_
                          refine lv_iconst (v := 3) hx hb dX0_decoded_163 (by decide) ?_
                          refine lv_icmp_ne (tgt := 178) hx hb dX0_decoded_164 (by decide) (fun c_18 => ?_) (fun c_18 => ?_)
                          · skip
                            have c_18' : w0_8.toInt ≠ 3 := jb_ne (rfl) ((by decide)) c_18
                            refine lv_iconst (v := 0) hx hb dX0_decoded_178 (by decide) ?_
                            refine lv_istore (lv' := [(6, .int 0), (0, .ref r0), (1, .int a1), (2, .int a2), (3, .int z_6), (4, .int w0_8), (5, .int v5_15)]) hx hb dX0_decoded_179 hl (by decide) rfl (fun ls hl => ?_)
                            refine lv_iload hx hb dX0_decoded_181 (lv_at hl 0 rfl) ?_
                            refine lv_if_ne (tgt := 207) hx hb dX0_decoded_183 (by decide) (fun c_19 => ?_) (fun c_19 => ?_)
                            · skip
                              exact absurd c_19 (by decide)
                            · skip
                              refine lv_iload hx hb dX0_decoded_186 (lv_at hl 6 rfl) ?_
                              refine lv_ldc hx hb hown hcs_74 dX0_decoded_188 ?_
                              refine lv_icmp_gt (tgt := 207) hx hb dX0_decoded_190 (by decide) (fun c_20 => ?_) (fun c_20 => ?_)
                              · skip
                                have c_20' : v5_15.toInt > 1114111 := jb_gt (rfl) ((by decide)) c_20
                                refine lv_iconst (v := (-1)) hx hb dX0_decoded_207 (by decide) ?_
                                refine lv_goto (tgt := 213) hx hb dX0_decoded_208 (by decide) ?_
                                rw [hQ]
                                exact W.iret (v := (-1)) hx hb hr (fun t ht hW => ⟨⟨(-1), (), rfl, trivial, hh_15.rt (M1 := []) [] rfl ht⟩, by rw [ht]; try exact hh_15.1.1, fun q h9 hq => by rw [ht]; try exact hh_15.1.2.1 q h9 hq⟩) hh_15.1.2.2 dX0_decoded_213
                              · skip
                                have c_20' : v5_15.toInt ≤ 1114111 := jb_gt_n (rfl) ((by decide)) c_20
                                refine lv_iload hx hb dX0_decoded_193 (lv_at hl 6 rfl) ?_
                                refine lv_ldc hx hb hown hcs_61 dX0_decoded_195 ?_
                                refine lv_icmp_lt (tgt := 211) hx hb dX0_decoded_197 (by decide) (fun c_21 => ?_) (fun c_21 => ?_)
                                · skip
                                  have c_21' : v5_15.toInt < 55296 := jb_lt (rfl) ((by decide)) c_21
                                  refine lv_iload hx hb dX0_decoded_211 (lv_at hl 6 rfl) ?_
                                  rw [hQ]
                                  exact W.iret (v := v5_15) hx hb hr (fun t ht hW => ⟨⟨v5_15, (), rfl, trivial, hh_15.rt (M1 := []) [] rfl ht⟩, by rw [ht]; try exact hh_15.1.1, fun q h9 hq => by rw [ht]; try exact hh_15.1.2.1 q h9 hq⟩) hh_15.1.2.2 dX0_decoded_213
                                · skip
                                  have c_21' : v5_15.toInt ≥ 55296 := jb_lt_n (rfl) ((by decide)) c_21
                                  refine lv_iload hx hb dX0_decoded_200 (lv_at hl 6 rfl) ?_
                                  refine lv_ldc hx hb hown hcs_73 dX0_decoded_202 ?_
                                  refine lv_icmp_ge (tgt := 211) hx hb dX0_decoded_204 (by decide) (fun c_22 => ?_) (fun c_22 => ?_)
                                  · skip
                                    have c_22' : v5_15.toInt ≥ 57344 := jb_ge (rfl) ((by decide)) c_22
                                    refine lv_iload hx hb dX0_decoded_211 (lv_at hl 6 rfl) ?_
                                    rw [hQ]
                                    exact W.iret (v := v5_15) hx hb hr (fun t ht hW => ⟨⟨v5_15, (), rfl, trivial, hh_15.rt (M1 := []) [] rfl ht⟩, by rw [ht]; try exact hh_15.1.1, fun q h9 hq => by rw [ht]; try exact hh_15.1.2.1 q h9 hq⟩) hh_15.1.2.2 dX0_decoded_213
                                  · skip
                                    have c_22' : v5_15.toInt < 57344 := jb_ge_n (rfl) ((by decide)) c_22
                                    refine lv_iconst (v := (-1)) hx hb dX0_decoded_207 (by decide) ?_
                                    refine lv_goto (tgt := 213) hx hb dX0_decoded_208 (by decide) ?_
                                    rw [hQ]
                                    exact W.iret (v := (-1)) hx hb hr (fun t ht hW => ⟨⟨(-1), (), rfl, trivial, hh_15.rt (M1 := []) [] rfl ht⟩, by rw [ht]; try exact hh_15.1.1, fun q h9 hq => by rw [ht]; try exact hh_15.1.2.1 q h9 hq⟩) hh_15.1.2.2 dX0_decoded_213
                          · skip
                            have c_18' : w0_8.toInt = 3 := jb_ne_n (rfl) ((by decide)) c_18
                            refine lv_iload hx hb dX0_decoded_167 (lv_at hl 5 rfl) ?_
                            refine lv_ldc hx hb hown hcs_60 dX0_decoded_169 ?_
                            refine lv_icmp_ge (tgt := 178) hx hb dX0_decoded_171 (by decide) (fun c_23 => ?_) (fun c_23 => ?_)
                            · skip
                              have c_23' : v5_15.toInt ≥ 65536 := jb_ge (rfl) ((by decide)) c_23
                              refine lv_iconst (v := 0) hx hb dX0_decoded_178 (by decide) ?_
                              refine lv_istore (lv' := [(6, .int 0), (0, .ref r0), (1, .int a1), (2, .int a2), (3, .int z_6), (4, .int w0_8), (5, .int v5_15)]) hx hb dX0_decoded_179 hl (by decide) rfl (fun ls hl => ?_)
                              refine lv_iload hx hb dX0_decoded_181 (lv_at hl 0 rfl) ?_
                              refine lv_if_ne (tgt := 207) hx hb dX0_decoded_183 (by decide) (fun c_24 => ?_) (fun c_24 => ?_)
                              · skip
                                exact absurd c_24 (by decide)
                              · skip
                                refine lv_iload hx hb dX0_decoded_186 (lv_at hl 6 rfl) ?_
                                refine lv_ldc hx hb hown hcs_74 dX0_decoded_188 ?_
                                refine lv_icmp_gt (tgt := 207) hx hb dX0_decoded_190 (by decide) (fun c_25 => ?_) (fun c_25 => ?_)
                                · skip
                                  have c_25' : v5_15.toInt > 1114111 := jb_gt (rfl) ((by decide)) c_25
                                  refine lv_iconst (v := (-1)) hx hb dX0_decoded_207 (by decide) ?_
                                  refine lv_goto (tgt := 213) hx hb dX0_decoded_208 (by decide) ?_
                                  rw [hQ]
                                  exact W.iret (v := (-1)) hx hb hr (fun t ht hW => ⟨⟨(-1), (), rfl, trivial, hh_15.rt (M1 := []) [] rfl ht⟩, by rw [ht]; try exact hh_15.1.1, fun q h9 hq => by rw [ht]; try exact hh_15.1.2.1 q h9 hq⟩) hh_15.1.2.2 dX0_decoded_213
                                · skip
                                  have c_25' : v5_15.toInt ≤ 1114111 := jb_gt_n (rfl) ((by decide)) c_25
                                  refine lv_iload hx hb dX0_decoded_193 (lv_at hl 6 rfl) ?_
                                  refine lv_ldc hx hb hown hcs_61 dX0_decoded_195 ?_
                                  refine lv_icmp_lt (tgt := 211) hx hb dX0_decoded_197 (by decide) (fun c_26 => ?_) (fun c_26 => ?_)
                                  · skip
                                    have c_26' : v5_15.toInt < 55296 := jb_lt (rfl) ((by decide)) c_26
                                    refine lv_iload hx hb dX0_decoded_211 (lv_at hl 6 rfl) ?_
                                    rw [hQ]
                                    exact W.iret (v := v5_15) hx hb hr (fun t ht hW => ⟨⟨v5_15, (), rfl, trivial, hh_15.rt (M1 := []) [] rfl ht⟩, by rw [ht]; try exact hh_15.1.1, fun q h9 hq => by rw [ht]; try exact hh_15.1.2.1 q h9 hq⟩) hh_15.1.2.2 dX0_decoded_213
                                  · skip
                                    have c_26' : v5_15.toInt ≥ 55296 := jb_lt_n (rfl) ((by decide)) c_26
                                    refine lv_iload hx hb dX0_decoded_200 (lv_at hl 6 rfl) ?_
                                    refine lv_ldc hx hb hown hcs_73 dX0_decoded_202 ?_
                                    refine lv_icmp_ge (tgt := 211) hx hb dX0_decoded_204 (by decide) (fun c_27 => ?_) (fun c_27 => ?_)
                                    · skip
                                      have c_27' : v5_15.toInt ≥ 57344 := jb_ge (rfl) ((by decide)) c_27
                                      refine lv_iload hx hb dX0_decoded_211 (lv_at hl 6 rfl) ?_
                                      rw [hQ]
                                      exact W.iret (v := v5_15) hx hb hr (fun t ht hW => ⟨⟨v5_15, (), rfl, trivial, hh_15.rt (M1 := []) [] rfl ht⟩, by rw [ht]; try exact hh_15.1.1, fun q h9 hq => by rw [ht]; try exact hh_15.1.2.1 q h9 hq⟩) hh_15.1.2.2 dX0_decoded_213
                                    · skip
                                      have c_27' : v5_15.toInt < 57344 := jb_ge_n (rfl) ((by decide)) c_27
                                      refine lv_iconst (v := (-1)) hx hb dX0_decoded_207 (by decide) ?_
                                      refine lv_goto (tgt := 213) hx hb dX0_decoded_208 (by decide) ?_
                                      rw [hQ]
                                      exact W.iret (v := (-1)) hx hb hr (fun t ht hW => ⟨⟨(-1), (), rfl, trivial, hh_15.rt (M1 := []) [] rfl ht⟩, by rw [ht]; try exact hh_15.1.1, fun q h9 hq => by rw [ht]; try exact hh_15.1.2.1 q h9 hq⟩) hh_15.1.2.2 dX0_decoded_213
                            · skip
                              have c_23' : v5_15.toInt < 65536 := jb_ge_n (rfl) ((by decide)) c_23
                              refine lv_iconst (v := 1) hx hb dX0_decoded_174 (by decide) ?_
                              refine lv_goto (tgt := 179) hx hb dX0_decoded_175 (by decide) ?_
                              refine lv_istore (lv' := [(6, .int 1), (0, .ref r0), (1, .int a1), (2, .int a2), (3, .int z_6), (4, .int w0_8), (5, .int v5_15)]) hx hb dX0_decoded_179 hl (by decide) rfl (fun ls hl => ?_)
                              refine lv_iload hx hb dX0_decoded_181 (lv_at hl 0 rfl) ?_
                              refine lv_if_ne (tgt := 207) hx hb dX0_decoded_183 (by decide) (fun c_28 => ?_) (fun c_28 => ?_)
                              · skip
                                refine lv_iconst (v := (-1)) hx hb dX0_decoded_207 (by decide) ?_
                                refine lv_goto (tgt := 213) hx hb dX0_decoded_208 (by decide) ?_
                                rw [hQ]
                                exact W.iret (v := (-1)) hx hb hr (fun t ht hW => ⟨⟨(-1), (), rfl, trivial, hh_15.rt (M1 := []) [] rfl ht⟩, by rw [ht]; try exact hh_15.1.1, fun q h9 hq => by rw [ht]; try exact hh_15.1.2.1 q h9 hq⟩) hh_15.1.2.2 dX0_decoded_213
                              · skip
                                exact absurd c_28 (by decide)
                        · skip
                          have c_17' : w0_8.toInt = 2 := jb_ne_n (rfl) ((by decide)) c_17
                          refine lv_iload hx hb dX0_decoded_153 (lv_at hl 5 rfl) ?_
                          refine lv_sipush (v := 2048) hx hb dX0_decoded_155 (by decide) ?_
                          refine lv_icmp_lt (tgt := 174) hx hb dX0_decoded_158 (by decide) (fun c_29 => ?_) (fun c_29 => ?_)
                          · skip
                            have c_29' : v5_15.toInt < 2048 := jb_lt (rfl) ((by decide)) c_29
                            refine lv_iconst (v := 1) hx hb dX0_decoded_174 (by decide) ?_
                            refine lv_goto (tgt := 179) hx hb dX0_decoded_175 (by decide) ?_
                            refine lv_istore (lv' := [(6, .int 1), (0, .ref r0), (1, .int a1), (2, .int a2), (3, .int z_6), (4, .int w0_8), (5, .int v5_15)]) hx hb dX0_decoded_179 hl (by decide) rfl (fun ls hl => ?_)
                            refine lv_iload hx hb dX0_decoded_181 (lv_at hl 0 rfl) ?_
                            refine lv_if_ne (tgt := 207) hx hb dX0_decoded_183 (by decide) (fun c_30 => ?_) (fun c_30 => ?_)
                            · skip
                              refine lv_iconst (v := (-1)) hx hb dX0_decoded_207 (by decide) ?_
                              refine lv_goto (tgt := 213) hx hb dX0_decoded_208 (by decide) ?_
                              rw [hQ]
                              exact W.iret (v := (-1)) hx hb hr (fun t ht hW => ⟨⟨(-1), (), rfl, trivial, hh_15.rt (M1 := []) [] rfl ht⟩, by rw [ht]; try exact hh_15.1.1, fun q h9 hq => by rw [ht]; try exact hh_15.1.2.1 q h9 hq⟩) hh_15.1.2.2 dX0_decoded_213
                            · skip
                              exact absurd c_30 (by decide)
                          · skip
                            have c_29' : v5_15.toInt ≥ 2048 := jb_lt_n (rfl) ((by decide)) c_29
                            refine lv_iload hx hb dX0_decoded_161 (lv_at hl 4 rfl) ?_
                            refine lv_iconst (v := 3) hx hb dX0_decoded_163 (by decide) ?_
                            refine lv_icmp_ne (tgt := 178) hx hb dX0_decoded_164 (by decide) (fun c_31 => ?_) (fun c_31 => ?_)
                            · skip
                              have c_31' : w0_8.toInt ≠ 3 := jb_ne (rfl) ((by decide)) c_31
                              refine lv_iconst (v := 0) hx hb dX0_decoded_178 (by decide) ?_
                              refine lv_istore (lv' := [(6, .int 0), (0, .ref r0), (1, .int a1), (2, .int a2), (3, .int z_6), (4, .int w0_8), (5, .int v5_15)]) hx hb dX0_decoded_179 hl (by decide) rfl (fun ls hl => ?_)
                              refine lv_iload hx hb dX0_decoded_181 (lv_at hl 0 rfl) ?_
                              refine lv_if_ne (tgt := 207) hx hb dX0_decoded_183 (by decide) (fun c_32 => ?_) (fun c_32 => ?_)
                              · skip
                                exact absurd c_32 (by decide)
                              · skip
                                refine lv_iload hx hb dX0_decoded_186 (lv_at hl 6 rfl) ?_
                                refine lv_ldc hx hb hown hcs_74 dX0_decoded_188 ?_
                                refine lv_icmp_gt (tgt := 207) hx hb dX0_decoded_190 (by decide) (fun c_33 => ?_) (fun c_33 => ?_)
                                · skip
                                  have c_33' : v5_15.toInt > 1114111 := jb_gt (rfl) ((by decide)) c_33
                                  refine lv_iconst (v := (-1)) hx hb dX0_decoded_207 (by decide) ?_
                                  refine lv_goto (tgt := 213) hx hb dX0_decoded_208 (by decide) ?_
                                  rw [hQ]
                                  exact W.iret (v := (-1)) hx hb hr (fun t ht hW => ⟨⟨(-1), (), rfl, trivial, hh_15.rt (M1 := []) [] rfl ht⟩, by rw [ht]; try exact hh_15.1.1, fun q h9 hq => by rw [ht]; try exact hh_15.1.2.1 q h9 hq⟩) hh_15.1.2.2 dX0_decoded_213
                                · skip
                                  have c_33' : v5_15.toInt ≤ 1114111 := jb_gt_n (rfl) ((by decide)) c_33
                                  refine lv_iload hx hb dX0_decoded_193 (lv_at hl 6 rfl) ?_
                                  refine lv_ldc hx hb hown hcs_61 dX0_decoded_195 ?_
                                  refine lv_icmp_lt (tgt := 211) hx hb dX0_decoded_197 (by decide) (fun c_34 => ?_) (fun c_34 => ?_)
                                  · skip
                                    have c_34' : v5_15.toInt < 55296 := jb_lt (rfl) ((by decide)) c_34
                                    refine lv_iload hx hb dX0_decoded_211 (lv_at hl 6 rfl) ?_
                                    rw [hQ]
                                    exact W.iret (v := v5_15) hx hb hr (fun t ht hW => ⟨⟨v5_15, (), rfl, trivial, hh_15.rt (M1 := []) [] rfl ht⟩, by rw [ht]; try exact hh_15.1.1, fun q h9 hq => by rw [ht]; try exact hh_15.1.2.1 q h9 hq⟩) hh_15.1.2.2 dX0_decoded_213
                                  · skip
                                    have c_34' : v5_15.toInt ≥ 55296 := jb_lt_n (rfl) ((by decide)) c_34
                                    refine lv_iload hx hb dX0_decoded_200 (lv_at hl 6 rfl) ?_
                                    refine lv_ldc hx hb hown hcs_73 dX0_decoded_202 ?_
                                    refine lv_icmp_ge (tgt := 211) hx hb dX0_decoded_204 (by decide) (fun c_35 => ?_) (fun c_35 => ?_)
                                    · skip
                                      have c_35' : v5_15.toInt ≥ 57344 := jb_ge (rfl) ((by decide)) c_35
                                      refine lv_iload hx hb dX0_decoded_211 (lv_at hl 6 rfl) ?_
                                      rw [hQ]
                                      exact W.iret (v := v5_15) hx hb hr (fun t ht hW => ⟨⟨v5_15, (), rfl, trivial, hh_15.rt (M1 := []) [] rfl ht⟩, by rw [ht]; try exact hh_15.1.1, fun q h9 hq => by rw [ht]; try exact hh_15.1.2.1 q h9 hq⟩) hh_15.1.2.2 dX0_decoded_213
                                    · skip
                                      have c_35' : v5_15.toInt < 57344 := jb_ge_n (rfl) ((by decide)) c_35
                                      refine lv_iconst (v := (-1)) hx hb dX0_decoded_207 (by decide) ?_
                                      refine lv_goto (tgt := 213) hx hb dX0_decoded_208 (by decide) ?_
                                      rw [hQ]
                                      exact W.iret (v := (-1)) hx hb hr (fun t ht hW => ⟨⟨(-1), (), rfl, trivial, hh_15.rt (M1 := []) [] rfl ht⟩, by rw [ht]; try exact hh_15.1.1, fun q h9 hq => by rw [ht]; try exact hh_15.1.2.1 q h9 hq⟩) hh_15.1.2.2 dX0_decoded_213
                            · skip
                              have c_31' : w0_8.toInt = 3 := jb_ne_n (rfl) ((by decide)) c_31
                              refine lv_iload hx hb dX0_decoded_167 (lv_at hl 5 rfl) ?_
                              refine lv_ldc hx hb hown hcs_60 dX0_decoded_169 ?_
                              refine lv_icmp_ge (tgt := 178) hx hb dX0_decoded_171 (by decide) (fun c_36 => ?_) (fun c_36 => ?_)
                              · skip
                                have c_36' : v5_15.toInt ≥ 65536 := jb_ge (rfl) ((by decide)) c_36
                                refine lv_iconst (v := 0) hx hb dX0_decoded_178 (by decide) ?_
                                refine lv_istore (lv' := [(6, .int 0), (0, .ref r0), (1, .int a1), (2, .int a2), (3, .int z_6), (4, .int w0_8), (5, .int v5_15)]) hx hb dX0_decoded_179 hl (by decide) rfl (fun ls hl => ?_)
                                refine lv_iload hx hb dX0_decoded_181 (lv_at hl 0 rfl) ?_
                                refine lv_if_ne (tgt := 207) hx hb dX0_decoded_183 (by decide) (fun c_37 => ?_) (fun c_37 => ?_)
                                · skip
                                  exact absurd c_37 (by decide)
                                · skip
                                  refine lv_iload hx hb dX0_decoded_186 (lv_at hl 6 rfl) ?_
                                  refine lv_ldc hx hb hown hcs_74 dX0_decoded_188 ?_
                                  refine lv_icmp_gt (tgt := 207) hx hb dX0_decoded_190 (by decide) (fun c_38 => ?_) (fun c_38 => ?_)
                                  · skip
                                    have c_38' : v5_15.toInt > 1114111 := jb_gt (rfl) ((by decide)) c_38
                                    refine lv_iconst (v := (-1)) hx hb dX0_decoded_207 (by decide) ?_
                                    refine lv_goto (tgt := 213) hx hb dX0_decoded_208 (by decide) ?_
                                    rw [hQ]
                                    exact W.iret (v := (-1)) hx hb hr (fun t ht hW => ⟨⟨(-1), (), rfl, trivial, hh_15.rt (M1 := []) [] rfl ht⟩, by rw [ht]; try exact hh_15.1.1, fun q h9 hq => by rw [ht]; try exact hh_15.1.2.1 q h9 hq⟩) hh_15.1.2.2 dX0_decoded_213
                                  · skip
                                    have c_38' : v5_15.toInt ≤ 1114111 := jb_gt_n (rfl) ((by decide)) c_38
                                    refine lv_iload hx hb dX0_decoded_193 (lv_at hl 6 rfl) ?_
                                    refine lv_ldc hx hb hown hcs_61 dX0_decoded_195 ?_
                                    refine lv_icmp_lt (tgt := 211) hx hb dX0_decoded_197 (by decide) (fun c_39 => ?_) (fun c_39 => ?_)
                                    · skip
                                      have c_39' : v5_15.toInt < 55296 := jb_lt (rfl) ((by decide)) c_39
                                      refine lv_iload hx hb dX0_decoded_211 (lv_at hl 6 rfl) ?_
                                      rw [hQ]
                                      exact W.iret (v := v5_15) hx hb hr (fun t ht hW => ⟨⟨v5_15, (), rfl, trivial, hh_15.rt (M1 := []) [] rfl ht⟩, by rw [ht]; try exact hh_15.1.1, fun q h9 hq => by rw [ht]; try exact hh_15.1.2.1 q h9 hq⟩) hh_15.1.2.2 dX0_decoded_213
                                    · skip
                                      have c_39' : v5_15.toInt ≥ 55296 := jb_lt_n (rfl) ((by decide)) c_39
                                      refine lv_iload hx hb dX0_decoded_200 (lv_at hl 6 rfl) ?_
                                      refine lv_ldc hx hb hown hcs_73 dX0_decoded_202 ?_
                                      refine lv_icmp_ge (tgt := 211) hx hb dX0_decoded_204 (by decide) (fun c_40 => ?_) (fun c_40 => ?_)
                                      · skip
                                        have c_40' : v5_15.toInt ≥ 57344 := jb_ge (rfl) ((by decide)) c_40
                                        refine lv_iload hx hb dX0_decoded_211 (lv_at hl 6 rfl) ?_
                                        rw [hQ]
                                        exact W.iret (v := v5_15) hx hb hr (fun t ht hW => ⟨⟨v5_15, (), rfl, trivial, hh_15.rt (M1 := []) [] rfl ht⟩, by rw [ht]; try exact hh_15.1.1, fun q h9 hq => by rw [ht]; try exact hh_15.1.2.1 q h9 hq⟩) hh_15.1.2.2 dX0_decoded_213
                                      · skip
                                        have c_40' : v5_15.toInt < 57344 := jb_ge_n (rfl) ((by decide)) c_40
                                        refine lv_iconst (v := (-1)) hx hb dX0_decoded_207 (by decide) ?_
                                        refine lv_goto (tgt := 213) hx hb dX0_decoded_208 (by decide) ?_
                                        rw [hQ]
                                        exact W.iret (v := (-1)) hx hb hr (fun t ht hW => ⟨⟨(-1), (), rfl, trivial, hh_15.rt (M1 := []) [] rfl ht⟩, by rw [ht]; try exact hh_15.1.1, fun q h9 hq => by rw [ht]; try exact hh_15.1.2.1 q h9 hq⟩) hh_15.1.2.2 dX0_decoded_213
                              · skip
                                have c_36' : v5_15.toInt < 65536 := jb_ge_n (rfl) ((by decide)) c_36
                                refine lv_iconst (v := 1) hx hb dX0_decoded_174 (by decide) ?_
                                refine lv_goto (tgt := 179) hx hb dX0_decoded_175 (by decide) ?_
                                refine lv_istore (lv' := [(6, .int 1), (0, .ref r0), (1, .int a1), (2, .int a2), (3, .int z_6), (4, .int w0_8), (5, .int v5_15)]) hx hb dX0_decoded_179 hl (by decide) rfl (fun ls hl => ?_)
                                refine lv_iload hx hb dX0_decoded_181 (lv_at hl 0 rfl) ?_
                                refine lv_if_ne (tgt := 207) hx hb dX0_decoded_183 (by decide) (fun c_41 => ?_) (fun c_41 => ?_)
                                · skip
                                  refine lv_iconst (v := (-1)) hx hb dX0_decoded_207 (by decide) ?_
                                  refine lv_goto (tgt := 213) hx hb dX0_decoded_208 (by decide) ?_
                                  rw [hQ]
                                  exact W.iret (v := (-1)) hx hb hr (fun t ht hW => ⟨⟨(-1), (), rfl, trivial, hh_15.rt (M1 := []) [] rfl ht⟩, by rw [ht]; try exact hh_15.1.1, fun q h9 hq => by rw [ht]; try exact hh_15.1.2.1 q h9 hq⟩) hh_15.1.2.2 dX0_decoded_213
                                · skip
                                  exact absurd c_41 (by decide)
                      · skip
                        have c_16' : v6_15.toInt ≤ w0_8.toInt := jb_gt_n (rfl) (rfl) c_16
                        refine lv_aload_n hx hb dX0_decoded_102 rfl (lv_at hl 0 rfl) ?_
                        refine lv_iload_n hx hb dX0_decoded_103 rfl (lv_at hl 1 rfl) ?_
                        refine lv_iload hx hb dX0_decoded_104 (lv_at hl 6 rfl) ?_
                        refine lv_iadd hx hb dX0_decoded_106 ?_
                        refine lv_topi (fun z_42 ez_42 => ?_)
                        have hz_42 : z_42.toInt = a1.toInt + v6_15.toInt := by rw [ez_42]; exact jb_iadd2 (rfl) (rfl) (by omega)
                        refine j7_bald hx hb hK hh_15 hB196 0 rfl (by decide) hg_r0 (x := z_42.toInt) (rfl) (by omega) dX0_decoded_107 (fun z_43 (hz_43 : jBf (z_42.toInt).toNat z_43) => ?_)
                        refine lv_sipush (v := 255) hx hb dX0_decoded_108 (by decide) ?_
                        refine lv_iand hx hb dX0_decoded_111 ?_
                        refine lv_topi (fun z_44 ez_44 => ?_)
                        have hz_44 : 0 ≤ z_44.toInt ∧ z_44.toInt ≤ 255 := by rw [ez_44]; exact jb_and z_43 (m := 255) (k := 8) (by decide) (by decide)
                        refine lv_istore (lv' := [(7, .int z_44), (0, .ref r0), (1, .int a1), (2, .int a2), (3, .int z_6), (4, .int w0_8), (5, .int v5_15), (6, .int v6_15)]) hx hb dX0_decoded_112 hl (by decide) rfl (fun ls hl => ?_)
                        refine lv_iload hx hb dX0_decoded_114 (lv_at hl 0 rfl) ?_
                        refine lv_sipush (v := 192) hx hb dX0_decoded_116 (by decide) ?_
                        refine lv_iand hx hb dX0_decoded_119 ?_
                        refine lv_topi (fun z_45 ez_45 => ?_)
                        refine lv_sipush (v := 128) hx hb dX0_decoded_120 (by decide) ?_
                        refine lv_icmp_eq (tgt := 128) hx hb dX0_decoded_123 (by decide) (fun c_46 => ?_) (fun c_46 => ?_)
                        · skip
                          have c_46' : z_45.toInt = 128 := jb_eq (rfl) ((by decide)) c_46
                          refine lv_iload hx hb dX0_decoded_128 (lv_at hl 6 rfl) ?_
                          refine lv_bipush (v := 6) hx hb dX0_decoded_130 (by decide) ?_
                          refine lv_ishl hx hb dX0_decoded_132 ?_
                          refine lv_topi (fun z_47 ez_47 => ?_)
                          refine lv_iload hx hb dX0_decoded_133 (lv_at hl 0 rfl) ?_
                          refine lv_bipush (v := 63) hx hb dX0_decoded_135 (by decide) ?_
                          refine lv_iand hx hb dX0_decoded_137 ?_
                          refine lv_topi (fun z_48 ez_48 => ?_)
                          have hz_48 : 0 ≤ z_48.toInt ∧ z_48.toInt ≤ 63 := by rw [ez_48]; exact jb_and z_44 (m := 63) (k := 6) (by decide) (by decide)
                          refine lv_ior hx hb dX0_decoded_138 ?_
                          refine lv_topi (fun z_49 ez_49 => ?_)
                          refine lv_istore (lv' := [(5, .int z_49), (7, .int z_44), (0, .ref r0), (1, .int a1), (2, .int a2), (3, .int z_6), (4, .int w0_8), (6, .int v6_15)]) hx hb dX0_decoded_139 hl (by decide) rfl (fun ls hl => ?_)
                          obtain ⟨z_50, ez_50⟩ : ∃ y : Int32, y = v6_15 + 1 := ⟨_, rfl⟩
                          refine lv_iinc (v := z_50) (lv' := [(6, .int z_50), (5, .int z_49), (7, .int z_44), (0, .ref r0), (1, .int a1), (2, .int a2), (3, .int z_6), (4, .int w0_8)]) hx hb dX0_decoded_141 hl (k := 7) rfl (by rw [ez_50]; rfl) (by decide) rfl (fun ls hl => ?_)
                          have hz_50 : z_50.toInt = v6_15.toInt + 1 := by rw [ez_50]; exact jb_iadd2 (rfl) (by decide) (by omega)
                          refine lv_goto (tgt := 95) hx hb dX0_decoded_144 (by decide) ?_
                          exact L95 z_49 z_50 _ _ hh_15 (by first | omega | (refine ⟨?_, ?_⟩ <;> (first | omega | rfl | assumption | decide | exact Or.inl rfl | exact Or.inr rfl | (simp only; omega)))) (by omega) _ (lv_sub hl [3, 4, 5, 6, 7, 1, 0] rfl)
                        · skip
                          have c_46' : z_45.toInt ≠ 128 := jb_eq_n (rfl) ((by decide)) c_46
                          refine lv_iconst (v := (-1)) hx hb dX0_decoded_126 (by decide) ?_
                          rw [hQ]
                          exact W.iret (v := (-1)) hx hb hr (fun t ht hW => ⟨⟨(-1), (), rfl, trivial, hh_15.rt (M1 := []) [] rfl ht⟩, by rw [ht]; try exact hh_15.1.1, fun q h9 hq => by rw [ht]; try exact hh_15.1.2.1 q h9 hq⟩) hh_15.1.2.2 dX0_decoded_127
                  exact L95 (w0_8.toInt + 1 - (1 : Int32).toInt : Int).toNat.succ z_14 1 _ _ hh_8 (by first | omega | (refine ⟨?_, ?_⟩ <;> (first | omega | rfl | assumption | decide | exact Or.inl rfl | exact Or.inr rfl | (simp only; omega)))) (by omega) _ (lv_sub hl [3, 4, 5, 6, 2, 1, 0] rfl)
                · skip
                  have c_12' : w0_8.toInt ≥ z_11.toInt := jb_lt_n (rfl) (rfl) c_12
                  refine lv_iconst (v := (-1)) hx hb dX0_decoded_81 (by decide) ?_
                  rw [hQ]
                  exact W.iret (v := (-1)) hx hb hr (fun t ht hW => ⟨⟨(-1), (), rfl, trivial, hh_8.rt (M1 := []) [] rfl ht⟩, by rw [ht]; try exact hh_8.1.1, fun q h9 hq => by rw [ht]; try exact hh_8.1.2.1 q h9 hq⟩) hh_8.1.2.2 dX0_decoded_82
          refine lv_icmp_lt (tgt := 45) hx hb dX0_decoded_38 (by decide) (fun c_51 => ?_) (fun c_51 => ?_)
          · skip
            have c_51' : z_6.toInt < 240 := jb_lt (rfl) ((by decide)) c_51
            refine lv_iload_n hx hb dX0_decoded_45 rfl (lv_at hl 0 rfl) ?_
            refine lv_sipush (v := 224) hx hb dX0_decoded_46 (by decide) ?_
            refine lv_icmp_lt (tgt := 56) hx hb dX0_decoded_49 (by decide) (fun c_52 => ?_) (fun c_52 => ?_)
            · skip
              have c_52' : z_6.toInt < 224 := jb_lt (rfl) ((by decide)) c_52
              refine lv_iconst (v := 1) hx hb dX0_decoded_56 (by decide) ?_
              exact C57 1 _ _ hh (by first | omega | (refine ⟨?_, ?_⟩ <;> (first | omega | rfl | assumption | decide | exact Or.inl rfl | exact Or.inr rfl | (simp only; omega)))) _ (lv_sub hl [1, 2, 3, 0] rfl)
            · skip
              have c_52' : z_6.toInt ≥ 224 := jb_lt_n (rfl) ((by decide)) c_52
              refine lv_iconst (v := 2) hx hb dX0_decoded_52 (by decide) ?_
              refine lv_goto (tgt := 57) hx hb dX0_decoded_53 (by decide) ?_
              exact C57 2 _ _ hh (by first | omega | (refine ⟨?_, ?_⟩ <;> (first | omega | rfl | assumption | decide | exact Or.inl rfl | exact Or.inr rfl | (simp only; omega)))) _ (lv_sub hl [1, 2, 3, 0] rfl)
          · skip
            have c_51' : z_6.toInt ≥ 240 := jb_lt_n (rfl) ((by decide)) c_51
            refine lv_iconst (v := 3) hx hb dX0_decoded_41 (by decide) ?_
            refine lv_goto (tgt := 57) hx hb dX0_decoded_42 (by decide) ?_
            exact C57 3 _ _ hh (by first | omega | (refine ⟨?_, ?_⟩ <;> (first | omega | rfl | assumption | decide | exact Or.inl rfl | exact Or.inr rfl | (simp only; omega)))) _ (lv_sub hl [1, 2, 3, 0] rfl)
        · skip
          have c_7' : z_6.toInt < 128 := jb_ge_n (rfl) ((by decide)) c_7
          refine lv_iload_n hx hb dX0_decoded_32 rfl (lv_at hl 0 rfl) ?_
          rw [hQ]
          exact W.iret (v := z_6) hx hb hr (fun t ht hW => ⟨⟨z_6, (), rfl, trivial, hh.rt (M1 := []) [] rfl ht⟩, by rw [ht]; try exact hh.1.1, fun q h9 hq => by rw [ht]; try exact hh.1.2.1 q h9 hq⟩) hh.1.2.2 dX0_decoded_33
      · skip
        have c_4' : a2.toInt > z_3.toInt := jb_le_n (rfl) (rfl) c_4
        refine lv_iconst (v := (-1)) hx hb dX0_decoded_15 (by decide) ?_
        rw [hQ]
        exact W.iret (v := (-1)) hx hb hr (fun t ht hW => ⟨⟨(-1), (), rfl, trivial, hh.rt (M1 := []) [] rfl ht⟩, by rw [ht]; try exact hh.1.1, fun q h9 hq => by rw [ht]; try exact hh.1.2.1 q h9 hq⟩) hh.1.2.2 dX0_decoded_16
set_option maxHeartbeats 4000000 in
set_option maxRecDepth 20000 in
theorem uX1_decodeT (l : Launch) (dC : Nat → ClassId) (dI : Nat → Nat → Nat) (ca : Nat → ClassId) (base : Nat) (B : jF) (hB : jBok B) (hAp : jAp (dC, dI)) (hB3 : ∀ n G a H, B 3 n G a H ↔ jOb (dC, dI) 3 17 (F3 n G) a H) (hB100 : ∀ n G a H, B 100 n G a H ↔ jAr (dC, dI) (ca 0) (fun j z => True) n a H) (hB101 : ∀ n G a H, B 101 n G a H ↔ jAr (dC, dI) (ca 1) (fun j z => True) n a H) (hB196 : ∀ n G a H, B 196 n G a H ↔ jAr (dC, dI) (ca 0) (fun j z => jBf j z) n a H) (G0 : jT) (H0 : Heap) (r0 : Nat) (r1 : Nat) (a2 : Int32) (n0 : Nat) (n1 : Nat) : Met l yX1_decode (jw yX1_decode cX1_decode 7 (some .boolean)) ({ frames := 1, cells := 0, slots := 0, locals := 27 }) (va_Pc [.ref r0, .ref r1, .int a2] (fun U => U.heap = H0 ∧ jX B base G0 [] H0 ∧ jG dC dI ca base U ∧ G0 r0 = some (3, n0) ∧ G0 r1 = some (196, n1) ∧ jP (dC, dI) G0 H0 [] ∧ n1 < 1000000 ∧ 0 ≤ a2.toInt ∧ a2.toInt ≤ 1000000)) (va_Qi (S := Int32) (fun r u => (r = 0 ∨ r = 1) ∧ (0 ≤ u.toInt ∧ u.toInt ≤ 1500 ∧ u.toInt ≤ a2.toInt + 3)) (fun u t => jRt (dC, dI) B base G0 EX1_decodeT H0 [(r0, 3, 3, .int u)] t.heap) (jA base)) 0 0 (jA base) := by
  refine Met.ofW (cc := cX1_decode) (maxL := 7) (ret := (some .boolean)) (by decide) rfl ?_
  intro p e s m args below meth c s₁ Bd hml hv
  obtain ⟨rfl, hH0, hX, hG, hg_r0, hg_r1, hP0, hp0, hp1, hp2⟩ := hv
  have hK := hG.1
  have hx := Bd.exec
  have hb := Bd.bytes
  have hr := Bd.returns
  have hts := atoms_spec (ws := (jw yX1_decode cX1_decode 7 (some .boolean))) Bd.pre
  have htw : ∀ w ∈ jWl, w.before _ s = true := fun w h => hts w (List.mem_cons_of_mem _ h)
  have hown : s.vm.findClass RX1 = some m.cls := findClass_of_methodNamed Bd.named
  have hlocks := Bd.notSynchronized
  obtain ⟨Q, hQ⟩ : ∃ Q, Q = MQ below (va_Qi (S := Int32) (fun r u => (r = 0 ∨ r = 1) ∧ (0 ≤ u.toInt ∧ u.toInt ≤ 1500 ∧ u.toInt ≤ a2.toInt + 3)) (fun u t => jRt (dC, dI) B base G0 EX1_decodeT H0 [(r0, 3, 3, .int u)] t.heap) (jA base)) ([.ref r0, .ref r1, .int a2] : List Value).toArray s 0 0 (jA base) := ⟨_, rfl⟩
  rw [← hQ]
  have hl := lv_entry ([.ref r0, .ref r1, .int a2]) (n := 7) (Nat.le_of_ble_eq_true rfl)
  rw [lg_entry_eq]
  generalize (lg_sl ([.ref r0, .ref r1, .int a2]) ++ List.replicate (7 - (lg_sl ([.ref r0, .ref r1, .int a2])).length) Slot.unset).toArray = ls at hl ⊢
  have hl : lv_has ls 7 [(0, .ref r0), (1, .ref r1), (2, .int a2)] := hl
  generalize hR : (headSpec (jw yX1_decode cX1_decode 7 (some .boolean)) ({ frames := 1, cells := 0, slots := 0, locals := 27 })).room = R
  subst hH0
  have hh : jSt (dC, dI) B base G0 G0 EX1_decodeT s.heap 0 0 [] [] [] s.heap [] := jSt.start hX hP0 jMc.nil jIs.nil
  clear hX hP0
  have hk0 : (0 : Int32).toInt = 0 := by decide
  have hk1 : (1 : Int32).toInt = 1 := by decide
  have hk2 : (2 : Int32).toInt = 2 := by decide
  have hk10 : (10 : Int32).toInt = 10 := by decide
  have hk1023 : (1023 : Int32).toInt = 1023 := by decide
  have hk1500 : (1500 : Int32).toInt = 1500 := by decide
  have hk55296 : (55296 : Int32).toInt = 55296 := by decide
  have hk56320 : (56320 : Int32).toInt = 56320 := by decide
  have hk65533 : (65533 : Int32).toInt = 65533 := by decide
  have hk65536 : (65536 : Int32).toInt = 65536 := by decide
  have hly_3_2 := htw (u_lay RX1 TX1 2) (jWc_wsX10 _ (u_in_lay (by decide)))
  have hly_3_3 := htw (u_lay RX1 TX1 3) (jWc_wsX10 _ (u_in_lay (by decide)))
  have hlk_42 := (htw (.fieldLink RX1 42 "ProofServer$Document" "length" "I") (jWr_29 _ (List.mem_of_getElem? (i := 5) rfl)))
  have hcs_65 := htw (.constant RX1 65 65536) (jWr_93 _ (List.mem_of_getElem? (i := 20) rfl))
  have hlk_15 := (htw (.fieldLink RX1 15 "ProofServer$Document" "text" "[I") (jWr_10 _ (List.mem_of_getElem? (i := 6) rfl)))
  have hcs_66 := htw (.constant RX1 66 55296) (jWr_93 _ (List.mem_of_getElem? (i := 21) rfl))
  have hcs_67 := htw (.constant RX1 67 56320) (jWr_93 _ (List.mem_of_getElem? (i := 22) rfl))
  have hcs_68 := htw (.constant RX1 68 65533) (jWr_93 _ (List.mem_of_getElem? (i := 23) rfl))
  have hrg_a2 := jb_rng a2
  refine lv_aload_n hx hb dX1_decode_0 rfl (lv_at hl 0 rfl) ?_
  refine lv_iconst (v := 0) hx hb dX1_decode_1 (by decide) ?_
  refine j7_put hx hb hown hK hh hB hAp hB3 (C := RX1) (T := TX1) (N := 17) rfl (by decide) hg_r0 (i := 3) (by decide) hly_3_3 rfl hlk_42 rfl (ty := .int) (v := .int 0) (by decide +kernel) rfl rfl (⟨_, rfl, by omega, by omega⟩) rfl (L1 := []) [] rfl rfl rfl dX1_decode_2 (fun H_1 locs_1 hh_1 => ?_)
  clear hh
  refine lv_iconst (v := 0) hx hb dX1_decode_5 (by decide) ?_
  refine lv_istore_n (lv' := [(3, .int 0), (0, .ref r0), (1, .ref r1), (2, .int a2)]) hx hb dX1_decode_6 rfl hl (by decide) rfl (fun ls hl => ?_)
  refine lv_iconst (v := 0) hx hb dX1_decode_7 (by decide) ?_
  refine lv_istore (lv' := [(4, .int 0), (3, .int 0), (0, .ref r0), (1, .ref r1), (2, .int a2)]) hx hb dX1_decode_8 hl (by decide) rfl (fun ls hl => ?_)
  have L10 : ∀ (N : Nat) (v3_2 : Int32) (v4_2 : Int32) (wl_2 : Int32) (H_2 : Heap) (locs_2 : List Loc), jSt (dC, dI) B base G0 G0 EX1_decodeT s.heap 0 0 [(r0, 3, 3, .int wl_2)] [] [] H_2 locs_2 → (0 ≤ v4_2.toInt ∧ 0 ≤ v3_2.toInt ∧ v3_2.toInt ≤ a2.toInt + 3 ∧ 0 ≤ wl_2.toInt ∧ wl_2.toInt ≤ 1500 ∧ wl_2.toInt ≤ v3_2.toInt) → (((a2.toInt - v4_2.toInt).toNat : Int) : Int) < N → ∀ ls : Array Slot, lv_has ls 7 [(0, .ref r0), (1, .ref r1), (2, .int a2), (3, .int v3_2), (4, .int v4_2)] → W p l e R s m ([.ref r0, .ref r1, .int a2] : List Value).toArray below meth c H_2 locs_2 0 0 Q (F0 m 10 ls []) := by
    intro N
    induction N with
    | zero => intro v3_2 v4_2 wl_2 H_2 locs_2 hh_2  hi_2 hm; exact absurd hm (by omega)
    | succ N L10 =>
      intro v3_2 v4_2 wl_2 H_2 locs_2 hh_2  hi_2 hm_2 ls hl
      obtain ⟨hi_2_0, hi_2_1, hi_2_2, hi_2_3, hi_2_4, hi_2_5⟩ := hi_2
      refine lv_iload hx hb dX1_decode_10 (lv_at hl 4 rfl) ?_
      refine lv_iload_n hx hb dX1_decode_12 rfl (lv_at hl 2 rfl) ?_
      refine lv_icmp_ge (tgt := 165) hx hb dX1_decode_13 (by decide) (fun c_3 => ?_) (fun c_3 => ?_)
      · skip
        have c_3' : v4_2.toInt ≥ a2.toInt := jb_ge (rfl) (rfl) c_3
        refine lv_iconst (v := 1) hx hb dX1_decode_165 (by decide) ?_
        rw [hQ]
        exact W.zret (v := 1) hx hb hr (jb_nz (Or.inr rfl)) (fun t ht hW => ⟨⟨1, wl_2, rfl, ⟨(Or.inr rfl), by first | omega | (refine ⟨?_, ?_, ?_⟩ <;> (first | omega | rfl | assumption | decide | exact Or.inl rfl | exact Or.inr rfl | (simp only; omega)))⟩, hh_2.rt (M1 := [(r0, 3, 3, .int wl_2)]) [0] rfl ht⟩, by rw [ht]; try exact hh_2.1.1, fun q h9 hq => by rw [ht]; try exact hh_2.1.2.1 q h9 hq⟩) hh_2.1.2.2 dX1_decode_166
      · skip
        have c_3' : v4_2.toInt < a2.toInt := jb_ge_n (rfl) (rfl) c_3
        refine lv_iload_n hx hb dX1_decode_16 rfl (lv_at hl 3 rfl) ?_
        refine lv_iload_n hx hb dX1_decode_17 rfl (lv_at hl 2 rfl) ?_
        refine lv_icmp_ge (tgt := 165) hx hb dX1_decode_18 (by decide) (fun c_4 => ?_) (fun c_4 => ?_)
        · skip
          have c_4' : v3_2.toInt ≥ a2.toInt := jb_ge (rfl) (rfl) c_4
          refine lv_iconst (v := 1) hx hb dX1_decode_165 (by decide) ?_
          rw [hQ]
          exact W.zret (v := 1) hx hb hr (jb_nz (Or.inr rfl)) (fun t ht hW => ⟨⟨1, wl_2, rfl, ⟨(Or.inr rfl), by first | omega | (refine ⟨?_, ?_, ?_⟩ <;> (first | omega | rfl | assumption | decide | exact Or.inl rfl | exact Or.inr rfl | (simp only; omega)))⟩, hh_2.rt (M1 := [(r0, 3, 3, .int wl_2)]) [0] rfl ht⟩, by rw [ht]; try exact hh_2.1.1, fun q h9 hq => by rw [ht]; try exact hh_2.1.2.1 q h9 hq⟩) hh_2.1.2.2 dX1_decode_166
        · skip
          have c_4' : v3_2.toInt < a2.toInt := jb_ge_n (rfl) (rfl) c_4
          refine lv_aload_n hx hb dX1_decode_21 rfl (lv_at hl 1 rfl) ?_
          refine lv_iload_n hx hb dX1_decode_22 rfl (lv_at hl 3 rfl) ?_
          refine lv_iload_n hx hb dX1_decode_23 rfl (lv_at hl 2 rfl) ?_
          refine va_calli (A0 := jA base) (H0 := s.heap) (va_runS (As := [.ref r1, .int v3_2, .int a2]) (rest := []) ⟨hx, hb, hml, hown, hts⟩ (uX0_decodedT l dC dI ca base B hB hAp hB196 G0 H_2 r1 v3_2 a2 n1) (va_cwS 3 hts (jgS (jWr_94 _ (List.mem_of_getElem? (i := 0) rfl)) (jWr_20 _ (List.mem_of_getElem? (i := 13) rfl)) (jWr_1 _ (List.mem_of_getElem? (i := 14) rfl)) (jWr_20 _ (List.mem_of_getElem? (i := 14) rfl))) rfl rfl rfl (by decide +kernel) ⟨by rw [← hR]; exact Nat.le_of_ble_eq_true rfl, by rw [← hR]; exact Nat.le_of_ble_eq_true rfl⟩) ⟨fun a U g mk q => by obtain ⟨q0, q1, q2, qK, q10, q11, q12⟩ := q; exact ⟨q0, q1, q2, jG.calling g mk a qK, q10, q11, q12⟩, fun U hU hW => ⟨rfl, hU, hh_2.2.1, hG.step hW hU hh_2.1, hg_r1, jP.nil, by first | omega | (refine ⟨?_, ?_⟩ <;> (first | omega | rfl | assumption | decide | exact Or.inl rfl | exact Or.inr rfl | (simp only; omega)))⟩⟩ rfl rfl hl.1 rfl (lv_room (Nat.le_of_ble_eq_true rfl)) dX1_decode_24 ⟨Nat.zero_le _, Nat.zero_le _⟩) hh_2.1 (fun q _ h => h) (fun q h => h) (fun r_6 u_5 t_5 H_5 locs_5 ht_5 hvm_5 hr_6 hb_5 hz_5 hk_5 hS_5 => ?_)
          rw [ht_5] at hb_5
          obtain ⟨hb_51, hb_52, hb_53, hb_54, hb_55⟩ := hb_5
          have hh_5 : jSt (dC, dI) B base G0 G0 EX1_decodeT s.heap 0 0 [(r0, 3, 3, .int wl_2)] [] [] H_5 locs_5 := ((hh_2.call hb_51 hb_52 hb_53 hb_54 hS_5 rfl (L1 := [(r0, 3, 3, .int wl_2)]) [0] rfl rfl (M1 := []) [] rfl rfl (I1 := []) [] rfl rfl).more hb_55)
          clear hh_2 ht_5 hvm_5 hz_5 hk_5 hS_5 hb_51 hb_52 hb_53 hb_54 hb_55
          refine lv_istore (lv' := [(5, .int r_6), (0, .ref r0), (1, .ref r1), (2, .int a2), (3, .int v3_2), (4, .int v4_2)]) hx hb dX1_decode_27 hl (by decide) rfl (fun ls hl => ?_)
          refine lv_iload_n hx hb dX1_decode_29 rfl (lv_at hl 4 rfl) ?_
          refine lv_iload hx hb dX1_decode_30 (lv_at hl 0 rfl) ?_
          have C44 : ∀ (w0_7 : Int32) (H_7 : Heap) (locs_7 : List Loc), jSt (dC, dI) B base G0 G0 EX1_decodeT s.heap 0 0 [(r0, 3, 3, .int wl_2)] [] [] H_7 locs_7 → (1 ≤ w0_7.toInt ∧ w0_7.toInt ≤ 4 ∧ (r_6.toInt < 65536 ∨ 2 ≤ w0_7.toInt)) → ∀ ls : Array Slot, lv_has ls 7 [(0, .ref r0), (1, .ref r1), (2, .int a2), (3, .int v3_2), (4, .int v4_2), (5, .int r_6)] → W p l e R s m ([.ref r0, .ref r1, .int a2] : List Value).toArray below meth c H_7 locs_7 0 0 Q (F0 m 44 ls [.int w0_7, .int v3_2]) := by
            intro w0_7 H_7 locs_7 hh_7  hi_7 ls hl
            obtain ⟨hi_7_0, hi_7_1, hi_7_2⟩ := hi_7
            refine lv_iadd hx hb dX1_decode_44 ?_
            refine lv_topi (fun z_8 ez_8 => ?_)
            have hz_8 : z_8.toInt = v3_2.toInt + w0_7.toInt := by rw [ez_8]; exact jb_iadd2 (rfl) (rfl) (by omega)
            refine lv_istore_n (lv' := [(3, .int z_8), (0, .ref r0), (1, .ref r1), (2, .int a2), (4, .int v4_2), (5, .int r_6)]) hx hb dX1_decode_45 rfl hl (by decide) rfl (fun ls hl => ?_)
            refine lv_iload hx hb dX1_decode_46 (lv_at hl 5 rfl) ?_
            refine lv_ldc hx hb hown hcs_65 dX1_decode_48 ?_
            have C58 : ∀ (w0_9 : Int32) (H_9 : Heap) (locs_9 : List Loc), jSt (dC, dI) B base G0 G0 EX1_decodeT s.heap 0 0 [(r0, 3, 3, .int wl_2)] [] [] H_9 locs_9 → (1 ≤ w0_9.toInt ∧ w0_9.toInt ≤ 2 ∧ (w0_9.toInt = 1 ∨ 65536 ≤ r_6.toInt)) → ∀ ls : Array Slot, lv_has ls 7 [(0, .ref r0), (1, .ref r1), (2, .int a2), (3, .int z_8), (4, .int v4_2), (5, .int r_6)] → W p l e R s m ([.ref r0, .ref r1, .int a2] : List Value).toArray below meth c H_9 locs_9 0 0 Q (F0 m 58 ls [.int w0_9]) := by
              intro w0_9 H_9 locs_9 hh_9  hi_9 ls hl
              obtain ⟨hi_9_0, hi_9_1, hi_9_2⟩ := hi_9
              refine lv_istore (lv' := [(6, .int w0_9), (0, .ref r0), (1, .ref r1), (2, .int a2), (3, .int z_8), (4, .int v4_2), (5, .int r_6)]) hx hb dX1_decode_58 hl (by decide) rfl (fun ls hl => ?_)
              refine lv_aload_n hx hb dX1_decode_60 rfl (lv_at hl 1 rfl) ?_
              refine j7_read hx hb hown hK (C := RX1) (T := TX1) (N := 17) rfl hly_3_3 hlk_42 (hh_9.at 0 rfl) dX1_decode_61 ?_
              refine lv_iload hx hb dX1_decode_64 (lv_at hl 0 rfl) ?_
              refine lv_iadd hx hb dX1_decode_66 ?_
              refine lv_topi (fun z_10 ez_10 => ?_)
              have hz_10 : z_10.toInt = wl_2.toInt + w0_9.toInt := by rw [ez_10]; exact jb_iadd2 (rfl) (rfl) (by omega)
              refine lv_sipush (v := 1500) hx hb dX1_decode_67 (by decide) ?_
              refine lv_icmp_le (tgt := 75) hx hb dX1_decode_70 (by decide) (fun c_11 => ?_) (fun c_11 => ?_)
              · skip
                have c_11' : z_10.toInt ≤ 1500 := jb_le (rfl) ((by decide)) c_11
                refine lv_iload hx hb dX1_decode_75 (lv_at hl 0 rfl) ?_
                refine lv_iconst (v := 2) hx hb dX1_decode_77 (by decide) ?_
                refine lv_icmp_ne (tgt := 127) hx hb dX1_decode_78 (by decide) (fun c_12 => ?_) (fun c_12 => ?_)
                · skip
                  have c_12' : w0_9.toInt ≠ 2 := jb_ne (rfl) ((by decide)) c_12
                  refine lv_aload_n hx hb dX1_decode_127 rfl (lv_at hl 1 rfl) ?_
                  obtain ⟨v_13, hv_13, hh_14⟩ := hh_9.pin (C := RX1) (T := TX1) (N := 17) hB3 rfl (by decide) hg_r0 (i := 2) (by decide) rfl
                  clear hh_9
                  obtain ⟨text_15, rfl, hg_text_15⟩ := hv_13
                  refine j7_read hx hb hown hK (C := RX1) (T := TX1) (N := 17) rfl hly_3_2 hlk_15 (hh_14.at 0 rfl) dX1_decode_128 ?_
                  refine lv_aload_n hx hb dX1_decode_131 rfl (lv_at hl 1 rfl) ?_
                  refine j7_read hx hb hown hK (C := RX1) (T := TX1) (N := 17) rfl hly_3_3 hlk_42 (hh_14.at 1 rfl) dX1_decode_132 ?_
                  refine lv_iload hx hb dX1_decode_135 (lv_at hl 6 rfl) ?_
                  refine lv_if_ge (tgt := 145) hx hb dX1_decode_137 (by decide) (fun c_16 => ?_) (fun c_16 => ?_)
                  · skip
                    have c_16' : r_6.toInt ≥ 0 := jb_ge (rfl) ((by decide)) c_16
                    refine lv_iload hx hb dX1_decode_145 (lv_at hl 6 rfl) ?_
                    refine j7_iast hx hb hK hh_14 hB hB101 1 rfl (by decide) (by decide) rfl rfl rfl hg_text_15 (x := wl_2.toInt) (rfl) (by omega) (trivial) dX1_decode_147 (fun H_17 locs_17 hh_17 => ?_)
                    clear hh_14
                    refine lv_aload_n hx hb dX1_decode_148 rfl (lv_at hl 1 rfl) ?_
                    refine lv_dup hx hb dX1_decode_149 rfl ?_
                    refine j7_read hx hb hown hK (C := RX1) (T := TX1) (N := 17) rfl hly_3_3 hlk_42 (hh_17.at 1 rfl) dX1_decode_150 ?_
                    refine lv_iload hx hb dX1_decode_153 (lv_at hl 0 rfl) ?_
                    refine lv_iadd hx hb dX1_decode_155 ?_
                    refine lv_topi (fun z_18 ez_18 => ?_)
                    have hz_18 : z_18.toInt = wl_2.toInt + w0_9.toInt := by rw [ez_18]; exact jb_iadd2 (rfl) (rfl) (by omega)
                    refine j7_put hx hb hown hK hh_17 hB hAp hB3 (C := RX1) (T := TX1) (N := 17) rfl (by decide) hg_r0 (i := 3) (by decide) hly_3_3 rfl hlk_42 rfl (ty := .int) (v := .int z_18) (by decide +kernel) rfl rfl (⟨_, rfl, by omega, by omega⟩) rfl (L1 := [(r0, 3, 2, .ref text_15)]) [0] rfl rfl rfl dX1_decode_156 (fun H_19 locs_19 hh_19 => ?_)
                    clear hh_17
                    obtain ⟨z_20, ez_20⟩ : ∃ y : Int32, y = v4_2 + 1 := ⟨_, rfl⟩
                    refine lv_iinc (v := z_20) (lv' := [(4, .int z_20), (6, .int w0_9), (0, .ref r0), (1, .ref r1), (2, .int a2), (3, .int z_8), (5, .int r_6)]) hx hb dX1_decode_159 hl (k := 5) rfl (by rw [ez_20]; rfl) (by decide) rfl (fun ls hl => ?_)
                    have hz_20 : z_20.toInt = v4_2.toInt + 1 := by rw [ez_20]; exact jb_iadd2 (rfl) (by decide) (by omega)
                    refine lv_goto (tgt := 10) hx hb dX1_decode_162 (by decide) ?_
                    exact L10 z_8 z_20 z_18 _ _ (hh_19.sub (L1 := [(r0, 3, 3, .int z_18)]) [0] rfl (M1 := []) [] rfl (I1 := []) [] rfl) (by first | omega | (refine ⟨?_, ?_, ?_, ?_, ?_, ?_⟩ <;> (first | omega | rfl | assumption | decide | exact Or.inl rfl | exact Or.inr rfl | (simp only; omega)))) (by omega) _ (lv_sub hl [2, 3, 4, 5, 0] rfl)
                  · skip
                    have c_16' : r_6.toInt < 0 := jb_ge_n (rfl) ((by decide)) c_16
                    refine lv_ldc hx hb hown hcs_68 dX1_decode_140 ?_
                    refine lv_goto (tgt := 147) hx hb dX1_decode_142 (by decide) ?_
                    refine j7_iast hx hb hK hh_14 hB hB101 1 rfl (by decide) (by decide) rfl rfl rfl hg_text_15 (x := wl_2.toInt) (rfl) (by omega) (trivial) dX1_decode_147 (fun H_21 locs_21 hh_21 => ?_)
                    clear hh_14
                    refine lv_aload_n hx hb dX1_decode_148 rfl (lv_at hl 1 rfl) ?_
                    refine lv_dup hx hb dX1_decode_149 rfl ?_
                    refine j7_read hx hb hown hK (C := RX1) (T := TX1) (N := 17) rfl hly_3_3 hlk_42 (hh_21.at 1 rfl) dX1_decode_150 ?_
                    refine lv_iload hx hb dX1_decode_153 (lv_at hl 0 rfl) ?_
                    refine lv_iadd hx hb dX1_decode_155 ?_
                    refine lv_topi (fun z_22 ez_22 => ?_)
                    have hz_22 : z_22.toInt = wl_2.toInt + w0_9.toInt := by rw [ez_22]; exact jb_iadd2 (rfl) (rfl) (by omega)
                    refine j7_put hx hb hown hK hh_21 hB hAp hB3 (C := RX1) (T := TX1) (N := 17) rfl (by decide) hg_r0 (i := 3) (by decide) hly_3_3 rfl hlk_42 rfl (ty := .int) (v := .int z_22) (by decide +kernel) rfl rfl (⟨_, rfl, by omega, by omega⟩) rfl (L1 := [(r0, 3, 2, .ref text_15)]) [0] rfl rfl rfl dX1_decode_156 (fun H_23 locs_23 hh_23 => ?_)
                    clear hh_21
                    obtain ⟨z_24, ez_24⟩ : ∃ y : Int32, y = v4_2 + 1 := ⟨_, rfl⟩
                    refine lv_iinc (v := z_24) (lv' := [(4, .int z_24), (6, .int w0_9), (0, .ref r0), (1, .ref r1), (2, .int a2), (3, .int z_8), (5, .int r_6)]) hx hb dX1_decode_159 hl (k := 5) rfl (by rw [ez_24]; rfl) (by decide) rfl (fun ls hl => ?_)
                    have hz_24 : z_24.toInt = v4_2.toInt + 1 := by rw [ez_24]; exact jb_iadd2 (rfl) (by decide) (by omega)
                    refine lv_goto (tgt := 10) hx hb dX1_decode_162 (by decide) ?_
                    exact L10 z_8 z_24 z_22 _ _ (hh_23.sub (L1 := [(r0, 3, 3, .int z_22)]) [0] rfl (M1 := []) [] rfl (I1 := []) [] rfl) (by first | omega | (refine ⟨?_, ?_, ?_, ?_, ?_, ?_⟩ <;> (first | omega | rfl | assumption | decide | exact Or.inl rfl | exact Or.inr rfl | (simp only; omega)))) (by omega) _ (lv_sub hl [2, 3, 4, 5, 0] rfl)
                · skip
                  have c_12' : w0_9.toInt = 2 := jb_ne_n (rfl) ((by decide)) c_12
                  refine lv_aload_n hx hb dX1_decode_81 rfl (lv_at hl 1 rfl) ?_
                  obtain ⟨v_25, hv_25, hh_26⟩ := hh_9.pin (C := RX1) (T := TX1) (N := 17) hB3 rfl (by decide) hg_r0 (i := 2) (by decide) rfl
                  clear hh_9
                  obtain ⟨text_27, rfl, hg_text_27⟩ := hv_25
                  refine j7_read hx hb hown hK (C := RX1) (T := TX1) (N := 17) rfl hly_3_2 hlk_15 (hh_26.at 0 rfl) dX1_decode_82 ?_
                  refine lv_aload_n hx hb dX1_decode_85 rfl (lv_at hl 1 rfl) ?_
                  refine j7_read hx hb hown hK (C := RX1) (T := TX1) (N := 17) rfl hly_3_3 hlk_42 (hh_26.at 1 rfl) dX1_decode_86 ?_
                  refine lv_ldc hx hb hown hcs_66 dX1_decode_89 ?_
                  refine lv_iload hx hb dX1_decode_91 (lv_at hl 6 rfl) ?_
                  refine lv_ldc hx hb hown hcs_65 dX1_decode_93 ?_
                  refine lv_isub hx hb dX1_decode_95 ?_
                  refine lv_topi (fun z_28 ez_28 => ?_)
                  refine lv_bipush (v := 10) hx hb dX1_decode_96 (by decide) ?_
                  refine lv_ishr hx hb dX1_decode_98 ?_
                  refine lv_topi (fun z_29 ez_29 => ?_)
                  have hz_29 : z_29.toInt = z_28.toInt / 2 ^ 10 := by rw [ez_29]; exact jb_ishr 10 (rfl) (by decide)
                  refine lv_iadd hx hb dX1_decode_99 ?_
                  refine lv_topi (fun z_30 ez_30 => ?_)
                  refine j7_iast hx hb hK hh_26 hB hB101 1 rfl (by decide) (by decide) rfl rfl rfl hg_text_27 (x := wl_2.toInt) (rfl) (by omega) (trivial) dX1_decode_100 (fun H_31 locs_31 hh_31 => ?_)
                  clear hh_26
                  refine lv_aload_n hx hb dX1_decode_101 rfl (lv_at hl 1 rfl) ?_
                  refine j7_read hx hb hown hK (C := RX1) (T := TX1) (N := 17) rfl hly_3_2 hlk_15 (hh_31.at 0 rfl) dX1_decode_102 ?_
                  refine lv_aload_n hx hb dX1_decode_105 rfl (lv_at hl 1 rfl) ?_
                  refine j7_read hx hb hown hK (C := RX1) (T := TX1) (N := 17) rfl hly_3_3 hlk_42 (hh_31.at 1 rfl) dX1_decode_106 ?_
                  refine lv_iconst (v := 1) hx hb dX1_decode_109 (by decide) ?_
                  refine lv_iadd hx hb dX1_decode_110 ?_
                  refine lv_topi (fun z_32 ez_32 => ?_)
                  have hz_32 : z_32.toInt = wl_2.toInt + 1 := by rw [ez_32]; exact jb_iadd2 (rfl) ((by decide)) (by omega)
                  refine lv_ldc hx hb hown hcs_67 dX1_decode_111 ?_
                  refine lv_iload hx hb dX1_decode_113 (lv_at hl 6 rfl) ?_
                  refine lv_ldc hx hb hown hcs_65 dX1_decode_115 ?_
                  refine lv_isub hx hb dX1_decode_117 ?_
                  refine lv_topi (fun z_33 ez_33 => ?_)
                  refine lv_sipush (v := 1023) hx hb dX1_decode_118 (by decide) ?_
                  refine lv_iand hx hb dX1_decode_121 ?_
                  refine lv_topi (fun z_34 ez_34 => ?_)
                  have hz_34 : 0 ≤ z_34.toInt ∧ z_34.toInt ≤ 1023 := by rw [ez_34]; exact jb_and z_33 (m := 1023) (k := 10) (by decide) (by decide)
                  refine lv_iadd hx hb dX1_decode_122 ?_
                  refine lv_topi (fun z_35 ez_35 => ?_)
                  refine j7_iast hx hb hK hh_31 hB hB101 1 rfl (by decide) (by decide) rfl rfl rfl hg_text_27 (x := z_32.toInt) (rfl) (by omega) (trivial) dX1_decode_123 (fun H_36 locs_36 hh_36 => ?_)
                  clear hh_31
                  refine lv_goto (tgt := 148) hx hb dX1_decode_124 (by decide) ?_
                  refine lv_aload_n hx hb dX1_decode_148 rfl (lv_at hl 1 rfl) ?_
                  refine lv_dup hx hb dX1_decode_149 rfl ?_
                  refine j7_read hx hb hown hK (C := RX1) (T := TX1) (N := 17) rfl hly_3_3 hlk_42 (hh_36.at 1 rfl) dX1_decode_150 ?_
                  refine lv_iload hx hb dX1_decode_153 (lv_at hl 0 rfl) ?_
                  refine lv_iadd hx hb dX1_decode_155 ?_
                  refine lv_topi (fun z_37 ez_37 => ?_)
                  have hz_37 : z_37.toInt = wl_2.toInt + w0_9.toInt := by rw [ez_37]; exact jb_iadd2 (rfl) (rfl) (by omega)
                  refine j7_put hx hb hown hK hh_36 hB hAp hB3 (C := RX1) (T := TX1) (N := 17) rfl (by decide) hg_r0 (i := 3) (by decide) hly_3_3 rfl hlk_42 rfl (ty := .int) (v := .int z_37) (by decide +kernel) rfl rfl (⟨_, rfl, by omega, by omega⟩) rfl (L1 := [(r0, 3, 2, .ref text_27)]) [0] rfl rfl rfl dX1_decode_156 (fun H_38 locs_38 hh_38 => ?_)
                  clear hh_36
                  obtain ⟨z_39, ez_39⟩ : ∃ y : Int32, y = v4_2 + 1 := ⟨_, rfl⟩
                  refine lv_iinc (v := z_39) (lv' := [(4, .int z_39), (6, .int w0_9), (0, .ref r0), (1, .ref r1), (2, .int a2), (3, .int z_8), (5, .int r_6)]) hx hb dX1_decode_159 hl (k := 5) rfl (by rw [ez_39]; rfl) (by decide) rfl (fun ls hl => ?_)
                  have hz_39 : z_39.toInt = v4_2.toInt + 1 := by rw [ez_39]; exact jb_iadd2 (rfl) (by decide) (by omega)
                  refine lv_goto (tgt := 10) hx hb dX1_decode_162 (by decide) ?_
                  exact L10 z_8 z_39 z_37 _ _ (hh_38.sub (L1 := [(r0, 3, 3, .int z_37)]) [0] rfl (M1 := []) [] rfl (I1 := []) [] rfl) (by first | omega | (refine ⟨?_, ?_, ?_, ?_, ?_, ?_⟩ <;> (first | omega | rfl | assumption | decide | exact Or.inl rfl | exact Or.inr rfl | (simp only; omega)))) (by omega) _ (lv_sub hl [2, 3, 4, 5, 0] rfl)
              · skip
                have c_11' : z_10.toInt > 1500 := jb_le_n (rfl) ((by decide)) c_11
                refine lv_iconst (v := 0) hx hb dX1_decode_73 (by decide) ?_
                rw [hQ]
                exact W.zret (v := 0) hx hb hr (jb_nz (Or.inl rfl)) (fun t ht hW => ⟨⟨0, wl_2, rfl, ⟨(Or.inl rfl), by first | omega | (refine ⟨?_, ?_, ?_⟩ <;> (first | omega | rfl | assumption | decide | exact Or.inl rfl | exact Or.inr rfl | (simp only; omega)))⟩, hh_9.rt (M1 := [(r0, 3, 3, .int wl_2)]) [0] rfl ht⟩, by rw [ht]; try exact hh_9.1.1, fun q h9 hq => by rw [ht]; try exact hh_9.1.2.1 q h9 hq⟩) hh_9.1.2.2 dX1_decode_74
            refine lv_icmp_lt (tgt := 57) hx hb dX1_decode_50 (by decide) (fun c_40 => ?_) (fun c_40 => ?_)
            · skip
              have c_40' : r_6.toInt < 65536 := jb_lt (rfl) ((by decide)) c_40
              refine lv_iconst (v := 1) hx hb dX1_decode_57 (by decide) ?_
              exact C58 1 _ _ hh_7 (by first | omega | (refine ⟨?_, ?_, ?_⟩ <;> (first | omega | rfl | assumption | decide | exact Or.inl rfl | exact Or.inr rfl | (simp only; omega)))) _ (lv_sub hl [1, 2, 3, 0, 4, 5] rfl)
            · skip
              have c_40' : r_6.toInt ≥ 65536 := jb_lt_n (rfl) ((by decide)) c_40
              refine lv_iconst (v := 2) hx hb dX1_decode_53 (by decide) ?_
              refine lv_goto (tgt := 58) hx hb dX1_decode_54 (by decide) ?_
              exact C58 2 _ _ hh_7 (by first | omega | (refine ⟨?_, ?_, ?_⟩ <;> (first | omega | rfl | assumption | decide | exact Or.inl rfl | exact Or.inr rfl | (simp only; omega)))) _ (lv_sub hl [1, 2, 3, 0, 4, 5] rfl)
          refine lv_if_ge (tgt := 39) hx hb dX1_decode_32 (by decide) (fun c_41 => ?_) (fun c_41 => ?_)
          · skip
            have c_41' : r_6.toInt ≥ 0 := jb_ge (rfl) ((by decide)) c_41
            refine lv_iload hx hb dX1_decode_39 (lv_at hl 0 rfl) ?_
            refine va_calli (A0 := jA base) (H0 := s.heap) (va_runS (As := [.int r_6]) (rest := [.int v3_2]) ⟨hx, hb, hml, hown, hts⟩ (uX0_decodedSizeD l dC dI ca base B hB hAp G0 H_5 r_6) (va_cwS 1 hts (jgS (jWr_94 _ (List.mem_of_getElem? (i := 1) rfl)) (jWr_22 _ (List.mem_of_getElem? (i := 1) rfl)) (jWr_1 _ (List.mem_of_getElem? (i := 14) rfl)) (jWr_22 _ (List.mem_of_getElem? (i := 2) rfl))) rfl rfl rfl (by decide +kernel) ⟨by rw [← hR]; exact Nat.le_of_ble_eq_true rfl, by rw [← hR]; exact Nat.le_of_ble_eq_true rfl⟩) ⟨fun a U g mk q => by obtain ⟨q0, q1, q2, qK, q10, q11⟩ := q; exact ⟨q0, q1, q2, jG.calling g mk a qK, q10, q11⟩, fun U hU hW => ⟨rfl, hU, hh_5.2.1, hG.step hW hU hh_5.1, jP.nil, trivial⟩⟩ rfl rfl hl.1 rfl (lv_room (Nat.le_of_ble_eq_true rfl)) dX1_decode_41 ⟨Nat.zero_le _, Nat.zero_le _⟩) hh_5.1 (fun q _ h => h) (fun q h => h) (fun r_43 u_42 t_42 H_42 locs_42 ht_42 hvm_42 hr_43 hb_42 hz_42 hk_42 hS_42 => ?_)
            rw [ht_42] at hb_42
            obtain ⟨hb_421, hb_422, hb_423, hb_424, hb_425⟩ := hb_42
            have hh_42 : jSt (dC, dI) B base G0 G0 EX1_decodeT s.heap 0 0 [(r0, 3, 3, .int wl_2)] [] [] H_42 locs_42 := ((hh_5.call hb_421 hb_422 hb_423 hb_424 hS_42 rfl (L1 := [(r0, 3, 3, .int wl_2)]) [0] rfl rfl (M1 := []) [] rfl rfl (I1 := []) [] rfl rfl).more hb_425)
            clear hh_5 ht_42 hvm_42 hz_42 hk_42 hS_42 hb_421 hb_422 hb_423 hb_424 hb_425
            obtain ⟨hr_43_0, hr_43_1, hr_43_2⟩ := hr_43
            exact C44 r_43 _ _ hh_42 (by first | omega | (refine ⟨?_, ?_, ?_⟩ <;> (first | omega | rfl | assumption | decide | exact Or.inl rfl | exact Or.inr rfl | (simp only; omega)))) _ (lv_sub hl [1, 2, 3, 4, 5, 0] rfl)
          · skip
            have c_41' : r_6.toInt < 0 := jb_ge_n (rfl) ((by decide)) c_41
            refine lv_iconst (v := 1) hx hb dX1_decode_35 (by decide) ?_
            refine lv_goto (tgt := 44) hx hb dX1_decode_36 (by decide) ?_
            exact C44 1 _ _ hh_5 (by first | omega | (refine ⟨?_, ?_, ?_⟩ <;> (first | omega | rfl | assumption | decide | exact Or.inl rfl | exact Or.inr rfl | (simp only; omega)))) _ (lv_sub hl [1, 2, 3, 4, 5, 0] rfl)
  exact L10 (((a2.toInt - (0 : Int32).toInt).toNat : Int) : Int).toNat.succ 0 0 0 _ _ hh_1 (by first | omega | (refine ⟨?_, ?_, ?_, ?_, ?_, ?_⟩ <;> (first | omega | rfl | assumption | decide | exact Or.inl rfl | exact Or.inr rfl | (simp only; omega)))) (by omega) _ (lv_sub hl [2, 3, 4, 1, 0] rfl)
set_option maxHeartbeats 4000000 in
set_option maxRecDepth 20000 in
theorem uX11_batch (l : Launch) (dC : Nat → ClassId) (dI : Nat → Nat → Nat) (ca : Nat → ClassId) (base : Nat) (B : jF) (hB : jBok B) (hAp : jAp (dC, dI)) (hB2 : ∀ n G a H, B 2 n G a H ↔ jOb (dC, dI) 2 2 (F2 n G) a H) (hB3 : ∀ n G a H, B 3 n G a H ↔ jOb (dC, dI) 3 17 (F3 n G) a H) (hB5 : ∀ n G a H, B 5 n G a H ↔ jOb (dC, dI) 5 4 (F5 n G) a H) (hB7 : ∀ n G a H, B 7 n G a H ↔ jOb (dC, dI) 7 11 (F7 n G) a H) (hB8 : ∀ n G a H, B 8 n G a H ↔ jOb (dC, dI) 8 4 (F8 n G) a H) (hB11 : ∀ n G a H, B 11 n G a H ↔ jOb (dC, dI) 11 9 (F11 n G) a H) (hB12 : ∀ n G a H, B 12 n G a H ↔ jOb (dC, dI) 12 11 (F12b n G) a H) (hB13 : ∀ n G a H, B 13 n G a H ↔ jOb (dC, dI) 13 19 (F13 n G) a H) (hB100 : ∀ n G a H, B 100 n G a H ↔ jAr (dC, dI) (ca 0) (fun j z => True) n a H) (hB101 : ∀ n G a H, B 101 n G a H ↔ jAr (dC, dI) (ca 1) (fun j z => True) n a H) (hB102 : ∀ n G a H, B 102 n G a H ↔ jAl (dC, dI) (ca 2) n a H) (hB132 : ∀ n G a H, B 132 n G a H ↔ jAr (dC, dI) (ca 1) (fun j z => 0 ≤ z.toInt ∧ z.toInt ≤ 10) n a H) (hB133 : ∀ n G a H, B 133 n G a H ↔ jAr (dC, dI) (ca 1) (fun j z => 0 ≤ z.toInt ∧ z.toInt ≤ 8192) n a H) (hB171 : ∀ n G a H, B 171 n G a H ↔ jAr (dC, dI) (ca 1) (fun j z => 0 ≤ z.toInt ∧ z.toInt ≤ 1500) n a H) (hB172 : ∀ n G a H, B 172 n G a H ↔ jAr (dC, dI) (ca 1) (fun j z => 0 ≤ z.toInt ∧ z.toInt ≤ 1500) n a H) (hB196 : ∀ n G a H, B 196 n G a H ↔ jAr (dC, dI) (ca 0) (fun j z => jBf j z) n a H) (hB210 : ∀ n G a H, B 210 n G a H ↔ jAq (dC, dI) (ca 6) (jQn 11 0) n G a H) (hB211 : ∀ n G a H, B 211 n G a H ↔ jAq (dC, dI) (ca 7) (jQh) n G a H) (hB214 : ∀ n G a H, B 214 n G a H ↔ jAq (dC, dI) (ca 7) (jQg) n G a H) (hB280 : ∀ n G a H, B 280 n G a H ↔ jAr (dC, dI) (ca 1) (fun j z => -1 ≤ z.toInt) n a H) (hB290 : ∀ n G a H, B 290 n G a H ↔ jAr (dC, dI) (ca 1) (fun j z => 0 ≤ z.toInt ∧ z.toInt ≤ 3000) n a H) (hB291 : ∀ n G a H, B 291 n G a H ↔ jAr (dC, dI) (ca 1) (fun j z => 0 ≤ z.toInt ∧ z.toInt ≤ 3000) n a H) (hB292 : ∀ n G a H, B 292 n G a H ↔ jAr (dC, dI) (ca 1) (fun j z => 0 ≤ z.toInt ∧ z.toInt ≤ 8191) n a H) (hB293 : ∀ n G a H, B 293 n G a H ↔ jAr (dC, dI) (ca 1) (fun j z => -1 ≤ z.toInt ∧ z.toInt ≤ 8191) n a H) (hB313 : ∀ n G a H, B 313 n G a H ↔ jAq (dC, dI) (ca 8) (jQk 280 80) n G a H) (hB315 : ∀ n G a H, B 315 n G a H ↔ jAqZ (dC, dI) (ca 8) n a H) (G0 : jT) (H0 : Heap) (r0 : Nat) (a1 : Int32) (ta : Nat) (pt : Int32) (pr : Nat) (n_pr : Nat) (ph : Nat) (LC LS : Nat) : Met l yX11_batch (jw yX11_batch cX11_batch 5 (some .int)) ({ frames := 71, cells := LC - H0.size, slots := LS - jTot H0, locals := 2283 }) (va_Pc [.ref r0, .int a1] (fun U => U.heap = H0 ∧ jX B base G0 [] H0 ∧ jG dC dI ca base U ∧ jK2 dC dI ca U ∧ jK5 dC dI ca U ∧ jK6 U ∧ jK8 U ∧ G0 r0 = some (13, 0) ∧ G0 ta = some (2, 4000) ∧ G0 pr = some (196, n_pr) ∧ jP (dC, dI) G0 H0 [(r0, 13, 0, .ref ta), (ta, 2, 1, .int pt), (ta, 2, 0, .ref pr)] ∧ jIs (dC, dI) G0 H0 [(jFy, jYb dC dI G0), (jFs11, jSef dC dI G0), (jFdo, jDcc dC dI ca G0 none ph)] ∧ H0.size + 8 + 24 * (pt.toInt.toNat + 3) ≤ LC ∧ jTot H0 + 1720 + 185 * (pt.toInt.toNat + 3) ≤ LS ∧ 0 ≤ pt.toInt ∧ pt.toInt ≤ 4000 ∧ n_pr = 4000)) (va_Qi (S := Int32 × Nat × Nat × jT) (fun r u => (((a1.toInt < 0 ∨ pt.toInt < a1.toInt) ∧ u.1.toInt = pt.toInt ∨ 0 ≤ a1.toInt ∧ a1.toInt ≤ pt.toInt ∧ u.1.toInt = 0) ∧ u.2.1 ≤ ph + 1500 ∧ u.2.2.1 = pt.toInt - u.1.toInt)) (fun u t => jRa (dC, dI) B base G0 u.2.2.2 EX11_batch H0 (80 + 24 * u.2.2.1) (2275 + 185 * u.2.2.1) [(ta, 2, 1, .int u.1)] t.heap ∧ (jNk [0, 1, 2, 4, 6, 7, 8, 9, 10, 12, 13, 14, 15, 16]) G0 u.2.2.2 ∧ jOl (dC, dI) G0 2 [ta] H0 t.heap ∧ jIs (dC, dI) u.2.2.2 t.heap [(jFy, jYb dC dI u.2.2.2), (jFs11, jSef dC dI u.2.2.2), (jFdo, jDcc dC dI ca u.2.2.2 none (u.2.1))]) (jA base)) (LC - H0.size) (LS - jTot H0) (jA base) := by
  refine Met.ofW (cc := cX11_batch) (maxL := 5) (ret := (some .int)) (by decide) rfl ?_
  intro p e s m args below meth c s₁ Bd hml hv
  obtain ⟨rfl, hH0, hX, hG, hK2, hK5, hK6, hK8, hg_r0, hg_ta, hg_pr, hP0, hI0, hLC0, hLS0, hp0, hp1, hp2⟩ := hv
  have hK := hG.1
  have hx := Bd.exec
  have hb := Bd.bytes
  have hr := Bd.returns
  have hts := atoms_spec (ws := (jw yX11_batch cX11_batch 5 (some .int))) Bd.pre
  have htw : ∀ w ∈ jWl, w.before _ s = true := fun w h => hts w (List.mem_cons_of_mem _ h)
  have hown : s.vm.findClass RX11 = some m.cls := findClass_of_methodNamed Bd.named
  have hlocks := Bd.notSynchronized
  obtain ⟨Q, hQ⟩ : ∃ Q, Q = MQ below (va_Qi (S := Int32 × Nat × Nat × jT) (fun r u => (((a1.toInt < 0 ∨ pt.toInt < a1.toInt) ∧ u.1.toInt = pt.toInt ∨ 0 ≤ a1.toInt ∧ a1.toInt ≤ pt.toInt ∧ u.1.toInt = 0) ∧ u.2.1 ≤ ph + 1500 ∧ u.2.2.1 = pt.toInt - u.1.toInt)) (fun u t => jRa (dC, dI) B base G0 u.2.2.2 EX11_batch H0 (80 + 24 * u.2.2.1) (2275 + 185 * u.2.2.1) [(ta, 2, 1, .int u.1)] t.heap ∧ (jNk [0, 1, 2, 4, 6, 7, 8, 9, 10, 12, 13, 14, 15, 16]) G0 u.2.2.2 ∧ jOl (dC, dI) G0 2 [ta] H0 t.heap ∧ jIs (dC, dI) u.2.2.2 t.heap [(jFy, jYb dC dI u.2.2.2), (jFs11, jSef dC dI u.2.2.2), (jFdo, jDcc dC dI ca u.2.2.2 none (u.2.1))]) (jA base)) ([.ref r0, .int a1] : List Value).toArray s (LC - H0.size) (LS - jTot H0) (jA base) := ⟨_, rfl⟩
  rw [← hQ]
  have hl := lv_entry ([.ref r0, .int a1]) (n := 5) (Nat.le_of_ble_eq_true rfl)
  rw [lg_entry_eq]
  generalize (lg_sl ([.ref r0, .int a1]) ++ List.replicate (5 - (lg_sl ([.ref r0, .int a1])).length) Slot.unset).toArray = ls at hl ⊢
  have hl : lv_has ls 5 [(0, .ref r0), (1, .int a1)] := hl
  generalize hR : (headSpec (jw yX11_batch cX11_batch 5 (some .int)) ({ frames := 71, cells := LC - H0.size, slots := LS - jTot H0, locals := 2283 })).room = R
  subst hH0
  have hh : jSt (dC, dI) B base G0 G0 EX11_batch s.heap 0 0 [(r0, 13, 0, .ref ta), (ta, 2, 1, .int pt), (ta, 2, 0, .ref pr)] [] [(jFy, jYb dC dI G0), (jFs11, jSef dC dI G0), (jFdo, jDcc dC dI ca G0 none ph)] s.heap [] := jSt.start hX hP0 jMc.nil hI0
  clear hX hP0
  have hkm2 : ((-2) : Int32).toInt = (-2) := by decide
  have hkm1 : ((-1) : Int32).toInt = (-1) := by decide
  have hk0 : (0 : Int32).toInt = 0 := by decide
  have hk1 : (1 : Int32).toInt = 1 := by decide
  have hly_2_0 := htw (u_lay RX0 TX0 0) (jWc_wsX00 _ (u_in_lay (by decide)))
  have hly_2_1 := htw (u_lay RX0 TX0 1) (jWc_wsX00 _ (u_in_lay (by decide)))
  have hly_3_2 := htw (u_lay RX1 TX1 2) (jWc_wsX10 _ (u_in_lay (by decide)))
  have hly_3_4 := htw (u_lay RX1 TX1 4) (jWc_wsX10 _ (u_in_lay (by decide)))
  have hly_3_5 := htw (u_lay RX1 TX1 5) (jWc_wsX10 _ (u_in_lay (by decide)))
  have hly_3_6 := htw (u_lay RX1 TX1 6) (jWc_wsX10 _ (u_in_lay (by decide)))
  have hly_3_8 := htw (u_lay RX1 TX1 8) (jWc_wsX10 _ (u_in_lay (by decide)))
  have hly_3_9 := htw (u_lay RX1 TX1 9) (jWc_wsX10 _ (u_in_lay (by decide)))
  have hly_7_1 := htw (u_lay RX5 TX5 1) (jWc_wsX50 _ (u_in_lay (by decide)))
  have hly_7_2 := htw (u_lay RX5 TX5 2) (jWc_wsX50 _ (u_in_lay (by decide)))
  have hly_13_0 := htw (u_lay RX11 TX11 0) (jWc_wsX110 _ (u_in_lay (by decide)))
  have hly_13_5 := htw (u_lay RX11 TX11 5) (jWc_wsX110 _ (u_in_lay (by decide)))
  have hly_13_15 := htw (u_lay RX11 TX11 15) (jWc_wsX110 _ (u_in_lay (by decide)))
  have hly_13_16 := htw (u_lay RX11 TX11 16) (jWc_wsX110 _ (u_in_lay (by decide)))
  have hly_13_18 := htw (u_lay RX11 TX11 18) (jWc_wsX110 _ (u_in_lay (by decide)))
  have hlk_14 := (htw (.fieldLink RX11 14 "ProofServer" "tape" "LProofServer$Bytes;") (jWr_1 _ (List.mem_of_getElem? (i := 15) rfl)))
  have hlk_92 := (htw (.fieldLink RX11 92 "ProofServer$Bytes" "count" "I") (jWr_15 _ (List.mem_of_getElem? (i := 18) rfl)))
  have hlk_82 := (htw (.fieldLink RX11 82 "ProofServer" "spare" "LProofServer$Document;") (jWr_2 _ (List.mem_of_getElem? (i := 22) rfl)))
  have hlk_98 := (htw (.fieldLink RX11 98 "ProofServer$Bytes" "row" "[B") (jWr_17 _ (List.mem_of_getElem? (i := 7) rfl)))
  have hlk_200 := (htw (.fieldLink RX11 200 "ProofServer" "latest" "LProofServer$Document;") (jWr_93 _ (List.mem_of_getElem? (i := 14) rfl)))
  have hlk_89 := (htw (.fieldLink RX11 89 "ProofServer" "shownOf" "I") (jWr_3 _ (List.mem_of_getElem? (i := 0) rfl)))
  have hlk_41 := (htw (.fieldLink RX11 41 "ProofServer" "kernel" "LProofServer$Kernel;") (jWr_2 _ (List.mem_of_getElem? (i := 5) rfl)))
  have hlk_203 := (htw (.fieldLink RX11 203 "ProofServer$Kernel" "syntax" "LProofServer$Syntax;") (jWr_35 _ (List.mem_of_getElem? (i := 16) rfl)))
  have hlk_168 := (htw (.fieldLink RX11 168 "ProofServer$Document" "sentences" "I") (jWr_35 _ (List.mem_of_getElem? (i := 4) rfl)))
  have hlk_174 := (htw (.fieldLink RX11 174 "ProofServer$Document" "text" "[I") (jWr_77 _ (List.mem_of_getElem? (i := 15) rfl)))
  have hlk_182 := (htw (.fieldLink RX11 182 "ProofServer$Document" "starts" "[I") (jWr_40 _ (List.mem_of_getElem? (i := 13) rfl)))
  have hlk_185 := (htw (.fieldLink RX11 185 "ProofServer$Document" "ends" "[I") (jWr_40 _ (List.mem_of_getElem? (i := 14) rfl)))
  have hlk_178 := (htw (.fieldLink RX11 178 "ProofServer$Document" "behind" "[LProofServer$State;") (jWr_39 _ (List.mem_of_getElem? (i := 23) rfl)))
  have hlk_217 := (htw (.fieldLink RX11 217 "ProofServer$Kernel" "start" "LProofServer$State;") (jWr_30 _ (List.mem_of_getElem? (i := 6) rfl)))
  have hlk_225 := (htw (.fieldLink RX11 225 "ProofServer$Document" "early" "[I") (jWr_93 _ (List.mem_of_getElem? (i := 15) rfl)))
  have hrg_a1 := jb_rng a1
  have hbs : base ≤ s.heap.size := Nat.le_of_lt (Nat.lt_of_le_of_lt (hh.ab hg_r0).1 (hh.ab hg_r0).2)
  have hRc : R.cells = LC - s.heap.size := by rw [← hR]; rfl
  have hRs : R.slots = LS - jTot s.heap := by rw [← hR]; rfl
  have hh_1 := hh.addI (jOl.ie (dC := dC) (dI := dI) (G0 := G0) (k := 2) (rs := [ta]) (H0 := s.heap) (F := [(2, 0), (2, 1)]) (C := RX0) (T := TX0) (N := 2) rfl (by decide) hh.2.2.2.2.1 (jOl.rf))
  clear hh
  refine lv_iload_n hx hb dX11_batch_0 rfl (lv_at hl 1 rfl) ?_
  refine lv_if_lt (tgt := 15) hx hb dX11_batch_1 (by decide) (fun c_2 => ?_) (fun c_2 => ?_)
  · skip
    have c_2' : a1.toInt < 0 := jb_lt (rfl) ((by decide)) c_2
    refine lv_iconst (v := (-1)) hx hb dX11_batch_15 (by decide) ?_
    have hsz_3 := hh_1.2.2.2.2.2.1
    have htt_3 := hh_1.2.2.2.2.2.2.1
    refine W.room (fun hrc_3 hrs_3 => ?_)
    refine W.widen (k := LC - s.heap.size) (n := LS - jTot s.heap) (by omega) (by omega) ?_
    rw [hQ]
    exact W.iret (v := (-1)) hx hb hr (fun t ht hW => ⟨⟨(-1), (pt, ph, (pt.toInt.toNat - (pt.toInt : Int).toNat), G0), rfl, by (try dsimp only); exact ⟨(by first | (with_reducible assumption) | assumption | omega | rfl | fail), (by first | (with_reducible assumption) | omega | rfl | fail), (by first | (with_reducible assumption) | omega | rfl | fail)⟩, ⟨hh_1.ra (by first | (simp only; omega) | omega) (by first | (simp only; omega) | omega) (M1 := [(ta, 2, 1, .int pt)]) [1] rfl ht, jNk.rf, by rw [ht]; exact hh_1.iv 0 rfl, by rw [ht]; exact hh_1.2.2.2.2.2.2.2.2.sub (L1 := [(jFy, jYb dC dI G0), (jFs11, jSef dC dI G0), (jFdo, jDcc dC dI ca G0 none ph)]) [1, 2, 3] rfl⟩⟩, by rw [ht]; try exact hh_1.1.1, fun q h9 hq => by rw [ht]; try exact hh_1.1.2.1 q h9 hq⟩) hh_1.1.2.2 dX11_batch_16
  · skip
    have c_2' : a1.toInt ≥ 0 := jb_lt_n (rfl) ((by decide)) c_2
    refine lv_iload_n hx hb dX11_batch_4 rfl (lv_at hl 1 rfl) ?_
    refine lv_aload_n hx hb dX11_batch_5 rfl (lv_at hl 0 rfl) ?_
    refine j7_read hx hb hown hK (C := RX11) (T := TX11) (N := 19) rfl hly_13_0 hlk_14 (hh_1.at 0 rfl) dX11_batch_6 ?_
    refine j7_read hx hb hown hK (C := RX0) (T := TX0) (N := 2) rfl hly_2_1 hlk_92 (hh_1.at 1 rfl) dX11_batch_9 ?_
    refine lv_icmp_le (tgt := 17) hx hb dX11_batch_12 (by decide) (fun c_4 => ?_) (fun c_4 => ?_)
    · skip
      have c_4' : a1.toInt ≤ pt.toInt := jb_le (rfl) (rfl) c_4
      refine lv_aload_n hx hb dX11_batch_17 rfl (lv_at hl 0 rfl) ?_
      refine j7_read hx hb hown hK (C := RX11) (T := TX11) (N := 19) rfl hly_13_0 hlk_14 (hh_1.at 0 rfl) dX11_batch_18 ?_
      refine lv_iconst (v := 0) hx hb dX11_batch_21 (by decide) ?_
      have hd_6 := hh_1.iv 0 rfl
      have hd_7 := hh_1.iv 1 rfl
      have hh_8 := hh_1.sub (L1 := [(r0, 13, 0, .ref ta), (ta, 2, 1, .int pt), (ta, 2, 0, .ref pr)]) [0, 1, 2] rfl (M1 := []) [] rfl (I1 := [(jFs11, jSef dC dI G0), (jFdo, jDcc dC dI ca G0 none ph)]) [2, 3] rfl
      clear hh_1
      refine j7_putX hx hb hown hK hh_8 hB hAp hB2 (C := RX0) (T := TX0) (N := 2) rfl (by decide) hg_ta (i := 1) (by decide) hly_2_1 rfl hlk_92 rfl (ty := .int) (v := .int 0) (by decide +kernel) rfl rfl (⟨_, rfl, by omega, by omega, by omega⟩) rfl (L1 := [(r0, 13, 0, .ref ta), (ta, 2, 0, .ref pr)]) [0, 2] rfl rfl rfl dX11_batch_22 (fun H_5 locs_5 hr_5 hh_5 => ?_)
      clear hh_8
      have hd_7n := jYb.put hd_7 hr_5 hg_ta (fun h9 => by cases h9)
      have hd_6n := jOl.put hd_6 hr_5 (by simp)
      have hh_9 := hh_5.addI (jYb.ie hd_7n)
      clear hh_5
      have hh_10 := hh_9.addI (jOl.ie (dC := dC) (dI := dI) (G0 := G0) (k := 2) (rs := [ta]) (H0 := s.heap) (F := [(2, 0), (2, 1)]) (C := RX0) (T := TX0) (N := 2) rfl (by decide) hh_9.2.2.2.2.1 (hd_6n))
      clear hh_9
      clear hd_6 hd_6n hd_7 hd_7n hr_5
      refine lv_aload_n hx hb dX11_batch_25 rfl (lv_at hl 0 rfl) ?_
      obtain ⟨v_11, hv_11, hh_12⟩ := hh_10.pin (C := RX11) (T := TX11) (N := 19) hB13 rfl (by decide) hg_r0 (i := 15) (by decide) rfl
      clear hh_10
      obtain ⟨spare_13, rfl, hg_spare_13⟩ := hv_11
      refine j7_read hx hb hown hK (C := RX11) (T := TX11) (N := 19) rfl hly_13_15 hlk_82 (hh_12.at 0 rfl) dX11_batch_26 ?_
      refine lv_astore_n (lv' := [(2, .ref spare_13), (0, .ref r0), (1, .int a1)]) hx hb dX11_batch_29 rfl hl (by decide) rfl (fun ls hl => ?_)
      refine lv_aload_n hx hb dX11_batch_30 rfl (lv_at hl 0 rfl) ?_
      refine lv_aload_n hx hb dX11_batch_31 rfl (lv_at hl 1 rfl) ?_
      refine j7_read hx hb hown hK (C := RX11) (T := TX11) (N := 19) rfl hly_13_0 hlk_14 (hh_12.at 2 rfl) dX11_batch_32 ?_
      refine j7_read hx hb hown hK (C := RX0) (T := TX0) (N := 2) rfl hly_2_0 hlk_98 (hh_12.at 3 rfl) dX11_batch_35 ?_
      refine lv_iload_n hx hb dX11_batch_38 rfl (lv_at hl 2 rfl) ?_
      have hsz_14 := hh_12.2.2.2.2.2.1
      have htt_14 := hh_12.2.2.2.2.2.2.1
      refine W.room (fun hrc_14 hrs_14 => ?_)
      refine va_calli (A0 := jA base) (H0 := s.heap) (va_runV (As := [.ref pr, .int a1]) (rest := []) ⟨hx, hb, hml, hown, hts⟩ (uX1_decodeT l dC dI ca base B hB hAp hB3 hB100 hB101 hB196 G0 H_5 spare_13 pr a1 1 n_pr) (cwV 2 hts (jgV (jWr_93 _ (List.mem_of_getElem? (i := 16) rfl)) (jWr_93 _ (List.mem_of_getElem? (i := 17) rfl)) (jWr_93 _ (List.mem_of_getElem? (i := 18) rfl)) (jWr_2 _ (List.mem_of_getElem? (i := 21) rfl)) (jWr_93 _ (List.mem_of_getElem? (i := 19) rfl))) rfl rfl rfl (by decide +kernel) ⟨by rw [← hR]; exact Nat.le_of_ble_eq_true rfl, by rw [← hR]; exact Nat.le_of_ble_eq_true rfl⟩) ⟨fun a U g mk q => by obtain ⟨q0, q1, q2, qK, q10, q11, q12, q13⟩ := q; exact ⟨q0, q1, q2, jG.calling g mk a qK, q10, q11, q12, q13⟩, hh_12.recv (C := RX1) (T := TX1) (N := 17) hB3 rfl (by decide) hg_spare_13 hK, fun U hU hW => ⟨rfl, hU, hh_12.2.1, hG.step hW hU hh_12.1, hg_spare_13, hg_pr, jP.nil, ⟨(by first | (with_reducible assumption) | omega | rfl | fail), (by first | (with_reducible assumption) | omega | rfl | fail), (by first | (with_reducible assumption) | omega | rfl | fail)⟩⟩⟩ rfl rfl hl.1 rfl (lv_room (Nat.le_of_ble_eq_true rfl)) dX11_batch_39 ⟨by rw [hRc]; show _ + 0 ≤ _; omega, by rw [hRs]; show _ + 0 ≤ _; omega⟩) hh_12.1 (fun q _ h => h) (fun q h => h) (fun r_15 u_14 t_14 H_14 locs_14 ht_14 hvm_14 hr_15 hb_14 hz_14 hk_14 hS_14 => ?_)
      obtain ⟨ql_14, rfl⟩ : ∃ z, z = u_14 := ⟨_, rfl⟩
      rw [ht_14] at hb_14
      obtain ⟨hb_141, hb_142, hb_143, hb_144, hb_145⟩ := hb_14
      have hh_14 : jSt (dC, dI) B base G0 G0 EX11_batch s.heap 0 0 [(spare_13, 3, 3, .int ql_14), (r0, 13, 15, .ref spare_13), (ta, 2, 1, .int 0), (r0, 13, 0, .ref ta), (ta, 2, 0, .ref pr)] [] [([(2, 0), (2, 1)], jOl (dC, dI) G0 2 [ta] s.heap), (jFy, jYb dC dI G0), (jFs11, jSef dC dI G0), (jFdo, jDcc dC dI ca G0 none ph)] H_14 locs_14 := ((hh_12.call hb_141 hb_142 hb_143 hb_144 hS_14 rfl (L1 := [(r0, 13, 15, .ref spare_13), (ta, 2, 1, .int 0), (r0, 13, 0, .ref ta), (ta, 2, 0, .ref pr)]) [0, 1, 2, 3] rfl rfl (M1 := []) [] rfl rfl (I1 := [([(2, 0), (2, 1)], jOl (dC, dI) G0 2 [ta] s.heap), (jFy, jYb dC dI G0), (jFs11, jSef dC dI G0), (jFdo, jDcc dC dI ca G0 none ph)]) [0, 1, 2, 3] rfl rfl).more hb_145)
      clear hh_12 ht_14 hvm_14 hz_14 hk_14 hS_14 hb_141 hb_142 hb_143 hb_144 hb_145
      obtain ⟨hr_15b, hr_15p⟩ := hr_15
      obtain ⟨hr_15p_0, hr_15p_1, hr_15p_2⟩ := hr_15p
      have hr_15' := jb_01 hr_15b
      refine lv_if_ne (tgt := 48) hx hb dX11_batch_42 (by decide) (fun c_16 => ?_) (fun c_16 => ?_)
      · skip
        have c_16' : r_15.toInt ≠ 0 := jb_ne (rfl) ((by decide)) c_16
        refine lv_aload_n hx hb dX11_batch_48 rfl (lv_at hl 1 rfl) ?_
        refine lv_aload_n hx hb dX11_batch_49 rfl (lv_at hl 1 rfl) ?_
        obtain ⟨v_17, hv_17, hh_18⟩ := hh_14.pin (C := RX11) (T := TX11) (N := 19) hB13 rfl (by decide) hg_r0 (i := 16) (by decide) rfl
        clear hh_14
        rcases hv_17 with rfl | ⟨latest_19, rfl, hg_latest_19⟩
        · refine j7_read hx hb hown hK (C := RX11) (T := TX11) (N := 19) rfl hly_13_16 hlk_200 (hh_18.at 0 rfl) dX11_batch_50 ?_
          refine lv_ifnonnullN hx hb dX11_batch_53 ?_
          have hsz_20 := hh_18.2.2.2.2.2.1
          have htt_20 := hh_18.2.2.2.2.2.2.1
          refine j7_newo (k := 3) (C := RX1) (T := TX1) (N := 17) (fs := [.null, .int 0, .null, .int 0, .int 0, .null, .null, .null, .null, .null, .int 0, .null, .null, .int 0, .int 0, .int 0, .int 0]) hx hb htw jWc_wsX10 (fun k => ([(.array .int), .int, (.array .int), .int, .int, (.array .int), (.array .int), (.array .int), (.array .int), (.array (.object "ProofServer$State")), .int, (.array .int), (.object "ProofServer$State"), .int, .int, .int, .int] : List FieldType).getD k .int) (by decide +kernel) hown (htw (.classLink RX11 71 RX1) (jWr_2 _ (List.mem_of_getElem? (i := 17) rfl))) (htw (.instantiable RX1 17) (jWr_2 _ (List.mem_of_getElem? (i := 20) rfl))) (htw (.initialized RX1) (jWr_2 _ (List.mem_of_getElem? (i := 21) rfl))) hK rfl (fun j hj => by rcases (by omega : j = 0 ∨ j = 1 ∨ j = 2 ∨ j = 3 ∨ j = 4 ∨ j = 5 ∨ j = 6 ∨ j = 7 ∨ j = 8 ∨ j = 9 ∨ j = 10 ∨ j = 11 ∨ j = 12 ∨ j = 13 ∨ j = 14 ∨ j = 15 ∨ j = 16) with rfl | rfl | rfl | rfl | rfl | rfl | rfl | rfl | rfl | rfl | rfl | rfl | rfl | rfl | rfl | rfl | rfl <;> rfl) hh_18 hB (by rw [hRc]; omega) (by rw [hRs]; omega) dX11_batch_56 (fun H_20 hraw_20 hfr_20 hnr_20 hh_20 => ?_)
          have hke_20 : jKe G0 G0 H_14 H_20 := jKe.raw hfr_20
          have hbr_20 : base ≤ H_14.size := Nat.le_trans hbs hh_18.1.1
          have hsy_20 : s.heap.size ≤ H_14.size := hh_18.1.1
          clear hh_18
          refine lv_dup hx hb dX11_batch_59 rfl ?_
          have hsz_21 := hh_20.2.2.2.2.2.1
          have htt_21 := hh_20.2.2.2.2.2.2.1
          refine W.room (fun hrc_21 hrs_21 => ?_)
          refine va_callv (A0 := jA base) (H0 := s.heap) (va_runIN (As := []) (rest := [.ref H_14.size, .ref r0]) ⟨hx, hb, hml, hown, hts⟩ (uX1_initE l dC dI ca base B hB hAp hB3 hB11 hB101 hB171 hB172 hB210 G0 H_20 H_14.size 1 (ph) LC LS) ⟨va_cnB 0 hts (jgW (jWr_10 _ (List.mem_of_getElem? (i := 3) rfl))) rfl rfl rfl (hG.2.2.1 RX11 81 yX1_init "ProofServer" (List.mem_of_getElem? (i := 434) (by decide +kernel))) (htw (.initialized RX1) (jWr_2 _ (List.mem_of_getElem? (i := 21) rfl))) (by decide +kernel) ⟨by rw [← hR]; exact Nat.le_of_ble_eq_true rfl, by rw [← hR]; exact Nat.le_of_ble_eq_true rfl⟩, rfl, htw (.instanceMethod yX1_init) (jWr_10 _ (List.mem_of_getElem? (i := 2) rfl))⟩ ⟨fun a U g mk q => by obtain ⟨q0, q1, q2, qK, q10, q11, q12, q13, q14, q15, q16, q17⟩ := q; exact ⟨q0, q1, q2, jG.calling g mk a qK, (va_K.moved (Vm.Alike.refl U.vm) q10), (jK6.moved (Vm.Alike.refl U.vm) q11), q12, q13, q14, q15, q16, q17⟩, fun U hU hW => ⟨rfl, hU, hh_20.2.1, hG.step hW hU hh_20.1, va_K.moved hW.alike hK2, jK6.moved hW.alike hK6, hraw_20, hnr_20, hbr_20, jP.nil, (hh_20.2.2.2.2.2.2.2.2.sub (L1 := [(jFdo, jDcc dC dI ca G0 none ph)]) [3] rfl), (by omega), (by omega), trivial⟩⟩ rfl rfl hl.1 rfl (lv_room (Nat.le_of_ble_eq_true rfl)) dX11_batch_60 ⟨by rw [hRc]; omega, by rw [hRs]; omega⟩) hh_20.1 (fun q _ h => h) (fun q h => h) (fun u_21 t_21 H_21 locs_21 ht_21 hvm_21 hr_22 hb_21 hz_21 hk_21 hS_21 => ?_)
          obtain ⟨qk_21, qs_21, ql_21, G_21⟩ := u_21
          rw [ht_21] at hb_21
          simp only at hb_21
          obtain ⟨⟨hb_211, hb_212, hb_213, hb_214, hb_215, hb_216⟩, hN_21, hgc_21, hbX_21, hbE_21⟩ := hb_21
          have hM_21 := hN_21
          have hN_21 : (jNk [0, 1, 2, 4, 6, 7, 8, 9, 10, 12, 13, 14, 15, 16]) G0 G_21 := hN_21.sub (by decide)
          have hh_21 : jSt (dC, dI) B base G0 G_21 EX11_batch s.heap ((0 + 1) + (7)) ((0 + 17) + (1700)) [(H_14.size, 3, 10, .int qk_21), (H_14.size, 3, 4, .int qs_21), (H_14.size, 3, 3, .int ql_21), (r0, 13, 16, .null), (spare_13, 3, 3, .int ql_14), (r0, 13, 15, .ref spare_13), (ta, 2, 1, .int 0), (r0, 13, 0, .ref ta), (ta, 2, 0, .ref pr)] [] [([(2, 0), (2, 1)], jOl (dC, dI) G0 2 [ta] s.heap), (jFy, jYb dC dI G0), (jFs11, jSef dC dI G0)] H_21 locs_21 := (hh_20.callG hb_211 hb_212 hb_213 hb_214 hb_215 hS_21 rfl (L1 := [(r0, 13, 16, .null), (spare_13, 3, 3, .int ql_14), (r0, 13, 15, .ref spare_13), (ta, 2, 1, .int 0), (r0, 13, 0, .ref ta), (ta, 2, 0, .ref pr)]) [0, 1, 2, 3, 4, 5] rfl rfl (M1 := []) [] rfl rfl (I1 := [([(2, 0), (2, 1)], jOl (dC, dI) G0 2 [ta] s.heap), (jFy, jYb dC dI G0), (jFs11, jSef dC dI G0)]) [0, 1, 2] rfl rfl).more hb_216
          have hNn_21 : (jNk [0, 1, 2, 4, 6, 7, 8, 9, 10, 12, 13, 14, 15, 16]) G0 G_21 := (jNk.rf).tr hN_21
          have hg_23 := hb_212 _ _ hg_spare_13
          have hg_24 := hb_212 _ _ hg_r0
          have hg_25 := hb_212 _ _ hg_ta
          have hg_26 := hb_212 _ _ hg_pr
          have hd_27 := jYb.grow (hh_21.iv 1 rfl) hb_212 hN_21 (by decide)
          have hh_28 := hh_21.sub (L1 := [(H_14.size, 3, 10, .int qk_21), (H_14.size, 3, 4, .int qs_21), (H_14.size, 3, 3, .int ql_21), (r0, 13, 16, .null), (spare_13, 3, 3, .int ql_14), (r0, 13, 15, .ref spare_13), (ta, 2, 1, .int 0), (r0, 13, 0, .ref ta), (ta, 2, 0, .ref pr)]) [0, 1, 2, 3, 4, 5, 6, 7, 8] rfl (M1 := []) [] rfl (I1 := [([(2, 0), (2, 1)], jOl (dC, dI) G0 2 [ta] s.heap), (jFs11, jSef dC dI G0)]) [0, 2] rfl
          clear hh_21
          have hh_29 := hh_28.addI (jYb.ie hd_27)
          clear hh_28
          have hd_30 := jSef.grow (hh_29.iv 2 rfl) hb_212 hM_21 (by decide)
          have hh_31 := hh_29.sub (L1 := [(H_14.size, 3, 10, .int qk_21), (H_14.size, 3, 4, .int qs_21), (H_14.size, 3, 3, .int ql_21), (r0, 13, 16, .null), (spare_13, 3, 3, .int ql_14), (r0, 13, 15, .ref spare_13), (ta, 2, 1, .int 0), (r0, 13, 0, .ref ta), (ta, 2, 0, .ref pr)]) [0, 1, 2, 3, 4, 5, 6, 7, 8] rfl (M1 := []) [] rfl (I1 := [(jFy, jYb dC dI G_21), ([(2, 0), (2, 1)], jOl (dC, dI) G0 2 [ta] s.heap)]) [0, 1] rfl
          clear hh_29
          have hh_32 := hh_31.addI (jSef.ie hd_30)
          clear hh_31
          have hh_33 := hh_32.addIs hbE_21
          try simp only at hr_22
          obtain ⟨hr_22_0, hr_22_1, hr_22_2⟩ := hr_22
          refine lv_goto (tgt := 70) hx hb dX11_batch_63 (by decide) ?_
          refine j7_put hx hb hown hK hh_33 hB hAp hB13 (C := RX11) (T := TX11) (N := 19) rfl (by decide) hg_24 (i := 15) (by decide) hly_13_15 rfl hlk_82 rfl (ty := (.object "ProofServer$Document")) (v := .ref H_14.size) (by decide +kernel) rfl rfl (⟨_, rfl, hgc_21⟩) rfl (L1 := [(H_14.size, 3, 10, .int qk_21), (H_14.size, 3, 4, .int qs_21), (H_14.size, 3, 3, .int ql_21), (r0, 13, 16, .null), (spare_13, 3, 3, .int ql_14), (ta, 2, 1, .int 0), (r0, 13, 0, .ref ta), (ta, 2, 0, .ref pr)]) [0, 1, 2, 3, 4, 6, 7, 8] rfl rfl rfl dX11_batch_70 (fun H_34 locs_34 hh_34 => ?_)
          clear hh_33
          refine lv_aload_n hx hb dX11_batch_73 rfl (lv_at hl 1 rfl) ?_
          refine lv_aload_n hx hb dX11_batch_74 rfl (lv_at hl 0 rfl) ?_
          refine j7_put hx hb hown hK hh_34 hB hAp hB13 (C := RX11) (T := TX11) (N := 19) rfl (by decide) hg_24 (i := 16) (by decide) hly_13_16 rfl hlk_200 rfl (ty := (.object "ProofServer$Document")) (v := .ref spare_13) (by decide +kernel) rfl rfl (Or.inr ⟨_, rfl, hg_23⟩) rfl (L1 := [(r0, 13, 15, .ref H_14.size), (H_14.size, 3, 10, .int qk_21), (H_14.size, 3, 4, .int qs_21), (H_14.size, 3, 3, .int ql_21), (spare_13, 3, 3, .int ql_14), (ta, 2, 1, .int 0), (r0, 13, 0, .ref ta), (ta, 2, 0, .ref pr)]) [0, 1, 2, 3, 5, 6, 7, 8] rfl rfl rfl dX11_batch_75 (fun H_35 locs_35 hh_35 => ?_)
          clear hh_34
          refine lv_aload_n hx hb dX11_batch_78 rfl (lv_at hl 1 rfl) ?_
          refine lv_bipush (v := (-2)) hx hb dX11_batch_79 (by decide) ?_
          refine j7_put hx hb hown hK hh_35 hB hAp hB13 (C := RX11) (T := TX11) (N := 19) rfl (by decide) hg_24 (i := 18) (by decide) hly_13_18 rfl hlk_89 rfl (ty := .int) (v := .int (-2)) (by decide +kernel) rfl rfl (⟨_, rfl⟩) rfl (L1 := [(r0, 13, 16, .ref spare_13), (r0, 13, 15, .ref H_14.size), (H_14.size, 3, 10, .int qk_21), (H_14.size, 3, 4, .int qs_21), (H_14.size, 3, 3, .int ql_21), (spare_13, 3, 3, .int ql_14), (ta, 2, 1, .int 0), (r0, 13, 0, .ref ta), (ta, 2, 0, .ref pr)]) [0, 1, 2, 3, 4, 5, 6, 7, 8] rfl rfl rfl dX11_batch_81 (fun H_36 locs_36 hh_36 => ?_)
          clear hh_35
          obtain ⟨yb_37, ye_37, w_37, pho_37, fb_37, fe_37, ps_37, pk_37, vc_37, hgb_37, hge_37, h5_37, h6_37, hd_37, hpq_37, hE_37, hpl_37, hpw_37⟩ := jDcc.opn (hh_36.iv 0 rfl) hg_23
          have hh_39 := hh_36.sub (L1 := [(r0, 13, 18, .int (-2)), (r0, 13, 16, .ref spare_13), (r0, 13, 15, .ref H_14.size), (H_14.size, 3, 10, .int qk_21), (H_14.size, 3, 4, .int qs_21), (H_14.size, 3, 3, .int ql_21), (spare_13, 3, 3, .int ql_14), (ta, 2, 1, .int 0), (r0, 13, 0, .ref ta), (ta, 2, 0, .ref pr)]) [0, 1, 2, 3, 4, 5, 6, 7, 8, 9] rfl (M1 := []) [] rfl (I1 := [(jFs11, jSef dC dI G_21), (jFy, jYb dC dI G_21), ([(2, 0), (2, 1)], jOl (dC, dI) G0 2 [ta] s.heap)]) [1, 2, 3] rfl
          clear hh_36
          have hh_40 := (hh_39.more (P1 := [(spare_13, 3, 4, .int ps_37), (spare_13, 3, 10, .int pk_37), (spare_13, 3, 5, .ref yb_37), (spare_13, 3, 6, .ref ye_37)]) (jP.cons hg_23 (hd_37.1 _ (List.mem_of_getElem? (i := 0) rfl)).2 (jP.cons hg_23 (hd_37.1 _ (List.mem_of_getElem? (i := 1) rfl)).2 (jP.cons hg_23 h5_37 (jP.cons hg_23 h6_37 jP.nil))))).moreM hd_37.2.1
          have hh_41 := hh_40.addI (jDcc.ie hE_37)
          clear hh_40
          have hps_37 := hd_37.2.2.2
          have hsn_37 := hd_37.2.2.1
          obtain ⟨v_42, hv_42, hh_37⟩ := hh_41.pin (C := RX1) (T := TX1) (N := 17) hB3 rfl (by decide) hg_23 (i := 11) (by decide) rfl
          have hvq_37 : vc_37 = v_42 := jf.uniq (hd_37.1 _ (List.mem_of_getElem? (i := 2) rfl)).2 (hh_37.at 0 rfl)
          subst hvq_37
          clear hh_41
          rcases hv_42 with rfl | ⟨chk_43, nchk_43, rfl, hg_chk_43, hlen_chk_43⟩
          · skip
            refine lv_aload_n hx hb dX11_batch_84 rfl (lv_at hl 0 rfl) ?_
            refine lv_aload_n hx hb dX11_batch_85 rfl (lv_at hl 1 rfl) ?_
            obtain ⟨v_45, hv_45, hh_46⟩ := hh_37.pin (C := RX11) (T := TX11) (N := 19) hB13 rfl (by decide) hg_24 (i := 5) (by decide) rfl
            clear hh_37
            obtain ⟨kernel_47, rfl, hg_kernel_47⟩ := hv_45
            refine j7_read hx hb hown hK (C := RX11) (T := TX11) (N := 19) rfl hly_13_5 hlk_41 (hh_46.at 0 rfl) dX11_batch_86 ?_
            obtain ⟨v_48, hv_48, hh_49⟩ := hh_46.pin (C := RX5) (T := TX5) (N := 11) hB7 rfl (by decide) hg_kernel_47 (i := 1) (by decide) rfl
            clear hh_46
            obtain ⟨syntax_50, rfl, hg_syntax_50⟩ := hv_48
            refine j7_read hx hb hown hK (C := RX5) (T := TX5) (N := 11) rfl hly_7_1 hlk_203 (hh_49.at 0 rfl) dX11_batch_89 ?_
            have hsz_51 := hh_49.2.2.2.2.2.1
            have htt_51 := hh_49.2.2.2.2.2.2.1
            refine W.room (fun hrc_51 hrs_51 => ?_)
            refine va_callv (A0 := jA base) (H0 := s.heap) (va_runV (As := [.ref syntax_50]) (rest := []) ⟨hx, hb, hml, hown, hts⟩ (uX1_partE l dC dI ca base B hB hAp hB3 hB8 hB12 hB101 hB102 hB132 hB133 hB171 hB172 hB293 G_21 H_36 spare_13 syntax_50 1 ql_14 yb_37 ye_37 (pho_37) fb_37 fe_37) (cwV 1 hts (jgV (jWr_36 _ (List.mem_of_getElem? (i := 2) rfl)) (jWr_36 _ (List.mem_of_getElem? (i := 3) rfl)) (jWr_36 _ (List.mem_of_getElem? (i := 4) rfl)) (jWr_2 _ (List.mem_of_getElem? (i := 21) rfl)) (jWr_36 _ (List.mem_of_getElem? (i := 5) rfl))) rfl rfl rfl (by decide +kernel) ⟨by rw [← hR]; exact Nat.le_of_ble_eq_true rfl, by rw [← hR]; exact Nat.le_of_ble_eq_true rfl⟩) ⟨fun a U g mk q => by obtain ⟨q0, q1, q2, qK, q10, q11, q12, q13, q14, q15, q16, q17⟩ := q; exact ⟨q0, q1, q2, jG.calling g mk a qK, q10, q11, q12, q13, q14, q15, q16, q17⟩, hh_49.recv (C := RX1) (T := TX1) (N := 17) hB3 rfl (by decide) hg_23 hK, fun U hU hW => ⟨rfl, hU, hh_49.2.1, hG.step hW hU hh_49.1, hg_23, hg_syntax_50, hgb_37, hge_37, (hh_49.2.2.1.sub (L1 := [(spare_13, 3, 3, .int ql_14), (spare_13, 3, 5, .ref yb_37), (spare_13, 3, 6, .ref ye_37)]) [13, 5, 6] rfl), (hh_49.2.2.2.2.2.2.2.1.sub (L1 := [(yb_37, 171, 40, ca 1, fb_37), (ye_37, 172, 40, ca 1, fe_37)]) [0, 1] rfl), (hh_49.2.2.2.2.2.2.2.2.sub (L1 := [(jFdo, jDcc dC dI ca G_21 (some spare_13) pho_37)]) [0] rfl), ⟨(by first | (with_reducible assumption) | omega | rfl | fail), (by first | (with_reducible assumption) | omega | rfl | fail)⟩⟩⟩ rfl rfl hl.1 rfl (lv_room (Nat.le_of_ble_eq_true rfl)) dX11_batch_92 ⟨by rw [hRc]; show _ + 0 ≤ _; omega, by rw [hRs]; show _ + 0 ≤ _; omega⟩) hh_49.1 (fun q _ h => h) (fun q h => h) (fun u_51 t_51 H_51 locs_51 ht_51 hvm_51 hr_52 hb_51 hz_51 hk_51 hS_51 => ?_)
            obtain ⟨qs_51, gb_51, ge_51⟩ := u_51
            rw [ht_51] at hb_51
            obtain ⟨hb_51, hbE_51⟩ := hb_51
            obtain ⟨hb_51, hbO_51⟩ := hb_51
            obtain ⟨⟨hb_511, hb_512, hb_513, hb_514, hb_515⟩, hb_516⟩ := hb_51
            have hh_51 : jSt (dC, dI) B base G0 G_21 EX11_batch s.heap ((0 + 1) + (7)) ((0 + 17) + (1700)) [(spare_13, 3, 4, .int qs_51), (kernel_47, 7, 1, .ref syntax_50), (r0, 13, 5, .ref kernel_47), (spare_13, 3, 11, .null), (spare_13, 3, 10, .int pk_37), (spare_13, 3, 5, .ref yb_37), (spare_13, 3, 6, .ref ye_37), (r0, 13, 18, .int (-2)), (r0, 13, 16, .ref spare_13), (r0, 13, 15, .ref H_14.size), (H_14.size, 3, 10, .int qk_21), (H_14.size, 3, 3, .int ql_21), (spare_13, 3, 3, .int ql_14), (ta, 2, 1, .int 0), (r0, 13, 0, .ref ta), (ta, 2, 0, .ref pr)] [(yb_37, 171, 40, ca 1, gb_51), (ye_37, 172, 40, ca 1, ge_51)] [(jFdo, jDcc dC dI ca G_21 (some spare_13) pho_37), (jFs11, jSef dC dI G_21), (jFy, jYb dC dI G_21), ([(2, 0), (2, 1)], jOl (dC, dI) G0 2 [ta] s.heap)] H_51 locs_51 := (((hh_49.call hb_511 hb_512 hb_513 hb_514 hS_51 rfl (L1 := [(kernel_47, 7, 1, .ref syntax_50), (r0, 13, 5, .ref kernel_47), (spare_13, 3, 11, .null), (spare_13, 3, 10, .int pk_37), (spare_13, 3, 5, .ref yb_37), (spare_13, 3, 6, .ref ye_37), (r0, 13, 18, .int (-2)), (r0, 13, 16, .ref spare_13), (r0, 13, 15, .ref H_14.size), (H_14.size, 3, 10, .int qk_21), (H_14.size, 3, 3, .int ql_21), (spare_13, 3, 3, .int ql_14), (ta, 2, 1, .int 0), (r0, 13, 0, .ref ta), (ta, 2, 0, .ref pr)]) [0, 1, 2, 4, 5, 6, 7, 8, 9, 10, 12, 13, 14, 15, 16] rfl rfl (M1 := []) [] rfl rfl (I1 := [(jFs11, jSef dC dI G_21), (jFy, jYb dC dI G_21), ([(2, 0), (2, 1)], jOl (dC, dI) G0 2 [ta] s.heap)]) [1, 2, 3] rfl rfl).more hb_515).moreM hb_516).addIs hbE_51
            clear hh_49 ht_51 hvm_51 hz_51 hk_51 hS_51 hb_511 hb_512 hb_513 hb_514 hb_515
            clear hb_516
            clear  hbE_51
            try simp only at hr_52
            obtain ⟨hr_52_0, hr_52_1, hr_52_2⟩ := hr_52
            obtain ⟨phn_53, hphn_53⟩ : ∃ q : Nat, q = pho_37 := ⟨_, rfl⟩
            have hF_53 := jDcc.full (ph1 := phn_53) (hh_51.iv 0 rfl) hg_23 (hh_51.at 5 rfl) (hh_51.at 6 rfl) ⟨(hh_51.2.2.1.sub (L1 := [(spare_13, 3, 4, .int qs_51), (spare_13, 3, 10, .int pk_37), (spare_13, 3, 11, .null)]) [0, 4, 3] rfl), (hh_51.2.2.2.2.2.2.2.1.sub (L1 := [(yb_37, 171, 40, ca 1, gb_51), (ye_37, 172, 40, ca 1, ge_51)]) [0, 1] rfl), (hr_52_2.mono (by omega)), by omega⟩ (w := (575 * (qs_51.toInt - pk_37.toInt) + (1500 - jEd ge_51 pk_37.toInt)).toNat) (fun h9 => absurd h9 (by decide)) (by omega) (fun h9 => absurd h9 (by decide))
            have hh_54 := hh_51.sub (L1 := [(spare_13, 3, 4, .int qs_51), (kernel_47, 7, 1, .ref syntax_50), (r0, 13, 5, .ref kernel_47), (spare_13, 3, 11, .null), (spare_13, 3, 10, .int pk_37), (spare_13, 3, 5, .ref yb_37), (spare_13, 3, 6, .ref ye_37), (r0, 13, 18, .int (-2)), (r0, 13, 16, .ref spare_13), (r0, 13, 15, .ref H_14.size), (H_14.size, 3, 10, .int qk_21), (H_14.size, 3, 3, .int ql_21), (spare_13, 3, 3, .int ql_14), (ta, 2, 1, .int 0), (r0, 13, 0, .ref ta), (ta, 2, 0, .ref pr)]) [0, 1, 2, 3, 4, 5, 6, 7, 8, 9, 10, 11, 12, 13, 14, 15] rfl (M1 := [(yb_37, 171, 40, ca 1, gb_51), (ye_37, 172, 40, ca 1, ge_51)]) [0, 1] rfl (I1 := [(jFs11, jSef dC dI G_21), (jFy, jYb dC dI G_21), ([(2, 0), (2, 1)], jOl (dC, dI) G0 2 [ta] s.heap)]) [1, 2, 3] rfl
            clear hh_51
            have hh_55 := hh_54.addI (jDcc.ie hF_53)
            clear hh_54
            refine lv_iconst (v := 0) hx hb dX11_batch_95 (by decide) ?_
            have hjz := jEd.z (fe := ge_51) (k := (0 : Int32).toInt) (by omega)
            refine lv_istore_n (lv' := [(3, .int 0), (2, .ref spare_13), (0, .ref r0), (1, .int a1)]) hx hb dX11_batch_96 rfl hl (by decide) rfl (fun ls hl => ?_)
            have L97 : ∀ (N : Nat) (Gx_56 : jT) (zcx_56 : Nat) (zsx_56 : Nat) (v3_56 : Int32) (H_56 : Heap) (locs_56 : List Loc), jSt (dC, dI) B base G0 Gx_56 EX11_batch s.heap zcx_56 zsx_56 [(spare_13, 3, 4, .int qs_51), (r0, 13, 5, .ref kernel_47), (spare_13, 3, 11, .null), (spare_13, 3, 10, .int pk_37), (spare_13, 3, 5, .ref yb_37), (spare_13, 3, 6, .ref ye_37), (r0, 13, 18, .int (-2)), (r0, 13, 16, .ref spare_13), (r0, 13, 15, .ref H_14.size), (H_14.size, 3, 10, .int qk_21), (H_14.size, 3, 3, .int ql_21), (spare_13, 3, 3, .int ql_14), (ta, 2, 1, .int 0), (r0, 13, 0, .ref ta), (ta, 2, 0, .ref pr)] [(yb_37, 171, 40, ca 1, gb_51), (ye_37, 172, 40, ca 1, ge_51)] [(jFdo, jDcc dC dI ca Gx_56 none phn_53), (jFs11, jSef dC dI Gx_56), (jFy, jYb dC dI Gx_56), ([(2, 0), (2, 1)], jOl (dC, dI) G0 2 [ta] s.heap)] H_56 locs_56 → (jNk [0, 1, 2, 4, 6, 7, 8, 9, 10, 12, 13, 14, 15, 16]) G0 Gx_56 → jLe G_21 Gx_56 → (0 ≤ v3_56.toInt ∧ v3_56.toInt ≤ qs_51.toInt ∧ zcx_56 ≤ 8 + 24 * v3_56.toInt ∧ zsx_56 ≤ 1720 + 185 * jEd ge_51 v3_56.toInt) → (qs_51.toInt - v3_56.toInt : Int) < N → ∀ ls : Array Slot, lv_has ls 5 [(0, .ref r0), (1, .int a1), (2, .ref spare_13), (3, .int v3_56)] → W p l e R s m ([.ref r0, .int a1] : List Value).toArray below meth c H_56 locs_56 zcx_56 zsx_56 Q (F0 m 97 ls []) := by
              intro N
              induction N with
              | zero => intro Gx_56 zcx_56 zsx_56 v3_56 H_56 locs_56 hh_56 hN_56 hle_56 hi_56 hm; exact absurd hm (by omega)
              | succ N L97 =>
                intro Gx_56 zcx_56 zsx_56 v3_56 H_56 locs_56 hh_56 hN_56 hle_56 hi_56 hm_56 ls hl
                have hg_57 := hle_56 _ _ hg_24
                have hg_58 := hle_56 _ _ hg_23
                have hg_59 := hle_56 _ _ hg_kernel_47
                have hg_60 := hle_56 _ _ hgb_37
                have hg_61 := hle_56 _ _ hge_37
                have hg_62 := hle_56 _ _ hgc_21
                have hg_63 := hle_56 _ _ hg_25
                have hg_64 := hle_56 _ _ hg_26
                obtain ⟨hi_56_0, hi_56_1, hi_56_2, hi_56_3⟩ := hi_56
                have hql := jSn.le hr_52_2 (by omega)
                refine lv_iload_n hx hb dX11_batch_97 rfl (lv_at hl 3 rfl) ?_
                refine lv_aload_n hx hb dX11_batch_98 rfl (lv_at hl 2 rfl) ?_
                refine j7_read hx hb hown hK (C := RX1) (T := TX1) (N := 17) rfl hly_3_4 hlk_168 (hh_56.at 0 rfl) dX11_batch_99 ?_
                refine lv_icmp_ge (tgt := 165) hx hb dX11_batch_102 (by decide) (fun c_65 => ?_) (fun c_65 => ?_)
                · skip
                  have c_65' : v3_56.toInt ≥ qs_51.toInt := jb_ge (rfl) (rfl) c_65
                  have hjl := jEd.le hr_52_2 (k := v3_56.toInt) (by omega) (by omega) (by omega)
                  refine lv_aload_n hx hb dX11_batch_165 rfl (lv_at hl 2 rfl) ?_
                  refine j7_read hx hb hown hK (C := RX1) (T := TX1) (N := 17) rfl hly_3_4 hlk_168 (hh_56.at 0 rfl) dX11_batch_166 ?_
                  have hsz_66 := hh_56.2.2.2.2.2.1
                  have htt_66 := hh_56.2.2.2.2.2.2.1
                  refine W.room (fun hrc_66 hrs_66 => ?_)
                  refine W.widen (k := LC - s.heap.size) (n := LS - jTot s.heap) (by omega) (by omega) ?_
                  rw [hQ]
                  exact W.iret (v := qs_51) hx hb hr (fun t ht hW => ⟨⟨qs_51, (0, phn_53, (pt.toInt.toNat - (0 : Int).toNat), Gx_56), rfl, by (try dsimp only); exact ⟨(by first | (with_reducible assumption) | assumption | omega | rfl | fail), (by first | (with_reducible assumption) | omega | rfl | fail), (by first | (with_reducible assumption) | omega | rfl | fail)⟩, ⟨hh_56.ra (by first | (simp only; omega) | omega) (by first | (simp only; omega) | omega) (M1 := [(ta, 2, 1, .int 0)]) [12] rfl ht, hN_56, by rw [ht]; exact hh_56.iv 3 rfl, by rw [ht]; exact hh_56.2.2.2.2.2.2.2.2.sub (L1 := [(jFy, jYb dC dI Gx_56), (jFs11, jSef dC dI Gx_56), (jFdo, jDcc dC dI ca Gx_56 none phn_53)]) [2, 1, 0] rfl⟩⟩, by rw [ht]; try exact hh_56.1.1, fun q h9 hq => by rw [ht]; try exact hh_56.1.2.1 q h9 hq⟩) hh_56.1.2.2 dX11_batch_169
                · skip
                  have c_65' : v3_56.toInt < qs_51.toInt := jb_ge_n (rfl) (rfl) c_65
                  have hn2 := jEd.nx hr_52_2 (k := v3_56.toInt) (by omega) (by omega)
                  have hnb := jEd.nx (hr_52_2.mono (by omega) : jSn _ _ _ 1500) (k := v3_56.toInt) (by omega) (by omega)
                  refine lv_aload_n hx hb dX11_batch_105 rfl (lv_at hl 2 rfl) ?_
                  obtain ⟨v_67, hv_67, hh_68⟩ := hh_56.pin (C := RX1) (T := TX1) (N := 17) hB3 rfl (by decide) hg_58 (i := 2) (by decide) rfl
                  clear hh_56
                  obtain ⟨text_69, rfl, hg_text_69⟩ := hv_67
                  refine j7_read hx hb hown hK (C := RX1) (T := TX1) (N := 17) rfl hly_3_2 hlk_174 (hh_68.at 0 rfl) dX11_batch_106 ?_
                  refine lv_aload_n hx hb dX11_batch_109 rfl (lv_at hl 2 rfl) ?_
                  refine j7_read hx hb hown hK (C := RX1) (T := TX1) (N := 17) rfl hly_3_5 hlk_182 (hh_68.at 5 rfl) dX11_batch_110 ?_
                  refine lv_iload_n hx hb dX11_batch_113 rfl (lv_at hl 3 rfl) ?_
                  refine j7_ialdM hx hb hK hh_68 hB171 1 rfl (by decide) hg_60 (x := v3_56.toInt) (rfl) (by omega) (j := 0) rfl dX11_batch_114 (fun z_70 ez_70 (hz_70 : 0 ≤ z_70.toInt ∧ z_70.toInt ≤ 1500) => ?_)
                  have hqz_70 : z_70.toInt = jSo gb_51 (v3_56.toInt) := by unfold jSo; rw [ez_70]
                  refine lv_aload_n hx hb dX11_batch_115 rfl (lv_at hl 2 rfl) ?_
                  refine j7_read hx hb hown hK (C := RX1) (T := TX1) (N := 17) rfl hly_3_6 hlk_185 (hh_68.at 6 rfl) dX11_batch_116 ?_
                  refine lv_iload_n hx hb dX11_batch_119 rfl (lv_at hl 3 rfl) ?_
                  refine j7_ialdM hx hb hK hh_68 hB172 1 rfl (by decide) hg_61 (x := v3_56.toInt) (rfl) (by omega) (j := 1) rfl dX11_batch_120 (fun z_71 ez_71 (hz_71 : 0 ≤ z_71.toInt ∧ z_71.toInt ≤ 1500) => ?_)
                  have hqz_71 : z_71.toInt = jSo ge_51 (v3_56.toInt) := by unfold jSo; rw [ez_71]
                  have hsz_72 := hh_68.2.2.2.2.2.1
                  have htt_72 := hh_68.2.2.2.2.2.2.1
                  refine W.room (fun hrc_72 hrs_72 => ?_)
                  refine j_callx (A0 := jA base) (H0 := s.heap) (va_runS (As := [.ref text_69, .int z_70, .int z_71]) (rest := []) ⟨hx, hb, hml, hown, hts⟩ (uJ7_copyOfRange_feeccU l dC dI ca base B hB hAp hB101 hB280 Gx_56 H_56 text_69 z_70 z_71 1500 LC LS) (va_cwS 3 hts (jgS (jWr_77 _ (List.mem_of_getElem? (i := 21) rfl)) (jWr_77 _ (List.mem_of_getElem? (i := 22) rfl)) (jWr_16 _ (List.mem_of_getElem? (i := 7) rfl)) (jWr_77 _ (List.mem_of_getElem? (i := 23) rfl))) rfl rfl rfl (by decide +kernel) ⟨by rw [← hR]; exact Nat.le_of_ble_eq_true rfl, by rw [← hR]; exact Nat.le_of_ble_eq_true rfl⟩) ⟨fun a U g mk q => by obtain ⟨q0, q1, q2, qK, q10, q11, q12, q13⟩ := q; exact ⟨q0, q1, q2, jG.calling g mk a qK, (jK8.calling g mk a q10), q11, q12, q13⟩, fun U hU hW => ⟨rfl, hU, hh_68.2.1, hG.step hW hU hh_68.1, (jK8.warm hW hK8), hg_text_69, jP.nil, ⟨(by first | (with_reducible assumption) | omega | rfl | fail), (by first | (with_reducible assumption) | omega | rfl | fail), (by first | (with_reducible assumption) | omega | rfl | fail), (by first | (with_reducible assumption) | omega | rfl | fail)⟩⟩⟩ rfl rfl hl.1 rfl (lv_room (Nat.le_of_ble_eq_true rfl)) dX11_batch_121 ⟨by rw [hRc]; omega, by rw [hRs]; omega⟩) hh_68.1 (fun q _ h => h) (fun q h => h) (fun r_73 u_72 t_72 H_72 locs_72 ht_72 hvm_72 hr_73 hb_72 hz_72 hk_72 hS_72 => ?_)
                  rw [ht_72] at hb_72
                  obtain ⟨m_ret_72, G_72⟩ := u_72
                  simp only at hb_72
                  obtain ⟨⟨hb_721, hb_722, hb_723, hb_724, hb_725, hb_726⟩, hN_72, hbK_72⟩ := hb_72
                  have hE9_72 := hN_72
                  have hM_72 := hN_72
                  have hN_72 : (jNk [0, 1, 2, 4, 6, 7, 8, 9, 10, 12, 13, 14, 15, 16]) Gx_56 G_72 := hN_72.sub (by decide)
                  have hh_72 : jSt (dC, dI) B base G0 G_72 EX11_batch s.heap (zcx_56 + (1)) (zsx_56 + (m_ret_72)) [(spare_13, 3, 2, .ref text_69), (spare_13, 3, 4, .int qs_51), (r0, 13, 5, .ref kernel_47), (spare_13, 3, 11, .null), (spare_13, 3, 10, .int pk_37), (spare_13, 3, 5, .ref yb_37), (spare_13, 3, 6, .ref ye_37), (r0, 13, 18, .int (-2)), (r0, 13, 16, .ref spare_13), (r0, 13, 15, .ref H_14.size), (H_14.size, 3, 10, .int qk_21), (H_14.size, 3, 3, .int ql_21), (spare_13, 3, 3, .int ql_14), (ta, 2, 1, .int 0), (r0, 13, 0, .ref ta), (ta, 2, 0, .ref pr)] [(yb_37, 171, 40, ca 1, gb_51), (ye_37, 172, 40, ca 1, ge_51)] [(jFdo, jDcc dC dI ca Gx_56 none phn_53), (jFs11, jSef dC dI Gx_56), (jFy, jYb dC dI Gx_56), ([(2, 0), (2, 1)], jOl (dC, dI) G0 2 [ta] s.heap)] H_72 locs_72 := (hh_68.callG hb_721 hb_722 hb_723 hb_724 hb_725 hS_72 rfl (L1 := [(spare_13, 3, 2, .ref text_69), (spare_13, 3, 4, .int qs_51), (r0, 13, 5, .ref kernel_47), (spare_13, 3, 11, .null), (spare_13, 3, 10, .int pk_37), (spare_13, 3, 5, .ref yb_37), (spare_13, 3, 6, .ref ye_37), (r0, 13, 18, .int (-2)), (r0, 13, 16, .ref spare_13), (r0, 13, 15, .ref H_14.size), (H_14.size, 3, 10, .int qk_21), (H_14.size, 3, 3, .int ql_21), (spare_13, 3, 3, .int ql_14), (ta, 2, 1, .int 0), (r0, 13, 0, .ref ta), (ta, 2, 0, .ref pr)]) [0, 1, 2, 3, 4, 5, 6, 7, 8, 9, 10, 11, 12, 13, 14, 15] rfl rfl (M1 := [(yb_37, 171, 40, ca 1, gb_51), (ye_37, 172, 40, ca 1, ge_51)]) [0, 1] rfl rfl (I1 := [(jFdo, jDcc dC dI ca Gx_56 none phn_53), (jFs11, jSef dC dI Gx_56), (jFy, jYb dC dI Gx_56), ([(2, 0), (2, 1)], jOl (dC, dI) G0 2 [ta] s.heap)]) [0, 1, 2, 3] rfl rfl).more hb_726
                  have hNn_72 : (jNk [0, 1, 2, 4, 6, 7, 8, 9, 10, 12, 13, 14, 15, 16]) G0 G_72 := (hN_56).tr hN_72
                  have hg_74 := hb_722 _ _ hg_57
                  have hg_75 := hb_722 _ _ hg_58
                  have hg_76 := hb_722 _ _ hg_text_69
                  have hg_77 := hb_722 _ _ hg_59
                  have hg_78 := hb_722 _ _ hg_60
                  have hg_79 := hb_722 _ _ hg_61
                  have hg_80 := hb_722 _ _ hg_62
                  have hg_81 := hb_722 _ _ hg_63
                  have hg_82 := hb_722 _ _ hg_64
                  have hd_83 := jDcc.grow (hh_72.iv 0 rfl) hb_722 hE9_72 (by decide)
                  have hh_84 := hh_72.sub (L1 := [(spare_13, 3, 2, .ref text_69), (spare_13, 3, 4, .int qs_51), (r0, 13, 5, .ref kernel_47), (spare_13, 3, 11, .null), (spare_13, 3, 10, .int pk_37), (spare_13, 3, 5, .ref yb_37), (spare_13, 3, 6, .ref ye_37), (r0, 13, 18, .int (-2)), (r0, 13, 16, .ref spare_13), (r0, 13, 15, .ref H_14.size), (H_14.size, 3, 10, .int qk_21), (H_14.size, 3, 3, .int ql_21), (spare_13, 3, 3, .int ql_14), (ta, 2, 1, .int 0), (r0, 13, 0, .ref ta), (ta, 2, 0, .ref pr)]) [0, 1, 2, 3, 4, 5, 6, 7, 8, 9, 10, 11, 12, 13, 14, 15] rfl (M1 := [(yb_37, 171, 40, ca 1, gb_51), (ye_37, 172, 40, ca 1, ge_51)]) [0, 1] rfl (I1 := [(jFs11, jSef dC dI Gx_56), (jFy, jYb dC dI Gx_56), ([(2, 0), (2, 1)], jOl (dC, dI) G0 2 [ta] s.heap)]) [1, 2, 3] rfl
                  clear hh_72
                  have hh_85 := hh_84.addI (jDcc.ie hd_83)
                  clear hh_84
                  have hd_86 := jSef.grow (hh_85.iv 1 rfl) hb_722 hM_72 (by decide)
                  have hh_87 := hh_85.sub (L1 := [(spare_13, 3, 2, .ref text_69), (spare_13, 3, 4, .int qs_51), (r0, 13, 5, .ref kernel_47), (spare_13, 3, 11, .null), (spare_13, 3, 10, .int pk_37), (spare_13, 3, 5, .ref yb_37), (spare_13, 3, 6, .ref ye_37), (r0, 13, 18, .int (-2)), (r0, 13, 16, .ref spare_13), (r0, 13, 15, .ref H_14.size), (H_14.size, 3, 10, .int qk_21), (H_14.size, 3, 3, .int ql_21), (spare_13, 3, 3, .int ql_14), (ta, 2, 1, .int 0), (r0, 13, 0, .ref ta), (ta, 2, 0, .ref pr)]) [0, 1, 2, 3, 4, 5, 6, 7, 8, 9, 10, 11, 12, 13, 14, 15] rfl (M1 := [(yb_37, 171, 40, ca 1, gb_51), (ye_37, 172, 40, ca 1, ge_51)]) [0, 1] rfl (I1 := [(jFdo, jDcc dC dI ca G_72 none phn_53), (jFy, jYb dC dI Gx_56), ([(2, 0), (2, 1)], jOl (dC, dI) G0 2 [ta] s.heap)]) [0, 2, 3] rfl
                  clear hh_85
                  have hh_88 := hh_87.addI (jSef.ie hd_86)
                  clear hh_87
                  have hd_89 := jYb.grow (hh_88.iv 2 rfl) hb_722 hN_72 (by decide)
                  have hh_90 := hh_88.sub (L1 := [(spare_13, 3, 2, .ref text_69), (spare_13, 3, 4, .int qs_51), (r0, 13, 5, .ref kernel_47), (spare_13, 3, 11, .null), (spare_13, 3, 10, .int pk_37), (spare_13, 3, 5, .ref yb_37), (spare_13, 3, 6, .ref ye_37), (r0, 13, 18, .int (-2)), (r0, 13, 16, .ref spare_13), (r0, 13, 15, .ref H_14.size), (H_14.size, 3, 10, .int qk_21), (H_14.size, 3, 3, .int ql_21), (spare_13, 3, 3, .int ql_14), (ta, 2, 1, .int 0), (r0, 13, 0, .ref ta), (ta, 2, 0, .ref pr)]) [0, 1, 2, 3, 4, 5, 6, 7, 8, 9, 10, 11, 12, 13, 14, 15] rfl (M1 := [(yb_37, 171, 40, ca 1, gb_51), (ye_37, 172, 40, ca 1, ge_51)]) [0, 1] rfl (I1 := [(jFs11, jSef dC dI G_72), (jFdo, jDcc dC dI ca G_72 none phn_53), ([(2, 0), (2, 1)], jOl (dC, dI) G0 2 [ta] s.heap)]) [0, 1, 3] rfl
                  clear hh_88
                  have hh_91 := hh_90.addI (jYb.ie hd_89)
                  clear hh_90
                  obtain ⟨hr_73, hr_73n, hr_73p⟩ := hr_73
                  try simp only at hr_73p
                  obtain ⟨ret_92, rfl, hg_ret_92⟩ := hr_73
                  have hsy_72 : s.heap.size ≤ ret_92 := Nat.le_trans hh_68.1.1 hr_73n.le
                  refine lv_astore (lv' := [(4, .ref ret_92), (0, .ref r0), (1, .int a1), (2, .ref spare_13), (3, .int v3_56)]) hx hb dX11_batch_124 hl (by decide) rfl (fun ls hl => ?_)
                  refine lv_aload_n hx hb dX11_batch_126 rfl (lv_at hl 3 rfl) ?_
                  obtain ⟨v_93, hv_93, hh_94⟩ := hh_91.pin (C := RX1) (T := TX1) (N := 17) hB3 rfl (by decide) hg_75 (i := 9) (by decide) rfl
                  clear hh_91
                  obtain ⟨behind_95, rfl, hg_behind_95⟩ := hv_93
                  refine j7_read hx hb hown hK (C := RX1) (T := TX1) (N := 17) rfl hly_3_9 hlk_178 (hh_94.at 0 rfl) dX11_batch_127 ?_
                  refine lv_iload_n hx hb dX11_batch_130 rfl (lv_at hl 4 rfl) ?_
                  refine lv_aload_n hx hb dX11_batch_131 rfl (lv_at hl 1 rfl) ?_
                  refine j7_read hx hb hown hK (C := RX11) (T := TX11) (N := 19) rfl hly_13_5 hlk_41 (hh_94.at 3 rfl) dX11_batch_132 ?_
                  refine lv_aload_n hx hb dX11_batch_135 rfl (lv_at hl 3 rfl) ?_
                  refine lv_iload_n hx hb dX11_batch_136 rfl (lv_at hl 4 rfl) ?_
                  refine lv_aload_n hx hb dX11_batch_137 rfl (lv_at hl 1 rfl) ?_
                  refine j7_read hx hb hown hK (C := RX11) (T := TX11) (N := 19) rfl hly_13_5 hlk_41 (hh_94.at 3 rfl) dX11_batch_138 ?_
                  obtain ⟨v_96, hv_96, hh_97⟩ := hh_94.pin (C := RX5) (T := TX5) (N := 11) hB7 rfl (by decide) hg_77 (i := 2) (by decide) rfl
                  clear hh_94
                  obtain ⟨start_98, rfl, hg_start_98⟩ := hv_96
                  refine j7_read hx hb hown hK (C := RX5) (T := TX5) (N := 11) rfl hly_7_2 hlk_217 (hh_97.at 0 rfl) dX11_batch_141 ?_
                  have hsz_99 := hh_97.2.2.2.2.2.1
                  have htt_99 := hh_97.2.2.2.2.2.2.1
                  refine W.room (fun hrc_99 hrs_99 => ?_)
                  refine j_callx (A0 := jA base) (H0 := s.heap) (va_runV (As := [.int v3_56, .ref start_98]) (rest := [.ref kernel_47, .int v3_56, .ref behind_95]) ⟨hx, hb, hml, hown, hts⟩ (uX1_stateBehind l dC dI ca base B hB hAp hB3 hB11 hB210 G_72 H_72 spare_13 v3_56 start_98 1) (cwV 2 hts (jgV (jWr_30 _ (List.mem_of_getElem? (i := 9) rfl)) (jWr_30 _ (List.mem_of_getElem? (i := 10) rfl)) (jWr_30 _ (List.mem_of_getElem? (i := 11) rfl)) (jWr_2 _ (List.mem_of_getElem? (i := 21) rfl)) (jWr_30 _ (List.mem_of_getElem? (i := 12) rfl))) rfl rfl rfl (by decide +kernel) ⟨by rw [← hR]; exact Nat.le_of_ble_eq_true rfl, by rw [← hR]; exact Nat.le_of_ble_eq_true rfl⟩) ⟨fun a U g mk q => by obtain ⟨q0, q1, q2, qK, q10, q11, q12, q13, q14⟩ := q; exact ⟨q0, q1, q2, jG.calling g mk a qK, (va_K.moved (Vm.Alike.refl U.vm) q10), q11, q12, q13, q14⟩, hh_97.recv (C := RX1) (T := TX1) (N := 17) hB3 rfl (by decide) hg_75 hK, fun U hU hW => ⟨rfl, hU, hh_97.2.1, hG.step hW hU hh_97.1, va_K.moved hW.alike hK2, hg_75, hg_start_98, jP.nil, trivial⟩⟩ rfl rfl hl.1 rfl (lv_room (Nat.le_of_ble_eq_true rfl)) dX11_batch_144 ⟨by rw [hRc]; show _ + 0 ≤ _; omega, by rw [hRs]; show _ + 0 ≤ _; omega⟩) hh_97.1 (fun q _ h => h) (fun q h => h) (fun r_100 u_99 t_99 H_99 locs_99 ht_99 hvm_99 hr_100 hb_99 hz_99 hk_99 hS_99 => ?_)
                  rw [ht_99] at hb_99
                  obtain ⟨hb_991, hb_992, hb_993, hb_994, hb_995⟩ := hb_99
                  have hh_99 : jSt (dC, dI) B base G0 G_72 EX11_batch s.heap (zcx_56 + (1)) (zsx_56 + (m_ret_72)) [(kernel_47, 7, 2, .ref start_98), (spare_13, 3, 9, .ref behind_95), (spare_13, 3, 2, .ref text_69), (spare_13, 3, 4, .int qs_51), (r0, 13, 5, .ref kernel_47), (spare_13, 3, 11, .null), (spare_13, 3, 10, .int pk_37), (spare_13, 3, 5, .ref yb_37), (spare_13, 3, 6, .ref ye_37), (r0, 13, 18, .int (-2)), (r0, 13, 16, .ref spare_13), (r0, 13, 15, .ref H_14.size), (H_14.size, 3, 10, .int qk_21), (H_14.size, 3, 3, .int ql_21), (spare_13, 3, 3, .int ql_14), (ta, 2, 1, .int 0), (r0, 13, 0, .ref ta), (ta, 2, 0, .ref pr)] [(yb_37, 171, 40, ca 1, gb_51), (ye_37, 172, 40, ca 1, ge_51)] [(jFy, jYb dC dI G_72), (jFs11, jSef dC dI G_72), (jFdo, jDcc dC dI ca G_72 none phn_53), ([(2, 0), (2, 1)], jOl (dC, dI) G0 2 [ta] s.heap)] H_99 locs_99 := ((hh_97.call hb_991 hb_992 hb_993 hb_994 hS_99 rfl (L1 := [(kernel_47, 7, 2, .ref start_98), (spare_13, 3, 9, .ref behind_95), (spare_13, 3, 2, .ref text_69), (spare_13, 3, 4, .int qs_51), (r0, 13, 5, .ref kernel_47), (spare_13, 3, 11, .null), (spare_13, 3, 10, .int pk_37), (spare_13, 3, 5, .ref yb_37), (spare_13, 3, 6, .ref ye_37), (r0, 13, 18, .int (-2)), (r0, 13, 16, .ref spare_13), (r0, 13, 15, .ref H_14.size), (H_14.size, 3, 10, .int qk_21), (H_14.size, 3, 3, .int ql_21), (spare_13, 3, 3, .int ql_14), (ta, 2, 1, .int 0), (r0, 13, 0, .ref ta), (ta, 2, 0, .ref pr)]) [0, 1, 2, 3, 4, 5, 6, 7, 8, 9, 10, 11, 12, 13, 14, 15, 16, 17] rfl rfl (M1 := [(yb_37, 171, 40, ca 1, gb_51), (ye_37, 172, 40, ca 1, ge_51)]) [0, 1] rfl rfl (I1 := [(jFy, jYb dC dI G_72), (jFs11, jSef dC dI G_72), (jFdo, jDcc dC dI ca G_72 none phn_53), ([(2, 0), (2, 1)], jOl (dC, dI) G0 2 [ta] s.heap)]) [0, 1, 2, 3] rfl rfl).more hb_995)
                  clear hh_97 ht_99 hvm_99 hz_99 hk_99 hS_99 hb_991 hb_992 hb_993 hb_994 hb_995
                  obtain ⟨ret_101, rfl, hg_ret_101⟩ := hr_100
                  refine lv_aload hx hb dX11_batch_147 (lv_at hl 0 rfl) ?_
                  refine lv_aload_n hx hb dX11_batch_149 rfl (lv_at hl 3 rfl) ?_
                  obtain ⟨v_102, hv_102, hh_103⟩ := hh_99.pin (C := RX1) (T := TX1) (N := 17) hB3 rfl (by decide) hg_75 (i := 8) (by decide) rfl
                  clear hh_99
                  obtain ⟨early_104, rfl, hg_early_104⟩ := hv_102
                  refine j7_read hx hb hown hK (C := RX1) (T := TX1) (N := 17) rfl hly_3_8 hlk_225 (hh_103.at 0 rfl) dX11_batch_150 ?_
                  refine lv_iload_n hx hb dX11_batch_153 rfl (lv_at hl 4 rfl) ?_
                  refine j7_iald hx hb hK hh_103 hB101 1 rfl (by decide) hg_early_104 (x := v3_56.toInt) (rfl) (by omega) dX11_batch_154 (fun z_105 (hz_105 : True) => ?_)
                  have hsz_106 := hh_103.2.2.2.2.2.1
                  have htt_106 := hh_103.2.2.2.2.2.2.1
                  refine W.room (fun hrc_106 hrs_106 => ?_)
                  refine j_callx (A0 := jA base) (H0 := s.heap) (va_runV (As := [.ref ret_101, .ref ret_92, .int z_105]) (rest := [.int v3_56, .ref behind_95]) ⟨hx, hb, hml, hown, hts⟩ (uX5_checkS l dC dI ca base B hB hAp hB5 hB7 hB8 hB11 hB12 hB101 hB102 hB132 hB133 hB211 hB214 hB280 hB290 hB291 hB292 hB293 hB313 hB315 G_72 H_99 kernel_47 ret_101 ret_92 z_105 m_ret_72 (min 1 (m_ret_72 / 3)) LC LS) (cwV 3 hts (jgV (jWr_78 _ (List.mem_of_getElem? (i := 14) rfl)) (jWr_78 _ (List.mem_of_getElem? (i := 15) rfl)) (jWr_78 _ (List.mem_of_getElem? (i := 16) rfl)) (jWr_2 _ (List.mem_of_getElem? (i := 4) rfl)) (jWr_78 _ (List.mem_of_getElem? (i := 17) rfl))) rfl rfl rfl (by decide +kernel) ⟨by rw [← hR]; exact Nat.le_of_ble_eq_true rfl, by rw [← hR]; exact Nat.le_of_ble_eq_true rfl⟩) ⟨fun a U g mk q => by obtain ⟨q0, q1, q2, qK, q10, q11, q12, q13, q14, q15, q16, q17, q18⟩ := q; exact ⟨q0, q1, q2, jG.calling g mk a qK, (va_K.moved (Vm.Alike.refl U.vm) q10), (jK5.moved (Vm.Alike.refl U.vm) q11), (jK6.moved (Vm.Alike.refl U.vm) q12), q13, q14, q15, q16, q17, q18⟩, hh_103.recv (C := RX5) (T := TX5) (N := 11) hB7 rfl (by decide) hg_77 hK, fun U hU hW => ⟨rfl, hU, hh_103.2.1, hG.step hW hU hh_103.1, va_K.moved hW.alike hK2, jK5.moved hW.alike hK5, jK6.moved hW.alike hK6, hg_77, hg_ret_101, hg_ret_92, jP.nil, (hh_103.2.2.2.2.2.2.2.2.sub (L1 := [(jFs11, jSef dC dI G_72)]) [1] rfl), ⟨(by first | (with_reducible assumption) | omega | rfl | fail), (by first | (with_reducible assumption) | assumption | omega | rfl | fail)⟩⟩⟩ rfl rfl hl.1 rfl (lv_room (Nat.le_of_ble_eq_true rfl)) dX11_batch_155 ⟨by rw [hRc]; omega, by rw [hRs]; omega⟩) hh_103.1 (fun q _ h => h) (fun q h => h) (fun r_107 u_106 t_106 H_106 locs_106 ht_106 hvm_106 hr_107 hb_106 hz_106 hk_106 hS_106 => ?_)
                  rw [ht_106] at hb_106
                  obtain ⟨G_106, rfl⟩ : ∃ z, z = u_106 := ⟨_, rfl⟩
                  try simp only at hb_106
                  obtain ⟨⟨hb_1061, hb_1062, hb_1063, hb_1064, hb_1065, hb_1066⟩, hN_106, hbE_106⟩ := hb_106
                  have hE9_106 := hN_106
                  have hN_106 : (jNk [0, 1, 2, 4, 6, 7, 8, 9, 10, 12, 13, 14, 15, 16]) G_72 G_106 := hN_106.sub (by decide)
                  have hh_106 : jSt (dC, dI) B base G0 G_106 EX11_batch s.heap ((zcx_56 + (1)) + (23)) ((zsx_56 + (m_ret_72)) + ((183 + 336 * (min 1 (m_ret_72 / 3))))) [(spare_13, 3, 8, .ref early_104), (kernel_47, 7, 2, .ref start_98), (spare_13, 3, 9, .ref behind_95), (spare_13, 3, 2, .ref text_69), (spare_13, 3, 4, .int qs_51), (r0, 13, 5, .ref kernel_47), (spare_13, 3, 11, .null), (spare_13, 3, 10, .int pk_37), (spare_13, 3, 5, .ref yb_37), (spare_13, 3, 6, .ref ye_37), (r0, 13, 18, .int (-2)), (r0, 13, 16, .ref spare_13), (r0, 13, 15, .ref H_14.size), (H_14.size, 3, 10, .int qk_21), (H_14.size, 3, 3, .int ql_21), (spare_13, 3, 3, .int ql_14), (ta, 2, 1, .int 0), (r0, 13, 0, .ref ta), (ta, 2, 0, .ref pr)] [(yb_37, 171, 40, ca 1, gb_51), (ye_37, 172, 40, ca 1, ge_51)] [(jFy, jYb dC dI G_72), (jFdo, jDcc dC dI ca G_72 none phn_53), ([(2, 0), (2, 1)], jOl (dC, dI) G0 2 [ta] s.heap)] H_106 locs_106 := (hh_103.callG hb_1061 hb_1062 hb_1063 hb_1064 hb_1065 hS_106 rfl (L1 := [(spare_13, 3, 8, .ref early_104), (kernel_47, 7, 2, .ref start_98), (spare_13, 3, 9, .ref behind_95), (spare_13, 3, 2, .ref text_69), (spare_13, 3, 4, .int qs_51), (r0, 13, 5, .ref kernel_47), (spare_13, 3, 11, .null), (spare_13, 3, 10, .int pk_37), (spare_13, 3, 5, .ref yb_37), (spare_13, 3, 6, .ref ye_37), (r0, 13, 18, .int (-2)), (r0, 13, 16, .ref spare_13), (r0, 13, 15, .ref H_14.size), (H_14.size, 3, 10, .int qk_21), (H_14.size, 3, 3, .int ql_21), (spare_13, 3, 3, .int ql_14), (ta, 2, 1, .int 0), (r0, 13, 0, .ref ta), (ta, 2, 0, .ref pr)]) [0, 1, 2, 3, 4, 5, 6, 7, 8, 9, 10, 11, 12, 13, 14, 15, 16, 17, 18] rfl rfl (M1 := [(yb_37, 171, 40, ca 1, gb_51), (ye_37, 172, 40, ca 1, ge_51)]) [0, 1] rfl rfl (I1 := [(jFy, jYb dC dI G_72), (jFdo, jDcc dC dI ca G_72 none phn_53), ([(2, 0), (2, 1)], jOl (dC, dI) G0 2 [ta] s.heap)]) [0, 2, 3] rfl rfl).more hb_1066
                  have hNn_106 : (jNk [0, 1, 2, 4, 6, 7, 8, 9, 10, 12, 13, 14, 15, 16]) G0 G_106 := (hNn_72).tr hN_106
                  have hg_108 := hb_1062 _ _ hg_ret_92
                  have hg_109 := hb_1062 _ _ hg_74
                  have hg_110 := hb_1062 _ _ hg_75
                  have hg_111 := hb_1062 _ _ hg_behind_95
                  have hg_112 := hb_1062 _ _ hg_early_104
                  have hg_113 := hb_1062 _ _ hg_start_98
                  have hg_114 := hb_1062 _ _ hg_76
                  have hg_115 := hb_1062 _ _ hg_77
                  have hg_116 := hb_1062 _ _ hg_78
                  have hg_117 := hb_1062 _ _ hg_79
                  have hg_118 := hb_1062 _ _ hg_80
                  have hg_119 := hb_1062 _ _ hg_81
                  have hg_120 := hb_1062 _ _ hg_82
                  have hd_121 := jYb.grow (hh_106.iv 0 rfl) hb_1062 hN_106 (by decide)
                  have hh_122 := hh_106.sub (L1 := [(spare_13, 3, 8, .ref early_104), (kernel_47, 7, 2, .ref start_98), (spare_13, 3, 9, .ref behind_95), (spare_13, 3, 2, .ref text_69), (spare_13, 3, 4, .int qs_51), (r0, 13, 5, .ref kernel_47), (spare_13, 3, 11, .null), (spare_13, 3, 10, .int pk_37), (spare_13, 3, 5, .ref yb_37), (spare_13, 3, 6, .ref ye_37), (r0, 13, 18, .int (-2)), (r0, 13, 16, .ref spare_13), (r0, 13, 15, .ref H_14.size), (H_14.size, 3, 10, .int qk_21), (H_14.size, 3, 3, .int ql_21), (spare_13, 3, 3, .int ql_14), (ta, 2, 1, .int 0), (r0, 13, 0, .ref ta), (ta, 2, 0, .ref pr)]) [0, 1, 2, 3, 4, 5, 6, 7, 8, 9, 10, 11, 12, 13, 14, 15, 16, 17, 18] rfl (M1 := [(yb_37, 171, 40, ca 1, gb_51), (ye_37, 172, 40, ca 1, ge_51)]) [0, 1] rfl (I1 := [(jFdo, jDcc dC dI ca G_72 none phn_53), ([(2, 0), (2, 1)], jOl (dC, dI) G0 2 [ta] s.heap)]) [1, 2] rfl
                  clear hh_106
                  have hh_123 := hh_122.addI (jYb.ie hd_121)
                  clear hh_122
                  have hd_124 := jDcc.grow (hh_123.iv 1 rfl) hb_1062 hE9_106 (by decide)
                  have hh_125 := hh_123.sub (L1 := [(spare_13, 3, 8, .ref early_104), (kernel_47, 7, 2, .ref start_98), (spare_13, 3, 9, .ref behind_95), (spare_13, 3, 2, .ref text_69), (spare_13, 3, 4, .int qs_51), (r0, 13, 5, .ref kernel_47), (spare_13, 3, 11, .null), (spare_13, 3, 10, .int pk_37), (spare_13, 3, 5, .ref yb_37), (spare_13, 3, 6, .ref ye_37), (r0, 13, 18, .int (-2)), (r0, 13, 16, .ref spare_13), (r0, 13, 15, .ref H_14.size), (H_14.size, 3, 10, .int qk_21), (H_14.size, 3, 3, .int ql_21), (spare_13, 3, 3, .int ql_14), (ta, 2, 1, .int 0), (r0, 13, 0, .ref ta), (ta, 2, 0, .ref pr)]) [0, 1, 2, 3, 4, 5, 6, 7, 8, 9, 10, 11, 12, 13, 14, 15, 16, 17, 18] rfl (M1 := [(yb_37, 171, 40, ca 1, gb_51), (ye_37, 172, 40, ca 1, ge_51)]) [0, 1] rfl (I1 := [(jFy, jYb dC dI G_106), ([(2, 0), (2, 1)], jOl (dC, dI) G0 2 [ta] s.heap)]) [0, 2] rfl
                  clear hh_123
                  have hh_126 := hh_125.addI (jDcc.ie hd_124)
                  clear hh_125
                  have hh_127 := hh_126.addIs hbE_106
                  obtain ⟨hr_107, hr_107p⟩ := hr_107
                  try simp only at hr_107p
                  obtain ⟨ret_128, rfl, hg_ret_128⟩ := hr_107
                  refine j7_qast hx hb hK2 hh_127 hB hB210 2 rfl (by decide) (by decide) rfl rfl rfl hg_111 (x := v3_56.toInt) (rfl) (by omega) hB11 (T := TX9) (N := 9) rfl (by decide) hg_ret_128 (Or.inr ⟨_, rfl, hg_ret_128⟩) dX11_batch_158 (fun H_129 locs_129 hh_129 => ?_)
                  clear hh_127
                  obtain ⟨z_130, ez_130⟩ : ∃ y : Int32, y = v3_56 + 1 := ⟨_, rfl⟩
                  refine lv_iinc (v := z_130) (lv' := [(3, .int z_130), (4, .ref ret_92), (0, .ref r0), (1, .int a1), (2, .ref spare_13)]) hx hb dX11_batch_159 hl (k := 4) rfl (by rw [ez_130]; rfl) (by decide) rfl (fun ls hl => ?_)
                  have hz_130 : z_130.toInt = v3_56.toInt + 1 := by rw [ez_130]; exact jb_iadd2 (rfl) (by decide) (by omega)
                  have hje := jEd.to hnb.2.2.1 (k1 := z_130.toInt) (by omega)
                  refine lv_goto (tgt := 97) hx hb dX11_batch_162 (by decide) ?_
                  refine W.tight (c2 := ((zcx_56 + (1)) + (23))) (n2 := ((zsx_56 + (m_ret_72)) + ((183 + 336 * (min 1 (m_ret_72 / 3)))))) hh_129.2.2.2.2.2.1 hh_129.2.2.2.2.2.2.1 ?_
                  exact L97 G_106 ((zcx_56 + (1)) + (23)) ((zsx_56 + (m_ret_72)) + ((183 + 336 * (min 1 (m_ret_72 / 3))))) z_130 _ _ (hh_129.sub (L1 := [(spare_13, 3, 4, .int qs_51), (r0, 13, 5, .ref kernel_47), (spare_13, 3, 11, .null), (spare_13, 3, 10, .int pk_37), (spare_13, 3, 5, .ref yb_37), (spare_13, 3, 6, .ref ye_37), (r0, 13, 18, .int (-2)), (r0, 13, 16, .ref spare_13), (r0, 13, 15, .ref H_14.size), (H_14.size, 3, 10, .int qk_21), (H_14.size, 3, 3, .int ql_21), (spare_13, 3, 3, .int ql_14), (ta, 2, 1, .int 0), (r0, 13, 0, .ref ta), (ta, 2, 0, .ref pr)]) [4, 5, 6, 7, 8, 9, 10, 11, 12, 13, 14, 15, 16, 17, 18] rfl (M1 := [(yb_37, 171, 40, ca 1, gb_51), (ye_37, 172, 40, ca 1, ge_51)]) [0, 1] rfl (I1 := [(jFdo, jDcc dC dI ca G_106 none phn_53), (jFs11, jSef dC dI G_106), (jFy, jYb dC dI G_106), ([(2, 0), (2, 1)], jOl (dC, dI) G0 2 [ta] s.heap)]) [1, 0, 2, 3] rfl) (hNn_106) (((hle_56).tr hb_722).tr hb_1062) (⟨(by first | (with_reducible assumption) | omega | rfl | fail), (by first | (with_reducible assumption) | omega | rfl | fail), (by first | (with_reducible assumption) | omega | rfl | fail), (by first | (with_reducible assumption) | omega | rfl | fail)⟩) (by omega) _ (lv_sub hl [2, 3, 4, 0] rfl)
            refine W.tight (c2 := ((0 + 1) + (7))) (n2 := ((0 + 17) + (1700))) hh_55.2.2.2.2.2.1 hh_55.2.2.2.2.2.2.1 ?_
            exact L97 (qs_51.toInt - (0 : Int32).toInt : Int).toNat.succ G_21 ((0 + 1) + (7)) ((0 + 17) + (1700)) 0 _ _ (hh_55.sub (L1 := [(spare_13, 3, 4, .int qs_51), (r0, 13, 5, .ref kernel_47), (spare_13, 3, 11, .null), (spare_13, 3, 10, .int pk_37), (spare_13, 3, 5, .ref yb_37), (spare_13, 3, 6, .ref ye_37), (r0, 13, 18, .int (-2)), (r0, 13, 16, .ref spare_13), (r0, 13, 15, .ref H_14.size), (H_14.size, 3, 10, .int qk_21), (H_14.size, 3, 3, .int ql_21), (spare_13, 3, 3, .int ql_14), (ta, 2, 1, .int 0), (r0, 13, 0, .ref ta), (ta, 2, 0, .ref pr)]) [0, 2, 3, 4, 5, 6, 7, 8, 9, 10, 11, 12, 13, 14, 15] rfl (M1 := [(yb_37, 171, 40, ca 1, gb_51), (ye_37, 172, 40, ca 1, ge_51)]) [0, 1] rfl (I1 := [(jFdo, jDcc dC dI ca G_21 none phn_53), (jFs11, jSef dC dI G_21), (jFy, jYb dC dI G_21), ([(2, 0), (2, 1)], jOl (dC, dI) G0 2 [ta] s.heap)]) [0, 1, 2, 3] rfl) (hNn_21) (jLe.rf) (⟨(by first | (with_reducible assumption) | omega | rfl | fail), (by first | (with_reducible assumption) | omega | rfl | fail), (by first | (with_reducible assumption) | omega | rfl | fail), (by first | (with_reducible assumption) | omega | rfl | fail)⟩) (by omega) _ (lv_sub hl [2, 3, 1, 0] rfl)
          · skip
            refine lv_aload_n hx hb dX11_batch_84 rfl (lv_at hl 0 rfl) ?_
            refine lv_aload_n hx hb dX11_batch_85 rfl (lv_at hl 1 rfl) ?_
            obtain ⟨v_132, hv_132, hh_133⟩ := hh_37.pin (C := RX11) (T := TX11) (N := 19) hB13 rfl (by decide) hg_24 (i := 5) (by decide) rfl
            clear hh_37
            obtain ⟨kernel_134, rfl, hg_kernel_134⟩ := hv_132
            refine j7_read hx hb hown hK (C := RX11) (T := TX11) (N := 19) rfl hly_13_5 hlk_41 (hh_133.at 0 rfl) dX11_batch_86 ?_
            obtain ⟨v_135, hv_135, hh_136⟩ := hh_133.pin (C := RX5) (T := TX5) (N := 11) hB7 rfl (by decide) hg_kernel_134 (i := 1) (by decide) rfl
            clear hh_133
            obtain ⟨syntax_137, rfl, hg_syntax_137⟩ := hv_135
            refine j7_read hx hb hown hK (C := RX5) (T := TX5) (N := 11) rfl hly_7_1 hlk_203 (hh_136.at 0 rfl) dX11_batch_89 ?_
            have hsz_138 := hh_136.2.2.2.2.2.1
            have htt_138 := hh_136.2.2.2.2.2.2.1
            refine W.room (fun hrc_138 hrs_138 => ?_)
            refine va_callv (A0 := jA base) (H0 := s.heap) (va_runV (As := [.ref syntax_137]) (rest := []) ⟨hx, hb, hml, hown, hts⟩ (uX1_partE l dC dI ca base B hB hAp hB3 hB8 hB12 hB101 hB102 hB132 hB133 hB171 hB172 hB293 G_21 H_36 spare_13 syntax_137 1 ql_14 yb_37 ye_37 (pho_37) fb_37 fe_37) (cwV 1 hts (jgV (jWr_36 _ (List.mem_of_getElem? (i := 2) rfl)) (jWr_36 _ (List.mem_of_getElem? (i := 3) rfl)) (jWr_36 _ (List.mem_of_getElem? (i := 4) rfl)) (jWr_2 _ (List.mem_of_getElem? (i := 21) rfl)) (jWr_36 _ (List.mem_of_getElem? (i := 5) rfl))) rfl rfl rfl (by decide +kernel) ⟨by rw [← hR]; exact Nat.le_of_ble_eq_true rfl, by rw [← hR]; exact Nat.le_of_ble_eq_true rfl⟩) ⟨fun a U g mk q => by obtain ⟨q0, q1, q2, qK, q10, q11, q12, q13, q14, q15, q16, q17⟩ := q; exact ⟨q0, q1, q2, jG.calling g mk a qK, q10, q11, q12, q13, q14, q15, q16, q17⟩, hh_136.recv (C := RX1) (T := TX1) (N := 17) hB3 rfl (by decide) hg_23 hK, fun U hU hW => ⟨rfl, hU, hh_136.2.1, hG.step hW hU hh_136.1, hg_23, hg_syntax_137, hgb_37, hge_37, (hh_136.2.2.1.sub (L1 := [(spare_13, 3, 3, .int ql_14), (spare_13, 3, 5, .ref yb_37), (spare_13, 3, 6, .ref ye_37)]) [13, 5, 6] rfl), (hh_136.2.2.2.2.2.2.2.1.sub (L1 := [(yb_37, 171, 40, ca 1, fb_37), (ye_37, 172, 40, ca 1, fe_37)]) [0, 1] rfl), (hh_136.2.2.2.2.2.2.2.2.sub (L1 := [(jFdo, jDcc dC dI ca G_21 (some spare_13) pho_37)]) [0] rfl), ⟨(by first | (with_reducible assumption) | omega | rfl | fail), (by first | (with_reducible assumption) | omega | rfl | fail)⟩⟩⟩ rfl rfl hl.1 rfl (lv_room (Nat.le_of_ble_eq_true rfl)) dX11_batch_92 ⟨by rw [hRc]; show _ + 0 ≤ _; omega, by rw [hRs]; show _ + 0 ≤ _; omega⟩) hh_136.1 (fun q _ h => h) (fun q h => h) (fun u_138 t_138 H_138 locs_138 ht_138 hvm_138 hr_139 hb_138 hz_138 hk_138 hS_138 => ?_)
            obtain ⟨qs_138, gb_138, ge_138⟩ := u_138
            rw [ht_138] at hb_138
            obtain ⟨hb_138, hbE_138⟩ := hb_138
            obtain ⟨hb_138, hbO_138⟩ := hb_138
            obtain ⟨⟨hb_1381, hb_1382, hb_1383, hb_1384, hb_1385⟩, hb_1386⟩ := hb_138
            have hh_138 : jSt (dC, dI) B base G0 G_21 EX11_batch s.heap ((0 + 1) + (7)) ((0 + 17) + (1700)) [(spare_13, 3, 4, .int qs_138), (kernel_134, 7, 1, .ref syntax_137), (r0, 13, 5, .ref kernel_134), (spare_13, 3, 11, .ref chk_43), (spare_13, 3, 10, .int pk_37), (spare_13, 3, 5, .ref yb_37), (spare_13, 3, 6, .ref ye_37), (r0, 13, 18, .int (-2)), (r0, 13, 16, .ref spare_13), (r0, 13, 15, .ref H_14.size), (H_14.size, 3, 10, .int qk_21), (H_14.size, 3, 3, .int ql_21), (spare_13, 3, 3, .int ql_14), (ta, 2, 1, .int 0), (r0, 13, 0, .ref ta), (ta, 2, 0, .ref pr)] [(yb_37, 171, 40, ca 1, gb_138), (ye_37, 172, 40, ca 1, ge_138)] [(jFdo, jDcc dC dI ca G_21 (some spare_13) pho_37), (jFs11, jSef dC dI G_21), (jFy, jYb dC dI G_21), ([(2, 0), (2, 1)], jOl (dC, dI) G0 2 [ta] s.heap)] H_138 locs_138 := (((hh_136.call hb_1381 hb_1382 hb_1383 hb_1384 hS_138 rfl (L1 := [(kernel_134, 7, 1, .ref syntax_137), (r0, 13, 5, .ref kernel_134), (spare_13, 3, 11, .ref chk_43), (spare_13, 3, 10, .int pk_37), (spare_13, 3, 5, .ref yb_37), (spare_13, 3, 6, .ref ye_37), (r0, 13, 18, .int (-2)), (r0, 13, 16, .ref spare_13), (r0, 13, 15, .ref H_14.size), (H_14.size, 3, 10, .int qk_21), (H_14.size, 3, 3, .int ql_21), (spare_13, 3, 3, .int ql_14), (ta, 2, 1, .int 0), (r0, 13, 0, .ref ta), (ta, 2, 0, .ref pr)]) [0, 1, 2, 4, 5, 6, 7, 8, 9, 10, 12, 13, 14, 15, 16] rfl rfl (M1 := []) [] rfl rfl (I1 := [(jFs11, jSef dC dI G_21), (jFy, jYb dC dI G_21), ([(2, 0), (2, 1)], jOl (dC, dI) G0 2 [ta] s.heap)]) [1, 2, 3] rfl rfl).more hb_1385).moreM hb_1386).addIs hbE_138
            clear hh_136 ht_138 hvm_138 hz_138 hk_138 hS_138 hb_1381 hb_1382 hb_1383 hb_1384 hb_1385
            clear hb_1386
            clear  hbE_138
            try simp only at hr_139
            obtain ⟨hr_139_0, hr_139_1, hr_139_2⟩ := hr_139
            obtain ⟨phn_140, hphn_140⟩ : ∃ q : Nat, q = pho_37 := ⟨_, rfl⟩
            have hF_140 := jDcc.full (ph1 := phn_140) (hh_138.iv 0 rfl) hg_23 (hh_138.at 5 rfl) (hh_138.at 6 rfl) ⟨(hh_138.2.2.1.sub (L1 := [(spare_13, 3, 4, .int qs_138), (spare_13, 3, 10, .int pk_37), (spare_13, 3, 11, .ref chk_43)]) [0, 4, 3] rfl), (hh_138.2.2.2.2.2.2.2.1.sub (L1 := [(yb_37, 171, 40, ca 1, gb_138), (ye_37, 172, 40, ca 1, ge_138)]) [0, 1] rfl), (hr_139_2.mono (by omega)), by omega⟩ (w := (575 * (qs_138.toInt - pk_37.toInt) - 16 + (1500 - jSo ge_138 pk_37.toInt)).toNat) (fun h9 => absurd h9 (by decide)) (by omega) (fun h9 => absurd h9 (by decide))
            have hh_141 := hh_138.sub (L1 := [(spare_13, 3, 4, .int qs_138), (kernel_134, 7, 1, .ref syntax_137), (r0, 13, 5, .ref kernel_134), (spare_13, 3, 11, .ref chk_43), (spare_13, 3, 10, .int pk_37), (spare_13, 3, 5, .ref yb_37), (spare_13, 3, 6, .ref ye_37), (r0, 13, 18, .int (-2)), (r0, 13, 16, .ref spare_13), (r0, 13, 15, .ref H_14.size), (H_14.size, 3, 10, .int qk_21), (H_14.size, 3, 3, .int ql_21), (spare_13, 3, 3, .int ql_14), (ta, 2, 1, .int 0), (r0, 13, 0, .ref ta), (ta, 2, 0, .ref pr)]) [0, 1, 2, 3, 4, 5, 6, 7, 8, 9, 10, 11, 12, 13, 14, 15] rfl (M1 := [(yb_37, 171, 40, ca 1, gb_138), (ye_37, 172, 40, ca 1, ge_138)]) [0, 1] rfl (I1 := [(jFs11, jSef dC dI G_21), (jFy, jYb dC dI G_21), ([(2, 0), (2, 1)], jOl (dC, dI) G0 2 [ta] s.heap)]) [1, 2, 3] rfl
            clear hh_138
            have hh_142 := hh_141.addI (jDcc.ie hF_140)
            clear hh_141
            refine lv_iconst (v := 0) hx hb dX11_batch_95 (by decide) ?_
            have hjz := jEd.z (fe := ge_138) (k := (0 : Int32).toInt) (by omega)
            refine lv_istore_n (lv' := [(3, .int 0), (2, .ref spare_13), (0, .ref r0), (1, .int a1)]) hx hb dX11_batch_96 rfl hl (by decide) rfl (fun ls hl => ?_)
            have L97 : ∀ (N : Nat) (Gx_143 : jT) (zcx_143 : Nat) (zsx_143 : Nat) (v3_143 : Int32) (H_143 : Heap) (locs_143 : List Loc), jSt (dC, dI) B base G0 Gx_143 EX11_batch s.heap zcx_143 zsx_143 [(spare_13, 3, 4, .int qs_138), (r0, 13, 5, .ref kernel_134), (spare_13, 3, 10, .int pk_37), (spare_13, 3, 5, .ref yb_37), (spare_13, 3, 6, .ref ye_37), (r0, 13, 18, .int (-2)), (r0, 13, 16, .ref spare_13), (r0, 13, 15, .ref H_14.size), (H_14.size, 3, 10, .int qk_21), (H_14.size, 3, 3, .int ql_21), (spare_13, 3, 3, .int ql_14), (ta, 2, 1, .int 0), (r0, 13, 0, .ref ta), (ta, 2, 0, .ref pr)] [(yb_37, 171, 40, ca 1, gb_138), (ye_37, 172, 40, ca 1, ge_138)] [(jFdo, jDcc dC dI ca Gx_143 none phn_140), (jFs11, jSef dC dI Gx_143), (jFy, jYb dC dI Gx_143), ([(2, 0), (2, 1)], jOl (dC, dI) G0 2 [ta] s.heap)] H_143 locs_143 → (jNk [0, 1, 2, 4, 6, 7, 8, 9, 10, 12, 13, 14, 15, 16]) G0 Gx_143 → jLe G_21 Gx_143 → (0 ≤ v3_143.toInt ∧ v3_143.toInt ≤ qs_138.toInt ∧ zcx_143 ≤ 8 + 24 * v3_143.toInt ∧ zsx_143 ≤ 1720 + 185 * jEd ge_138 v3_143.toInt) → (qs_138.toInt - v3_143.toInt : Int) < N → ∀ ls : Array Slot, lv_has ls 5 [(0, .ref r0), (1, .int a1), (2, .ref spare_13), (3, .int v3_143)] → W p l e R s m ([.ref r0, .int a1] : List Value).toArray below meth c H_143 locs_143 zcx_143 zsx_143 Q (F0 m 97 ls []) := by
              intro N
              induction N with
              | zero => intro Gx_143 zcx_143 zsx_143 v3_143 H_143 locs_143 hh_143 hN_143 hle_143 hi_143 hm; exact absurd hm (by omega)
              | succ N L97 =>
                intro Gx_143 zcx_143 zsx_143 v3_143 H_143 locs_143 hh_143 hN_143 hle_143 hi_143 hm_143 ls hl
                have hg_144 := hle_143 _ _ hg_24
                have hg_145 := hle_143 _ _ hg_23
                have hg_146 := hle_143 _ _ hg_kernel_134
                have hg_147 := hle_143 _ _ hgb_37
                have hg_148 := hle_143 _ _ hge_37
                have hg_149 := hle_143 _ _ hgc_21
                have hg_150 := hle_143 _ _ hg_25
                have hg_151 := hle_143 _ _ hg_26
                obtain ⟨hi_143_0, hi_143_1, hi_143_2, hi_143_3⟩ := hi_143
                have hql := jSn.le hr_139_2 (by omega)
                refine lv_iload_n hx hb dX11_batch_97 rfl (lv_at hl 3 rfl) ?_
                refine lv_aload_n hx hb dX11_batch_98 rfl (lv_at hl 2 rfl) ?_
                refine j7_read hx hb hown hK (C := RX1) (T := TX1) (N := 17) rfl hly_3_4 hlk_168 (hh_143.at 0 rfl) dX11_batch_99 ?_
                refine lv_icmp_ge (tgt := 165) hx hb dX11_batch_102 (by decide) (fun c_152 => ?_) (fun c_152 => ?_)
                · skip
                  have c_152' : v3_143.toInt ≥ qs_138.toInt := jb_ge (rfl) (rfl) c_152
                  have hjl := jEd.le hr_139_2 (k := v3_143.toInt) (by omega) (by omega) (by omega)
                  refine lv_aload_n hx hb dX11_batch_165 rfl (lv_at hl 2 rfl) ?_
                  refine j7_read hx hb hown hK (C := RX1) (T := TX1) (N := 17) rfl hly_3_4 hlk_168 (hh_143.at 0 rfl) dX11_batch_166 ?_
                  have hsz_153 := hh_143.2.2.2.2.2.1
                  have htt_153 := hh_143.2.2.2.2.2.2.1
                  refine W.room (fun hrc_153 hrs_153 => ?_)
                  refine W.widen (k := LC - s.heap.size) (n := LS - jTot s.heap) (by omega) (by omega) ?_
                  rw [hQ]
                  exact W.iret (v := qs_138) hx hb hr (fun t ht hW => ⟨⟨qs_138, (0, phn_140, (pt.toInt.toNat - (0 : Int).toNat), Gx_143), rfl, by (try dsimp only); exact ⟨(by first | (with_reducible assumption) | assumption | omega | rfl | fail), (by first | (with_reducible assumption) | omega | rfl | fail), (by first | (with_reducible assumption) | omega | rfl | fail)⟩, ⟨hh_143.ra (by first | (simp only; omega) | omega) (by first | (simp only; omega) | omega) (M1 := [(ta, 2, 1, .int 0)]) [11] rfl ht, hN_143, by rw [ht]; exact hh_143.iv 3 rfl, by rw [ht]; exact hh_143.2.2.2.2.2.2.2.2.sub (L1 := [(jFy, jYb dC dI Gx_143), (jFs11, jSef dC dI Gx_143), (jFdo, jDcc dC dI ca Gx_143 none phn_140)]) [2, 1, 0] rfl⟩⟩, by rw [ht]; try exact hh_143.1.1, fun q h9 hq => by rw [ht]; try exact hh_143.1.2.1 q h9 hq⟩) hh_143.1.2.2 dX11_batch_169
                · skip
                  have c_152' : v3_143.toInt < qs_138.toInt := jb_ge_n (rfl) (rfl) c_152
                  have hn2 := jEd.nx hr_139_2 (k := v3_143.toInt) (by omega) (by omega)
                  have hnb := jEd.nx (hr_139_2.mono (by omega) : jSn _ _ _ 1500) (k := v3_143.toInt) (by omega) (by omega)
                  refine lv_aload_n hx hb dX11_batch_105 rfl (lv_at hl 2 rfl) ?_
                  obtain ⟨v_154, hv_154, hh_155⟩ := hh_143.pin (C := RX1) (T := TX1) (N := 17) hB3 rfl (by decide) hg_145 (i := 2) (by decide) rfl
                  clear hh_143
                  obtain ⟨text_156, rfl, hg_text_156⟩ := hv_154
                  refine j7_read hx hb hown hK (C := RX1) (T := TX1) (N := 17) rfl hly_3_2 hlk_174 (hh_155.at 0 rfl) dX11_batch_106 ?_
                  refine lv_aload_n hx hb dX11_batch_109 rfl (lv_at hl 2 rfl) ?_
                  refine j7_read hx hb hown hK (C := RX1) (T := TX1) (N := 17) rfl hly_3_5 hlk_182 (hh_155.at 4 rfl) dX11_batch_110 ?_
                  refine lv_iload_n hx hb dX11_batch_113 rfl (lv_at hl 3 rfl) ?_
                  refine j7_ialdM hx hb hK hh_155 hB171 1 rfl (by decide) hg_147 (x := v3_143.toInt) (rfl) (by omega) (j := 0) rfl dX11_batch_114 (fun z_157 ez_157 (hz_157 : 0 ≤ z_157.toInt ∧ z_157.toInt ≤ 1500) => ?_)
                  have hqz_157 : z_157.toInt = jSo gb_138 (v3_143.toInt) := by unfold jSo; rw [ez_157]
                  refine lv_aload_n hx hb dX11_batch_115 rfl (lv_at hl 2 rfl) ?_
                  refine j7_read hx hb hown hK (C := RX1) (T := TX1) (N := 17) rfl hly_3_6 hlk_185 (hh_155.at 5 rfl) dX11_batch_116 ?_
                  refine lv_iload_n hx hb dX11_batch_119 rfl (lv_at hl 3 rfl) ?_
                  refine j7_ialdM hx hb hK hh_155 hB172 1 rfl (by decide) hg_148 (x := v3_143.toInt) (rfl) (by omega) (j := 1) rfl dX11_batch_120 (fun z_158 ez_158 (hz_158 : 0 ≤ z_158.toInt ∧ z_158.toInt ≤ 1500) => ?_)
                  have hqz_158 : z_158.toInt = jSo ge_138 (v3_143.toInt) := by unfold jSo; rw [ez_158]
                  have hsz_159 := hh_155.2.2.2.2.2.1
                  have htt_159 := hh_155.2.2.2.2.2.2.1
                  refine W.room (fun hrc_159 hrs_159 => ?_)
                  refine j_callx (A0 := jA base) (H0 := s.heap) (va_runS (As := [.ref text_156, .int z_157, .int z_158]) (rest := []) ⟨hx, hb, hml, hown, hts⟩ (uJ7_copyOfRange_feeccU l dC dI ca base B hB hAp hB101 hB280 Gx_143 H_143 text_156 z_157 z_158 1500 LC LS) (va_cwS 3 hts (jgS (jWr_77 _ (List.mem_of_getElem? (i := 21) rfl)) (jWr_77 _ (List.mem_of_getElem? (i := 22) rfl)) (jWr_16 _ (List.mem_of_getElem? (i := 7) rfl)) (jWr_77 _ (List.mem_of_getElem? (i := 23) rfl))) rfl rfl rfl (by decide +kernel) ⟨by rw [← hR]; exact Nat.le_of_ble_eq_true rfl, by rw [← hR]; exact Nat.le_of_ble_eq_true rfl⟩) ⟨fun a U g mk q => by obtain ⟨q0, q1, q2, qK, q10, q11, q12, q13⟩ := q; exact ⟨q0, q1, q2, jG.calling g mk a qK, (jK8.calling g mk a q10), q11, q12, q13⟩, fun U hU hW => ⟨rfl, hU, hh_155.2.1, hG.step hW hU hh_155.1, (jK8.warm hW hK8), hg_text_156, jP.nil, ⟨(by first | (with_reducible assumption) | omega | rfl | fail), (by first | (with_reducible assumption) | omega | rfl | fail), (by first | (with_reducible assumption) | omega | rfl | fail), (by first | (with_reducible assumption) | omega | rfl | fail)⟩⟩⟩ rfl rfl hl.1 rfl (lv_room (Nat.le_of_ble_eq_true rfl)) dX11_batch_121 ⟨by rw [hRc]; omega, by rw [hRs]; omega⟩) hh_155.1 (fun q _ h => h) (fun q h => h) (fun r_160 u_159 t_159 H_159 locs_159 ht_159 hvm_159 hr_160 hb_159 hz_159 hk_159 hS_159 => ?_)
                  rw [ht_159] at hb_159
                  obtain ⟨m_ret_159, G_159⟩ := u_159
                  simp only at hb_159
                  obtain ⟨⟨hb_1591, hb_1592, hb_1593, hb_1594, hb_1595, hb_1596⟩, hN_159, hbK_159⟩ := hb_159
                  have hE9_159 := hN_159
                  have hM_159 := hN_159
                  have hN_159 : (jNk [0, 1, 2, 4, 6, 7, 8, 9, 10, 12, 13, 14, 15, 16]) Gx_143 G_159 := hN_159.sub (by decide)
                  have hh_159 : jSt (dC, dI) B base G0 G_159 EX11_batch s.heap (zcx_143 + (1)) (zsx_143 + (m_ret_159)) [(spare_13, 3, 2, .ref text_156), (spare_13, 3, 4, .int qs_138), (r0, 13, 5, .ref kernel_134), (spare_13, 3, 10, .int pk_37), (spare_13, 3, 5, .ref yb_37), (spare_13, 3, 6, .ref ye_37), (r0, 13, 18, .int (-2)), (r0, 13, 16, .ref spare_13), (r0, 13, 15, .ref H_14.size), (H_14.size, 3, 10, .int qk_21), (H_14.size, 3, 3, .int ql_21), (spare_13, 3, 3, .int ql_14), (ta, 2, 1, .int 0), (r0, 13, 0, .ref ta), (ta, 2, 0, .ref pr)] [(yb_37, 171, 40, ca 1, gb_138), (ye_37, 172, 40, ca 1, ge_138)] [(jFdo, jDcc dC dI ca Gx_143 none phn_140), (jFs11, jSef dC dI Gx_143), (jFy, jYb dC dI Gx_143), ([(2, 0), (2, 1)], jOl (dC, dI) G0 2 [ta] s.heap)] H_159 locs_159 := (hh_155.callG hb_1591 hb_1592 hb_1593 hb_1594 hb_1595 hS_159 rfl (L1 := [(spare_13, 3, 2, .ref text_156), (spare_13, 3, 4, .int qs_138), (r0, 13, 5, .ref kernel_134), (spare_13, 3, 10, .int pk_37), (spare_13, 3, 5, .ref yb_37), (spare_13, 3, 6, .ref ye_37), (r0, 13, 18, .int (-2)), (r0, 13, 16, .ref spare_13), (r0, 13, 15, .ref H_14.size), (H_14.size, 3, 10, .int qk_21), (H_14.size, 3, 3, .int ql_21), (spare_13, 3, 3, .int ql_14), (ta, 2, 1, .int 0), (r0, 13, 0, .ref ta), (ta, 2, 0, .ref pr)]) [0, 1, 2, 3, 4, 5, 6, 7, 8, 9, 10, 11, 12, 13, 14] rfl rfl (M1 := [(yb_37, 171, 40, ca 1, gb_138), (ye_37, 172, 40, ca 1, ge_138)]) [0, 1] rfl rfl (I1 := [(jFdo, jDcc dC dI ca Gx_143 none phn_140), (jFs11, jSef dC dI Gx_143), (jFy, jYb dC dI Gx_143), ([(2, 0), (2, 1)], jOl (dC, dI) G0 2 [ta] s.heap)]) [0, 1, 2, 3] rfl rfl).more hb_1596
                  have hNn_159 : (jNk [0, 1, 2, 4, 6, 7, 8, 9, 10, 12, 13, 14, 15, 16]) G0 G_159 := (hN_143).tr hN_159
                  have hg_161 := hb_1592 _ _ hg_144
                  have hg_162 := hb_1592 _ _ hg_145
                  have hg_163 := hb_1592 _ _ hg_text_156
                  have hg_164 := hb_1592 _ _ hg_146
                  have hg_165 := hb_1592 _ _ hg_147
                  have hg_166 := hb_1592 _ _ hg_148
                  have hg_167 := hb_1592 _ _ hg_149
                  have hg_168 := hb_1592 _ _ hg_150
                  have hg_169 := hb_1592 _ _ hg_151
                  have hd_170 := jDcc.grow (hh_159.iv 0 rfl) hb_1592 hE9_159 (by decide)
                  have hh_171 := hh_159.sub (L1 := [(spare_13, 3, 2, .ref text_156), (spare_13, 3, 4, .int qs_138), (r0, 13, 5, .ref kernel_134), (spare_13, 3, 10, .int pk_37), (spare_13, 3, 5, .ref yb_37), (spare_13, 3, 6, .ref ye_37), (r0, 13, 18, .int (-2)), (r0, 13, 16, .ref spare_13), (r0, 13, 15, .ref H_14.size), (H_14.size, 3, 10, .int qk_21), (H_14.size, 3, 3, .int ql_21), (spare_13, 3, 3, .int ql_14), (ta, 2, 1, .int 0), (r0, 13, 0, .ref ta), (ta, 2, 0, .ref pr)]) [0, 1, 2, 3, 4, 5, 6, 7, 8, 9, 10, 11, 12, 13, 14] rfl (M1 := [(yb_37, 171, 40, ca 1, gb_138), (ye_37, 172, 40, ca 1, ge_138)]) [0, 1] rfl (I1 := [(jFs11, jSef dC dI Gx_143), (jFy, jYb dC dI Gx_143), ([(2, 0), (2, 1)], jOl (dC, dI) G0 2 [ta] s.heap)]) [1, 2, 3] rfl
                  clear hh_159
                  have hh_172 := hh_171.addI (jDcc.ie hd_170)
                  clear hh_171
                  have hd_173 := jSef.grow (hh_172.iv 1 rfl) hb_1592 hM_159 (by decide)
                  have hh_174 := hh_172.sub (L1 := [(spare_13, 3, 2, .ref text_156), (spare_13, 3, 4, .int qs_138), (r0, 13, 5, .ref kernel_134), (spare_13, 3, 10, .int pk_37), (spare_13, 3, 5, .ref yb_37), (spare_13, 3, 6, .ref ye_37), (r0, 13, 18, .int (-2)), (r0, 13, 16, .ref spare_13), (r0, 13, 15, .ref H_14.size), (H_14.size, 3, 10, .int qk_21), (H_14.size, 3, 3, .int ql_21), (spare_13, 3, 3, .int ql_14), (ta, 2, 1, .int 0), (r0, 13, 0, .ref ta), (ta, 2, 0, .ref pr)]) [0, 1, 2, 3, 4, 5, 6, 7, 8, 9, 10, 11, 12, 13, 14] rfl (M1 := [(yb_37, 171, 40, ca 1, gb_138), (ye_37, 172, 40, ca 1, ge_138)]) [0, 1] rfl (I1 := [(jFdo, jDcc dC dI ca G_159 none phn_140), (jFy, jYb dC dI Gx_143), ([(2, 0), (2, 1)], jOl (dC, dI) G0 2 [ta] s.heap)]) [0, 2, 3] rfl
                  clear hh_172
                  have hh_175 := hh_174.addI (jSef.ie hd_173)
                  clear hh_174
                  have hd_176 := jYb.grow (hh_175.iv 2 rfl) hb_1592 hN_159 (by decide)
                  have hh_177 := hh_175.sub (L1 := [(spare_13, 3, 2, .ref text_156), (spare_13, 3, 4, .int qs_138), (r0, 13, 5, .ref kernel_134), (spare_13, 3, 10, .int pk_37), (spare_13, 3, 5, .ref yb_37), (spare_13, 3, 6, .ref ye_37), (r0, 13, 18, .int (-2)), (r0, 13, 16, .ref spare_13), (r0, 13, 15, .ref H_14.size), (H_14.size, 3, 10, .int qk_21), (H_14.size, 3, 3, .int ql_21), (spare_13, 3, 3, .int ql_14), (ta, 2, 1, .int 0), (r0, 13, 0, .ref ta), (ta, 2, 0, .ref pr)]) [0, 1, 2, 3, 4, 5, 6, 7, 8, 9, 10, 11, 12, 13, 14] rfl (M1 := [(yb_37, 171, 40, ca 1, gb_138), (ye_37, 172, 40, ca 1, ge_138)]) [0, 1] rfl (I1 := [(jFs11, jSef dC dI G_159), (jFdo, jDcc dC dI ca G_159 none phn_140), ([(2, 0), (2, 1)], jOl (dC, dI) G0 2 [ta] s.heap)]) [0, 1, 3] rfl
                  clear hh_175
                  have hh_178 := hh_177.addI (jYb.ie hd_176)
                  clear hh_177
                  obtain ⟨hr_160, hr_160n, hr_160p⟩ := hr_160
                  try simp only at hr_160p
                  obtain ⟨ret_179, rfl, hg_ret_179⟩ := hr_160
                  have hsy_159 : s.heap.size ≤ ret_179 := Nat.le_trans hh_155.1.1 hr_160n.le
                  refine lv_astore (lv' := [(4, .ref ret_179), (0, .ref r0), (1, .int a1), (2, .ref spare_13), (3, .int v3_143)]) hx hb dX11_batch_124 hl (by decide) rfl (fun ls hl => ?_)
                  refine lv_aload_n hx hb dX11_batch_126 rfl (lv_at hl 3 rfl) ?_
                  obtain ⟨v_180, hv_180, hh_181⟩ := hh_178.pin (C := RX1) (T := TX1) (N := 17) hB3 rfl (by decide) hg_162 (i := 9) (by decide) rfl
                  clear hh_178
                  obtain ⟨behind_182, rfl, hg_behind_182⟩ := hv_180
                  refine j7_read hx hb hown hK (C := RX1) (T := TX1) (N := 17) rfl hly_3_9 hlk_178 (hh_181.at 0 rfl) dX11_batch_127 ?_
                  refine lv_iload_n hx hb dX11_batch_130 rfl (lv_at hl 4 rfl) ?_
                  refine lv_aload_n hx hb dX11_batch_131 rfl (lv_at hl 1 rfl) ?_
                  refine j7_read hx hb hown hK (C := RX11) (T := TX11) (N := 19) rfl hly_13_5 hlk_41 (hh_181.at 3 rfl) dX11_batch_132 ?_
                  refine lv_aload_n hx hb dX11_batch_135 rfl (lv_at hl 3 rfl) ?_
                  refine lv_iload_n hx hb dX11_batch_136 rfl (lv_at hl 4 rfl) ?_
                  refine lv_aload_n hx hb dX11_batch_137 rfl (lv_at hl 1 rfl) ?_
                  refine j7_read hx hb hown hK (C := RX11) (T := TX11) (N := 19) rfl hly_13_5 hlk_41 (hh_181.at 3 rfl) dX11_batch_138 ?_
                  obtain ⟨v_183, hv_183, hh_184⟩ := hh_181.pin (C := RX5) (T := TX5) (N := 11) hB7 rfl (by decide) hg_164 (i := 2) (by decide) rfl
                  clear hh_181
                  obtain ⟨start_185, rfl, hg_start_185⟩ := hv_183
                  refine j7_read hx hb hown hK (C := RX5) (T := TX5) (N := 11) rfl hly_7_2 hlk_217 (hh_184.at 0 rfl) dX11_batch_141 ?_
                  have hsz_186 := hh_184.2.2.2.2.2.1
                  have htt_186 := hh_184.2.2.2.2.2.2.1
                  refine W.room (fun hrc_186 hrs_186 => ?_)
                  refine j_callx (A0 := jA base) (H0 := s.heap) (va_runV (As := [.int v3_143, .ref start_185]) (rest := [.ref kernel_134, .int v3_143, .ref behind_182]) ⟨hx, hb, hml, hown, hts⟩ (uX1_stateBehind l dC dI ca base B hB hAp hB3 hB11 hB210 G_159 H_159 spare_13 v3_143 start_185 1) (cwV 2 hts (jgV (jWr_30 _ (List.mem_of_getElem? (i := 9) rfl)) (jWr_30 _ (List.mem_of_getElem? (i := 10) rfl)) (jWr_30 _ (List.mem_of_getElem? (i := 11) rfl)) (jWr_2 _ (List.mem_of_getElem? (i := 21) rfl)) (jWr_30 _ (List.mem_of_getElem? (i := 12) rfl))) rfl rfl rfl (by decide +kernel) ⟨by rw [← hR]; exact Nat.le_of_ble_eq_true rfl, by rw [← hR]; exact Nat.le_of_ble_eq_true rfl⟩) ⟨fun a U g mk q => by obtain ⟨q0, q1, q2, qK, q10, q11, q12, q13, q14⟩ := q; exact ⟨q0, q1, q2, jG.calling g mk a qK, (va_K.moved (Vm.Alike.refl U.vm) q10), q11, q12, q13, q14⟩, hh_184.recv (C := RX1) (T := TX1) (N := 17) hB3 rfl (by decide) hg_162 hK, fun U hU hW => ⟨rfl, hU, hh_184.2.1, hG.step hW hU hh_184.1, va_K.moved hW.alike hK2, hg_162, hg_start_185, jP.nil, trivial⟩⟩ rfl rfl hl.1 rfl (lv_room (Nat.le_of_ble_eq_true rfl)) dX11_batch_144 ⟨by rw [hRc]; show _ + 0 ≤ _; omega, by rw [hRs]; show _ + 0 ≤ _; omega⟩) hh_184.1 (fun q _ h => h) (fun q h => h) (fun r_187 u_186 t_186 H_186 locs_186 ht_186 hvm_186 hr_187 hb_186 hz_186 hk_186 hS_186 => ?_)
                  rw [ht_186] at hb_186
                  obtain ⟨hb_1861, hb_1862, hb_1863, hb_1864, hb_1865⟩ := hb_186
                  have hh_186 : jSt (dC, dI) B base G0 G_159 EX11_batch s.heap (zcx_143 + (1)) (zsx_143 + (m_ret_159)) [(kernel_134, 7, 2, .ref start_185), (spare_13, 3, 9, .ref behind_182), (spare_13, 3, 2, .ref text_156), (spare_13, 3, 4, .int qs_138), (r0, 13, 5, .ref kernel_134), (spare_13, 3, 10, .int pk_37), (spare_13, 3, 5, .ref yb_37), (spare_13, 3, 6, .ref ye_37), (r0, 13, 18, .int (-2)), (r0, 13, 16, .ref spare_13), (r0, 13, 15, .ref H_14.size), (H_14.size, 3, 10, .int qk_21), (H_14.size, 3, 3, .int ql_21), (spare_13, 3, 3, .int ql_14), (ta, 2, 1, .int 0), (r0, 13, 0, .ref ta), (ta, 2, 0, .ref pr)] [(yb_37, 171, 40, ca 1, gb_138), (ye_37, 172, 40, ca 1, ge_138)] [(jFy, jYb dC dI G_159), (jFs11, jSef dC dI G_159), (jFdo, jDcc dC dI ca G_159 none phn_140), ([(2, 0), (2, 1)], jOl (dC, dI) G0 2 [ta] s.heap)] H_186 locs_186 := ((hh_184.call hb_1861 hb_1862 hb_1863 hb_1864 hS_186 rfl (L1 := [(kernel_134, 7, 2, .ref start_185), (spare_13, 3, 9, .ref behind_182), (spare_13, 3, 2, .ref text_156), (spare_13, 3, 4, .int qs_138), (r0, 13, 5, .ref kernel_134), (spare_13, 3, 10, .int pk_37), (spare_13, 3, 5, .ref yb_37), (spare_13, 3, 6, .ref ye_37), (r0, 13, 18, .int (-2)), (r0, 13, 16, .ref spare_13), (r0, 13, 15, .ref H_14.size), (H_14.size, 3, 10, .int qk_21), (H_14.size, 3, 3, .int ql_21), (spare_13, 3, 3, .int ql_14), (ta, 2, 1, .int 0), (r0, 13, 0, .ref ta), (ta, 2, 0, .ref pr)]) [0, 1, 2, 3, 4, 5, 6, 7, 8, 9, 10, 11, 12, 13, 14, 15, 16] rfl rfl (M1 := [(yb_37, 171, 40, ca 1, gb_138), (ye_37, 172, 40, ca 1, ge_138)]) [0, 1] rfl rfl (I1 := [(jFy, jYb dC dI G_159), (jFs11, jSef dC dI G_159), (jFdo, jDcc dC dI ca G_159 none phn_140), ([(2, 0), (2, 1)], jOl (dC, dI) G0 2 [ta] s.heap)]) [0, 1, 2, 3] rfl rfl).more hb_1865)
                  clear hh_184 ht_186 hvm_186 hz_186 hk_186 hS_186 hb_1861 hb_1862 hb_1863 hb_1864 hb_1865
                  obtain ⟨ret_188, rfl, hg_ret_188⟩ := hr_187
                  refine lv_aload hx hb dX11_batch_147 (lv_at hl 0 rfl) ?_
                  refine lv_aload_n hx hb dX11_batch_149 rfl (lv_at hl 3 rfl) ?_
                  obtain ⟨v_189, hv_189, hh_190⟩ := hh_186.pin (C := RX1) (T := TX1) (N := 17) hB3 rfl (by decide) hg_162 (i := 8) (by decide) rfl
                  clear hh_186
                  obtain ⟨early_191, rfl, hg_early_191⟩ := hv_189
                  refine j7_read hx hb hown hK (C := RX1) (T := TX1) (N := 17) rfl hly_3_8 hlk_225 (hh_190.at 0 rfl) dX11_batch_150 ?_
                  refine lv_iload_n hx hb dX11_batch_153 rfl (lv_at hl 4 rfl) ?_
                  refine j7_iald hx hb hK hh_190 hB101 1 rfl (by decide) hg_early_191 (x := v3_143.toInt) (rfl) (by omega) dX11_batch_154 (fun z_192 (hz_192 : True) => ?_)
                  have hsz_193 := hh_190.2.2.2.2.2.1
                  have htt_193 := hh_190.2.2.2.2.2.2.1
                  refine W.room (fun hrc_193 hrs_193 => ?_)
                  refine j_callx (A0 := jA base) (H0 := s.heap) (va_runV (As := [.ref ret_188, .ref ret_179, .int z_192]) (rest := [.int v3_143, .ref behind_182]) ⟨hx, hb, hml, hown, hts⟩ (uX5_checkS l dC dI ca base B hB hAp hB5 hB7 hB8 hB11 hB12 hB101 hB102 hB132 hB133 hB211 hB214 hB280 hB290 hB291 hB292 hB293 hB313 hB315 G_159 H_186 kernel_134 ret_188 ret_179 z_192 m_ret_159 (min 1 (m_ret_159 / 3)) LC LS) (cwV 3 hts (jgV (jWr_78 _ (List.mem_of_getElem? (i := 14) rfl)) (jWr_78 _ (List.mem_of_getElem? (i := 15) rfl)) (jWr_78 _ (List.mem_of_getElem? (i := 16) rfl)) (jWr_2 _ (List.mem_of_getElem? (i := 4) rfl)) (jWr_78 _ (List.mem_of_getElem? (i := 17) rfl))) rfl rfl rfl (by decide +kernel) ⟨by rw [← hR]; exact Nat.le_of_ble_eq_true rfl, by rw [← hR]; exact Nat.le_of_ble_eq_true rfl⟩) ⟨fun a U g mk q => by obtain ⟨q0, q1, q2, qK, q10, q11, q12, q13, q14, q15, q16, q17, q18⟩ := q; exact ⟨q0, q1, q2, jG.calling g mk a qK, (va_K.moved (Vm.Alike.refl U.vm) q10), (jK5.moved (Vm.Alike.refl U.vm) q11), (jK6.moved (Vm.Alike.refl U.vm) q12), q13, q14, q15, q16, q17, q18⟩, hh_190.recv (C := RX5) (T := TX5) (N := 11) hB7 rfl (by decide) hg_164 hK, fun U hU hW => ⟨rfl, hU, hh_190.2.1, hG.step hW hU hh_190.1, va_K.moved hW.alike hK2, jK5.moved hW.alike hK5, jK6.moved hW.alike hK6, hg_164, hg_ret_188, hg_ret_179, jP.nil, (hh_190.2.2.2.2.2.2.2.2.sub (L1 := [(jFs11, jSef dC dI G_159)]) [1] rfl), ⟨(by first | (with_reducible assumption) | omega | rfl | fail), (by first | (with_reducible assumption) | assumption | omega | rfl | fail)⟩⟩⟩ rfl rfl hl.1 rfl (lv_room (Nat.le_of_ble_eq_true rfl)) dX11_batch_155 ⟨by rw [hRc]; omega, by rw [hRs]; omega⟩) hh_190.1 (fun q _ h => h) (fun q h => h) (fun r_194 u_193 t_193 H_193 locs_193 ht_193 hvm_193 hr_194 hb_193 hz_193 hk_193 hS_193 => ?_)
                  rw [ht_193] at hb_193
                  obtain ⟨G_193, rfl⟩ : ∃ z, z = u_193 := ⟨_, rfl⟩
                  try simp only at hb_193
                  obtain ⟨⟨hb_1931, hb_1932, hb_1933, hb_1934, hb_1935, hb_1936⟩, hN_193, hbE_193⟩ := hb_193
                  have hE9_193 := hN_193
                  have hN_193 : (jNk [0, 1, 2, 4, 6, 7, 8, 9, 10, 12, 13, 14, 15, 16]) G_159 G_193 := hN_193.sub (by decide)
                  have hh_193 : jSt (dC, dI) B base G0 G_193 EX11_batch s.heap ((zcx_143 + (1)) + (23)) ((zsx_143 + (m_ret_159)) + ((183 + 336 * (min 1 (m_ret_159 / 3))))) [(spare_13, 3, 8, .ref early_191), (kernel_134, 7, 2, .ref start_185), (spare_13, 3, 9, .ref behind_182), (spare_13, 3, 2, .ref text_156), (spare_13, 3, 4, .int qs_138), (r0, 13, 5, .ref kernel_134), (spare_13, 3, 10, .int pk_37), (spare_13, 3, 5, .ref yb_37), (spare_13, 3, 6, .ref ye_37), (r0, 13, 18, .int (-2)), (r0, 13, 16, .ref spare_13), (r0, 13, 15, .ref H_14.size), (H_14.size, 3, 10, .int qk_21), (H_14.size, 3, 3, .int ql_21), (spare_13, 3, 3, .int ql_14), (ta, 2, 1, .int 0), (r0, 13, 0, .ref ta), (ta, 2, 0, .ref pr)] [(yb_37, 171, 40, ca 1, gb_138), (ye_37, 172, 40, ca 1, ge_138)] [(jFy, jYb dC dI G_159), (jFdo, jDcc dC dI ca G_159 none phn_140), ([(2, 0), (2, 1)], jOl (dC, dI) G0 2 [ta] s.heap)] H_193 locs_193 := (hh_190.callG hb_1931 hb_1932 hb_1933 hb_1934 hb_1935 hS_193 rfl (L1 := [(spare_13, 3, 8, .ref early_191), (kernel_134, 7, 2, .ref start_185), (spare_13, 3, 9, .ref behind_182), (spare_13, 3, 2, .ref text_156), (spare_13, 3, 4, .int qs_138), (r0, 13, 5, .ref kernel_134), (spare_13, 3, 10, .int pk_37), (spare_13, 3, 5, .ref yb_37), (spare_13, 3, 6, .ref ye_37), (r0, 13, 18, .int (-2)), (r0, 13, 16, .ref spare_13), (r0, 13, 15, .ref H_14.size), (H_14.size, 3, 10, .int qk_21), (H_14.size, 3, 3, .int ql_21), (spare_13, 3, 3, .int ql_14), (ta, 2, 1, .int 0), (r0, 13, 0, .ref ta), (ta, 2, 0, .ref pr)]) [0, 1, 2, 3, 4, 5, 6, 7, 8, 9, 10, 11, 12, 13, 14, 15, 16, 17] rfl rfl (M1 := [(yb_37, 171, 40, ca 1, gb_138), (ye_37, 172, 40, ca 1, ge_138)]) [0, 1] rfl rfl (I1 := [(jFy, jYb dC dI G_159), (jFdo, jDcc dC dI ca G_159 none phn_140), ([(2, 0), (2, 1)], jOl (dC, dI) G0 2 [ta] s.heap)]) [0, 2, 3] rfl rfl).more hb_1936
                  have hNn_193 : (jNk [0, 1, 2, 4, 6, 7, 8, 9, 10, 12, 13, 14, 15, 16]) G0 G_193 := (hNn_159).tr hN_193
                  have hg_195 := hb_1932 _ _ hg_ret_179
                  have hg_196 := hb_1932 _ _ hg_161
                  have hg_197 := hb_1932 _ _ hg_162
                  have hg_198 := hb_1932 _ _ hg_behind_182
                  have hg_199 := hb_1932 _ _ hg_early_191
                  have hg_200 := hb_1932 _ _ hg_start_185
                  have hg_201 := hb_1932 _ _ hg_163
                  have hg_202 := hb_1932 _ _ hg_164
                  have hg_203 := hb_1932 _ _ hg_165
                  have hg_204 := hb_1932 _ _ hg_166
                  have hg_205 := hb_1932 _ _ hg_167
                  have hg_206 := hb_1932 _ _ hg_168
                  have hg_207 := hb_1932 _ _ hg_169
                  have hd_208 := jYb.grow (hh_193.iv 0 rfl) hb_1932 hN_193 (by decide)
                  have hh_209 := hh_193.sub (L1 := [(spare_13, 3, 8, .ref early_191), (kernel_134, 7, 2, .ref start_185), (spare_13, 3, 9, .ref behind_182), (spare_13, 3, 2, .ref text_156), (spare_13, 3, 4, .int qs_138), (r0, 13, 5, .ref kernel_134), (spare_13, 3, 10, .int pk_37), (spare_13, 3, 5, .ref yb_37), (spare_13, 3, 6, .ref ye_37), (r0, 13, 18, .int (-2)), (r0, 13, 16, .ref spare_13), (r0, 13, 15, .ref H_14.size), (H_14.size, 3, 10, .int qk_21), (H_14.size, 3, 3, .int ql_21), (spare_13, 3, 3, .int ql_14), (ta, 2, 1, .int 0), (r0, 13, 0, .ref ta), (ta, 2, 0, .ref pr)]) [0, 1, 2, 3, 4, 5, 6, 7, 8, 9, 10, 11, 12, 13, 14, 15, 16, 17] rfl (M1 := [(yb_37, 171, 40, ca 1, gb_138), (ye_37, 172, 40, ca 1, ge_138)]) [0, 1] rfl (I1 := [(jFdo, jDcc dC dI ca G_159 none phn_140), ([(2, 0), (2, 1)], jOl (dC, dI) G0 2 [ta] s.heap)]) [1, 2] rfl
                  clear hh_193
                  have hh_210 := hh_209.addI (jYb.ie hd_208)
                  clear hh_209
                  have hd_211 := jDcc.grow (hh_210.iv 1 rfl) hb_1932 hE9_193 (by decide)
                  have hh_212 := hh_210.sub (L1 := [(spare_13, 3, 8, .ref early_191), (kernel_134, 7, 2, .ref start_185), (spare_13, 3, 9, .ref behind_182), (spare_13, 3, 2, .ref text_156), (spare_13, 3, 4, .int qs_138), (r0, 13, 5, .ref kernel_134), (spare_13, 3, 10, .int pk_37), (spare_13, 3, 5, .ref yb_37), (spare_13, 3, 6, .ref ye_37), (r0, 13, 18, .int (-2)), (r0, 13, 16, .ref spare_13), (r0, 13, 15, .ref H_14.size), (H_14.size, 3, 10, .int qk_21), (H_14.size, 3, 3, .int ql_21), (spare_13, 3, 3, .int ql_14), (ta, 2, 1, .int 0), (r0, 13, 0, .ref ta), (ta, 2, 0, .ref pr)]) [0, 1, 2, 3, 4, 5, 6, 7, 8, 9, 10, 11, 12, 13, 14, 15, 16, 17] rfl (M1 := [(yb_37, 171, 40, ca 1, gb_138), (ye_37, 172, 40, ca 1, ge_138)]) [0, 1] rfl (I1 := [(jFy, jYb dC dI G_193), ([(2, 0), (2, 1)], jOl (dC, dI) G0 2 [ta] s.heap)]) [0, 2] rfl
                  clear hh_210
                  have hh_213 := hh_212.addI (jDcc.ie hd_211)
                  clear hh_212
                  have hh_214 := hh_213.addIs hbE_193
                  obtain ⟨hr_194, hr_194p⟩ := hr_194
                  try simp only at hr_194p
                  obtain ⟨ret_215, rfl, hg_ret_215⟩ := hr_194
                  refine j7_qast hx hb hK2 hh_214 hB hB210 2 rfl (by decide) (by decide) rfl rfl rfl hg_198 (x := v3_143.toInt) (rfl) (by omega) hB11 (T := TX9) (N := 9) rfl (by decide) hg_ret_215 (Or.inr ⟨_, rfl, hg_ret_215⟩) dX11_batch_158 (fun H_216 locs_216 hh_216 => ?_)
                  clear hh_214
                  obtain ⟨z_217, ez_217⟩ : ∃ y : Int32, y = v3_143 + 1 := ⟨_, rfl⟩
                  refine lv_iinc (v := z_217) (lv' := [(3, .int z_217), (4, .ref ret_179), (0, .ref r0), (1, .int a1), (2, .ref spare_13)]) hx hb dX11_batch_159 hl (k := 4) rfl (by rw [ez_217]; rfl) (by decide) rfl (fun ls hl => ?_)
                  have hz_217 : z_217.toInt = v3_143.toInt + 1 := by rw [ez_217]; exact jb_iadd2 (rfl) (by decide) (by omega)
                  have hje := jEd.to hnb.2.2.1 (k1 := z_217.toInt) (by omega)
                  refine lv_goto (tgt := 97) hx hb dX11_batch_162 (by decide) ?_
                  refine W.tight (c2 := ((zcx_143 + (1)) + (23))) (n2 := ((zsx_143 + (m_ret_159)) + ((183 + 336 * (min 1 (m_ret_159 / 3)))))) hh_216.2.2.2.2.2.1 hh_216.2.2.2.2.2.2.1 ?_
                  exact L97 G_193 ((zcx_143 + (1)) + (23)) ((zsx_143 + (m_ret_159)) + ((183 + 336 * (min 1 (m_ret_159 / 3))))) z_217 _ _ (hh_216.sub (L1 := [(spare_13, 3, 4, .int qs_138), (r0, 13, 5, .ref kernel_134), (spare_13, 3, 10, .int pk_37), (spare_13, 3, 5, .ref yb_37), (spare_13, 3, 6, .ref ye_37), (r0, 13, 18, .int (-2)), (r0, 13, 16, .ref spare_13), (r0, 13, 15, .ref H_14.size), (H_14.size, 3, 10, .int qk_21), (H_14.size, 3, 3, .int ql_21), (spare_13, 3, 3, .int ql_14), (ta, 2, 1, .int 0), (r0, 13, 0, .ref ta), (ta, 2, 0, .ref pr)]) [4, 5, 6, 7, 8, 9, 10, 11, 12, 13, 14, 15, 16, 17] rfl (M1 := [(yb_37, 171, 40, ca 1, gb_138), (ye_37, 172, 40, ca 1, ge_138)]) [0, 1] rfl (I1 := [(jFdo, jDcc dC dI ca G_193 none phn_140), (jFs11, jSef dC dI G_193), (jFy, jYb dC dI G_193), ([(2, 0), (2, 1)], jOl (dC, dI) G0 2 [ta] s.heap)]) [1, 0, 2, 3] rfl) (hNn_193) (((hle_143).tr hb_1592).tr hb_1932) (⟨(by first | (with_reducible assumption) | omega | rfl | fail), (by first | (with_reducible assumption) | omega | rfl | fail), (by first | (with_reducible assumption) | omega | rfl | fail), (by first | (with_reducible assumption) | omega | rfl | fail)⟩) (by omega) _ (lv_sub hl [2, 3, 4, 0] rfl)
            refine W.tight (c2 := ((0 + 1) + (7))) (n2 := ((0 + 17) + (1700))) hh_142.2.2.2.2.2.1 hh_142.2.2.2.2.2.2.1 ?_
            exact L97 (qs_138.toInt - (0 : Int32).toInt : Int).toNat.succ G_21 ((0 + 1) + (7)) ((0 + 17) + (1700)) 0 _ _ (hh_142.sub (L1 := [(spare_13, 3, 4, .int qs_138), (r0, 13, 5, .ref kernel_134), (spare_13, 3, 10, .int pk_37), (spare_13, 3, 5, .ref yb_37), (spare_13, 3, 6, .ref ye_37), (r0, 13, 18, .int (-2)), (r0, 13, 16, .ref spare_13), (r0, 13, 15, .ref H_14.size), (H_14.size, 3, 10, .int qk_21), (H_14.size, 3, 3, .int ql_21), (spare_13, 3, 3, .int ql_14), (ta, 2, 1, .int 0), (r0, 13, 0, .ref ta), (ta, 2, 0, .ref pr)]) [0, 2, 4, 5, 6, 7, 8, 9, 10, 11, 12, 13, 14, 15] rfl (M1 := [(yb_37, 171, 40, ca 1, gb_138), (ye_37, 172, 40, ca 1, ge_138)]) [0, 1] rfl (I1 := [(jFdo, jDcc dC dI ca G_21 none phn_140), (jFs11, jSef dC dI G_21), (jFy, jYb dC dI G_21), ([(2, 0), (2, 1)], jOl (dC, dI) G0 2 [ta] s.heap)]) [0, 1, 2, 3] rfl) (hNn_21) (jLe.rf) (⟨(by first | (with_reducible assumption) | omega | rfl | fail), (by first | (with_reducible assumption) | omega | rfl | fail), (by first | (with_reducible assumption) | omega | rfl | fail), (by first | (with_reducible assumption) | omega | rfl | fail)⟩) (by omega) _ (lv_sub hl [2, 3, 1, 0] rfl)
        · refine j7_read hx hb hown hK (C := RX11) (T := TX11) (N := 19) rfl hly_13_16 hlk_200 (hh_18.at 0 rfl) dX11_batch_50 ?_
          refine lv_ifnonnull (tgt := 66) hx hb dX11_batch_53 (by decide) ?_
          refine lv_aload_n hx hb dX11_batch_66 rfl (lv_at hl 1 rfl) ?_
          refine j7_read hx hb hown hK (C := RX11) (T := TX11) (N := 19) rfl hly_13_16 hlk_200 (hh_18.at 0 rfl) dX11_batch_67 ?_
          refine j7_put hx hb hown hK hh_18 hB hAp hB13 (C := RX11) (T := TX11) (N := 19) rfl (by decide) hg_r0 (i := 15) (by decide) hly_13_15 rfl hlk_82 rfl (ty := (.object "ProofServer$Document")) (v := .ref latest_19) (by decide +kernel) rfl rfl (⟨_, rfl, hg_latest_19⟩) rfl (L1 := [(r0, 13, 16, .ref latest_19), (spare_13, 3, 3, .int ql_14), (ta, 2, 1, .int 0), (r0, 13, 0, .ref ta), (ta, 2, 0, .ref pr)]) [0, 1, 3, 4, 5] rfl rfl rfl dX11_batch_70 (fun H_218 locs_218 hh_218 => ?_)
          clear hh_18
          refine lv_aload_n hx hb dX11_batch_73 rfl (lv_at hl 1 rfl) ?_
          refine lv_aload_n hx hb dX11_batch_74 rfl (lv_at hl 0 rfl) ?_
          refine j7_put hx hb hown hK hh_218 hB hAp hB13 (C := RX11) (T := TX11) (N := 19) rfl (by decide) hg_r0 (i := 16) (by decide) hly_13_16 rfl hlk_200 rfl (ty := (.object "ProofServer$Document")) (v := .ref spare_13) (by decide +kernel) rfl rfl (Or.inr ⟨_, rfl, hg_spare_13⟩) rfl (L1 := [(r0, 13, 15, .ref latest_19), (spare_13, 3, 3, .int ql_14), (ta, 2, 1, .int 0), (r0, 13, 0, .ref ta), (ta, 2, 0, .ref pr)]) [0, 2, 3, 4, 5] rfl rfl rfl dX11_batch_75 (fun H_219 locs_219 hh_219 => ?_)
          clear hh_218
          refine lv_aload_n hx hb dX11_batch_78 rfl (lv_at hl 1 rfl) ?_
          refine lv_bipush (v := (-2)) hx hb dX11_batch_79 (by decide) ?_
          refine j7_put hx hb hown hK hh_219 hB hAp hB13 (C := RX11) (T := TX11) (N := 19) rfl (by decide) hg_r0 (i := 18) (by decide) hly_13_18 rfl hlk_89 rfl (ty := .int) (v := .int (-2)) (by decide +kernel) rfl rfl (⟨_, rfl⟩) rfl (L1 := [(r0, 13, 16, .ref spare_13), (r0, 13, 15, .ref latest_19), (spare_13, 3, 3, .int ql_14), (ta, 2, 1, .int 0), (r0, 13, 0, .ref ta), (ta, 2, 0, .ref pr)]) [0, 1, 2, 3, 4, 5] rfl rfl rfl dX11_batch_81 (fun H_220 locs_220 hh_220 => ?_)
          clear hh_219
          obtain ⟨yb_221, ye_221, w_221, pho_221, fb_221, fe_221, ps_221, pk_221, vc_221, hgb_221, hge_221, h5_221, h6_221, hd_221, hpq_221, hE_221, hpl_221, hpw_221⟩ := jDcc.opn (hh_220.iv 3 rfl) hg_spare_13
          have hh_223 := hh_220.sub (L1 := [(r0, 13, 18, .int (-2)), (r0, 13, 16, .ref spare_13), (r0, 13, 15, .ref latest_19), (spare_13, 3, 3, .int ql_14), (ta, 2, 1, .int 0), (r0, 13, 0, .ref ta), (ta, 2, 0, .ref pr)]) [0, 1, 2, 3, 4, 5, 6] rfl (M1 := []) [] rfl (I1 := [([(2, 0), (2, 1)], jOl (dC, dI) G0 2 [ta] s.heap), (jFy, jYb dC dI G0), (jFs11, jSef dC dI G0)]) [0, 1, 2] rfl
          clear hh_220
          have hh_224 := (hh_223.more (P1 := [(spare_13, 3, 4, .int ps_221), (spare_13, 3, 10, .int pk_221), (spare_13, 3, 5, .ref yb_221), (spare_13, 3, 6, .ref ye_221)]) (jP.cons hg_spare_13 (hd_221.1 _ (List.mem_of_getElem? (i := 0) rfl)).2 (jP.cons hg_spare_13 (hd_221.1 _ (List.mem_of_getElem? (i := 1) rfl)).2 (jP.cons hg_spare_13 h5_221 (jP.cons hg_spare_13 h6_221 jP.nil))))).moreM hd_221.2.1
          have hh_225 := hh_224.addI (jDcc.ie hE_221)
          clear hh_224
          have hps_221 := hd_221.2.2.2
          have hsn_221 := hd_221.2.2.1
          obtain ⟨v_226, hv_226, hh_221⟩ := hh_225.pin (C := RX1) (T := TX1) (N := 17) hB3 rfl (by decide) hg_spare_13 (i := 11) (by decide) rfl
          have hvq_221 : vc_221 = v_226 := jf.uniq (hd_221.1 _ (List.mem_of_getElem? (i := 2) rfl)).2 (hh_221.at 0 rfl)
          subst hvq_221
          clear hh_225
          rcases hv_226 with rfl | ⟨chk_227, nchk_227, rfl, hg_chk_227, hlen_chk_227⟩
          · skip
            refine lv_aload_n hx hb dX11_batch_84 rfl (lv_at hl 0 rfl) ?_
            refine lv_aload_n hx hb dX11_batch_85 rfl (lv_at hl 1 rfl) ?_
            obtain ⟨v_229, hv_229, hh_230⟩ := hh_221.pin (C := RX11) (T := TX11) (N := 19) hB13 rfl (by decide) hg_r0 (i := 5) (by decide) rfl
            clear hh_221
            obtain ⟨kernel_231, rfl, hg_kernel_231⟩ := hv_229
            refine j7_read hx hb hown hK (C := RX11) (T := TX11) (N := 19) rfl hly_13_5 hlk_41 (hh_230.at 0 rfl) dX11_batch_86 ?_
            obtain ⟨v_232, hv_232, hh_233⟩ := hh_230.pin (C := RX5) (T := TX5) (N := 11) hB7 rfl (by decide) hg_kernel_231 (i := 1) (by decide) rfl
            clear hh_230
            obtain ⟨syntax_234, rfl, hg_syntax_234⟩ := hv_232
            refine j7_read hx hb hown hK (C := RX5) (T := TX5) (N := 11) rfl hly_7_1 hlk_203 (hh_233.at 0 rfl) dX11_batch_89 ?_
            have hsz_235 := hh_233.2.2.2.2.2.1
            have htt_235 := hh_233.2.2.2.2.2.2.1
            refine W.room (fun hrc_235 hrs_235 => ?_)
            refine va_callv (A0 := jA base) (H0 := s.heap) (va_runV (As := [.ref syntax_234]) (rest := []) ⟨hx, hb, hml, hown, hts⟩ (uX1_partE l dC dI ca base B hB hAp hB3 hB8 hB12 hB101 hB102 hB132 hB133 hB171 hB172 hB293 G0 H_220 spare_13 syntax_234 1 ql_14 yb_221 ye_221 (pho_221) fb_221 fe_221) (cwV 1 hts (jgV (jWr_36 _ (List.mem_of_getElem? (i := 2) rfl)) (jWr_36 _ (List.mem_of_getElem? (i := 3) rfl)) (jWr_36 _ (List.mem_of_getElem? (i := 4) rfl)) (jWr_2 _ (List.mem_of_getElem? (i := 21) rfl)) (jWr_36 _ (List.mem_of_getElem? (i := 5) rfl))) rfl rfl rfl (by decide +kernel) ⟨by rw [← hR]; exact Nat.le_of_ble_eq_true rfl, by rw [← hR]; exact Nat.le_of_ble_eq_true rfl⟩) ⟨fun a U g mk q => by obtain ⟨q0, q1, q2, qK, q10, q11, q12, q13, q14, q15, q16, q17⟩ := q; exact ⟨q0, q1, q2, jG.calling g mk a qK, q10, q11, q12, q13, q14, q15, q16, q17⟩, hh_233.recv (C := RX1) (T := TX1) (N := 17) hB3 rfl (by decide) hg_spare_13 hK, fun U hU hW => ⟨rfl, hU, hh_233.2.1, hG.step hW hU hh_233.1, hg_spare_13, hg_syntax_234, hgb_221, hge_221, (hh_233.2.2.1.sub (L1 := [(spare_13, 3, 3, .int ql_14), (spare_13, 3, 5, .ref yb_221), (spare_13, 3, 6, .ref ye_221)]) [10, 5, 6] rfl), (hh_233.2.2.2.2.2.2.2.1.sub (L1 := [(yb_221, 171, 40, ca 1, fb_221), (ye_221, 172, 40, ca 1, fe_221)]) [0, 1] rfl), (hh_233.2.2.2.2.2.2.2.2.sub (L1 := [(jFdo, jDcc dC dI ca G0 (some spare_13) pho_221)]) [0] rfl), ⟨(by first | (with_reducible assumption) | omega | rfl | fail), (by first | (with_reducible assumption) | omega | rfl | fail)⟩⟩⟩ rfl rfl hl.1 rfl (lv_room (Nat.le_of_ble_eq_true rfl)) dX11_batch_92 ⟨by rw [hRc]; show _ + 0 ≤ _; omega, by rw [hRs]; show _ + 0 ≤ _; omega⟩) hh_233.1 (fun q _ h => h) (fun q h => h) (fun u_235 t_235 H_235 locs_235 ht_235 hvm_235 hr_236 hb_235 hz_235 hk_235 hS_235 => ?_)
            obtain ⟨qs_235, gb_235, ge_235⟩ := u_235
            rw [ht_235] at hb_235
            obtain ⟨hb_235, hbE_235⟩ := hb_235
            obtain ⟨hb_235, hbO_235⟩ := hb_235
            obtain ⟨⟨hb_2351, hb_2352, hb_2353, hb_2354, hb_2355⟩, hb_2356⟩ := hb_235
            have hh_235 : jSt (dC, dI) B base G0 G0 EX11_batch s.heap 0 0 [(spare_13, 3, 4, .int qs_235), (kernel_231, 7, 1, .ref syntax_234), (r0, 13, 5, .ref kernel_231), (spare_13, 3, 11, .null), (spare_13, 3, 10, .int pk_221), (spare_13, 3, 5, .ref yb_221), (spare_13, 3, 6, .ref ye_221), (r0, 13, 18, .int (-2)), (r0, 13, 16, .ref spare_13), (r0, 13, 15, .ref latest_19), (spare_13, 3, 3, .int ql_14), (ta, 2, 1, .int 0), (r0, 13, 0, .ref ta), (ta, 2, 0, .ref pr)] [(yb_221, 171, 40, ca 1, gb_235), (ye_221, 172, 40, ca 1, ge_235)] [(jFdo, jDcc dC dI ca G0 (some spare_13) pho_221), ([(2, 0), (2, 1)], jOl (dC, dI) G0 2 [ta] s.heap), (jFy, jYb dC dI G0), (jFs11, jSef dC dI G0)] H_235 locs_235 := (((hh_233.call hb_2351 hb_2352 hb_2353 hb_2354 hS_235 rfl (L1 := [(kernel_231, 7, 1, .ref syntax_234), (r0, 13, 5, .ref kernel_231), (spare_13, 3, 11, .null), (spare_13, 3, 10, .int pk_221), (spare_13, 3, 5, .ref yb_221), (spare_13, 3, 6, .ref ye_221), (r0, 13, 18, .int (-2)), (r0, 13, 16, .ref spare_13), (r0, 13, 15, .ref latest_19), (spare_13, 3, 3, .int ql_14), (ta, 2, 1, .int 0), (r0, 13, 0, .ref ta), (ta, 2, 0, .ref pr)]) [0, 1, 2, 4, 5, 6, 7, 8, 9, 10, 11, 12, 13] rfl rfl (M1 := []) [] rfl rfl (I1 := [([(2, 0), (2, 1)], jOl (dC, dI) G0 2 [ta] s.heap), (jFy, jYb dC dI G0), (jFs11, jSef dC dI G0)]) [1, 2, 3] rfl rfl).more hb_2355).moreM hb_2356).addIs hbE_235
            clear hh_233 ht_235 hvm_235 hz_235 hk_235 hS_235 hb_2351 hb_2352 hb_2353 hb_2354 hb_2355
            clear hb_2356
            clear  hbE_235
            try simp only at hr_236
            obtain ⟨hr_236_0, hr_236_1, hr_236_2⟩ := hr_236
            obtain ⟨phn_237, hphn_237⟩ : ∃ q : Nat, q = pho_221 := ⟨_, rfl⟩
            have hF_237 := jDcc.full (ph1 := phn_237) (hh_235.iv 0 rfl) hg_spare_13 (hh_235.at 5 rfl) (hh_235.at 6 rfl) ⟨(hh_235.2.2.1.sub (L1 := [(spare_13, 3, 4, .int qs_235), (spare_13, 3, 10, .int pk_221), (spare_13, 3, 11, .null)]) [0, 4, 3] rfl), (hh_235.2.2.2.2.2.2.2.1.sub (L1 := [(yb_221, 171, 40, ca 1, gb_235), (ye_221, 172, 40, ca 1, ge_235)]) [0, 1] rfl), (hr_236_2.mono (by omega)), by omega⟩ (w := (575 * (qs_235.toInt - pk_221.toInt) + (1500 - jEd ge_235 pk_221.toInt)).toNat) (fun h9 => absurd h9 (by decide)) (by omega) (fun h9 => absurd h9 (by decide))
            have hh_238 := hh_235.sub (L1 := [(spare_13, 3, 4, .int qs_235), (kernel_231, 7, 1, .ref syntax_234), (r0, 13, 5, .ref kernel_231), (spare_13, 3, 11, .null), (spare_13, 3, 10, .int pk_221), (spare_13, 3, 5, .ref yb_221), (spare_13, 3, 6, .ref ye_221), (r0, 13, 18, .int (-2)), (r0, 13, 16, .ref spare_13), (r0, 13, 15, .ref latest_19), (spare_13, 3, 3, .int ql_14), (ta, 2, 1, .int 0), (r0, 13, 0, .ref ta), (ta, 2, 0, .ref pr)]) [0, 1, 2, 3, 4, 5, 6, 7, 8, 9, 10, 11, 12, 13] rfl (M1 := [(yb_221, 171, 40, ca 1, gb_235), (ye_221, 172, 40, ca 1, ge_235)]) [0, 1] rfl (I1 := [([(2, 0), (2, 1)], jOl (dC, dI) G0 2 [ta] s.heap), (jFy, jYb dC dI G0), (jFs11, jSef dC dI G0)]) [1, 2, 3] rfl
            clear hh_235
            have hh_239 := hh_238.addI (jDcc.ie hF_237)
            clear hh_238
            refine lv_iconst (v := 0) hx hb dX11_batch_95 (by decide) ?_
            have hjz := jEd.z (fe := ge_235) (k := (0 : Int32).toInt) (by omega)
            refine lv_istore_n (lv' := [(3, .int 0), (2, .ref spare_13), (0, .ref r0), (1, .int a1)]) hx hb dX11_batch_96 rfl hl (by decide) rfl (fun ls hl => ?_)
            have L97 : ∀ (N : Nat) (Gx_240 : jT) (zcx_240 : Nat) (zsx_240 : Nat) (v3_240 : Int32) (H_240 : Heap) (locs_240 : List Loc), jSt (dC, dI) B base G0 Gx_240 EX11_batch s.heap zcx_240 zsx_240 [(spare_13, 3, 4, .int qs_235), (kernel_231, 7, 1, .ref syntax_234), (r0, 13, 5, .ref kernel_231), (spare_13, 3, 11, .null), (spare_13, 3, 10, .int pk_221), (spare_13, 3, 5, .ref yb_221), (spare_13, 3, 6, .ref ye_221), (r0, 13, 18, .int (-2)), (r0, 13, 16, .ref spare_13), (r0, 13, 15, .ref latest_19), (spare_13, 3, 3, .int ql_14), (ta, 2, 1, .int 0), (r0, 13, 0, .ref ta), (ta, 2, 0, .ref pr)] [(yb_221, 171, 40, ca 1, gb_235), (ye_221, 172, 40, ca 1, ge_235)] [(jFdo, jDcc dC dI ca Gx_240 none phn_237), ([(2, 0), (2, 1)], jOl (dC, dI) G0 2 [ta] s.heap), (jFy, jYb dC dI Gx_240), (jFs11, jSef dC dI Gx_240)] H_240 locs_240 → (jNk [0, 1, 2, 4, 6, 7, 8, 9, 10, 12, 13, 14, 15, 16]) G0 Gx_240 → jLe G0 Gx_240 → (0 ≤ v3_240.toInt ∧ v3_240.toInt ≤ qs_235.toInt ∧ zcx_240 ≤ 8 + 24 * v3_240.toInt ∧ zsx_240 ≤ 1720 + 185 * jEd ge_235 v3_240.toInt) → (qs_235.toInt - v3_240.toInt : Int) < N → ∀ ls : Array Slot, lv_has ls 5 [(0, .ref r0), (1, .int a1), (2, .ref spare_13), (3, .int v3_240)] → W p l e R s m ([.ref r0, .int a1] : List Value).toArray below meth c H_240 locs_240 zcx_240 zsx_240 Q (F0 m 97 ls []) := by
              intro N
              induction N with
              | zero => intro Gx_240 zcx_240 zsx_240 v3_240 H_240 locs_240 hh_240 hN_240 hle_240 hi_240 hm; exact absurd hm (by omega)
              | succ N L97 =>
                intro Gx_240 zcx_240 zsx_240 v3_240 H_240 locs_240 hh_240 hN_240 hle_240 hi_240 hm_240 ls hl
                have hg_241 := hle_240 _ _ hg_r0
                have hg_242 := hle_240 _ _ hg_spare_13
                have hg_243 := hle_240 _ _ hg_syntax_234
                have hg_244 := hle_240 _ _ hg_kernel_231
                have hg_245 := hle_240 _ _ hgb_221
                have hg_246 := hle_240 _ _ hge_221
                have hg_247 := hle_240 _ _ hg_latest_19
                have hg_248 := hle_240 _ _ hg_ta
                have hg_249 := hle_240 _ _ hg_pr
                obtain ⟨hi_240_0, hi_240_1, hi_240_2, hi_240_3⟩ := hi_240
                have hql := jSn.le hr_236_2 (by omega)
                refine lv_iload_n hx hb dX11_batch_97 rfl (lv_at hl 3 rfl) ?_
                refine lv_aload_n hx hb dX11_batch_98 rfl (lv_at hl 2 rfl) ?_
                refine j7_read hx hb hown hK (C := RX1) (T := TX1) (N := 17) rfl hly_3_4 hlk_168 (hh_240.at 0 rfl) dX11_batch_99 ?_
                refine lv_icmp_ge (tgt := 165) hx hb dX11_batch_102 (by decide) (fun c_250 => ?_) (fun c_250 => ?_)
                · skip
                  have c_250' : v3_240.toInt ≥ qs_235.toInt := jb_ge (rfl) (rfl) c_250
                  have hjl := jEd.le hr_236_2 (k := v3_240.toInt) (by omega) (by omega) (by omega)
                  refine lv_aload_n hx hb dX11_batch_165 rfl (lv_at hl 2 rfl) ?_
                  refine j7_read hx hb hown hK (C := RX1) (T := TX1) (N := 17) rfl hly_3_4 hlk_168 (hh_240.at 0 rfl) dX11_batch_166 ?_
                  have hsz_251 := hh_240.2.2.2.2.2.1
                  have htt_251 := hh_240.2.2.2.2.2.2.1
                  refine W.room (fun hrc_251 hrs_251 => ?_)
                  refine W.widen (k := LC - s.heap.size) (n := LS - jTot s.heap) (by omega) (by omega) ?_
                  rw [hQ]
                  exact W.iret (v := qs_235) hx hb hr (fun t ht hW => ⟨⟨qs_235, (0, phn_237, (pt.toInt.toNat - (0 : Int).toNat), Gx_240), rfl, by (try dsimp only); exact ⟨(by first | (with_reducible assumption) | assumption | omega | rfl | fail), (by first | (with_reducible assumption) | omega | rfl | fail), (by first | (with_reducible assumption) | omega | rfl | fail)⟩, ⟨hh_240.ra (by first | (simp only; omega) | omega) (by first | (simp only; omega) | omega) (M1 := [(ta, 2, 1, .int 0)]) [11] rfl ht, hN_240, by rw [ht]; exact hh_240.iv 1 rfl, by rw [ht]; exact hh_240.2.2.2.2.2.2.2.2.sub (L1 := [(jFy, jYb dC dI Gx_240), (jFs11, jSef dC dI Gx_240), (jFdo, jDcc dC dI ca Gx_240 none phn_237)]) [2, 3, 0] rfl⟩⟩, by rw [ht]; try exact hh_240.1.1, fun q h9 hq => by rw [ht]; try exact hh_240.1.2.1 q h9 hq⟩) hh_240.1.2.2 dX11_batch_169
                · skip
                  have c_250' : v3_240.toInt < qs_235.toInt := jb_ge_n (rfl) (rfl) c_250
                  have hn2 := jEd.nx hr_236_2 (k := v3_240.toInt) (by omega) (by omega)
                  have hnb := jEd.nx (hr_236_2.mono (by omega) : jSn _ _ _ 1500) (k := v3_240.toInt) (by omega) (by omega)
                  refine lv_aload_n hx hb dX11_batch_105 rfl (lv_at hl 2 rfl) ?_
                  obtain ⟨v_252, hv_252, hh_253⟩ := hh_240.pin (C := RX1) (T := TX1) (N := 17) hB3 rfl (by decide) hg_242 (i := 2) (by decide) rfl
                  clear hh_240
                  obtain ⟨text_254, rfl, hg_text_254⟩ := hv_252
                  refine j7_read hx hb hown hK (C := RX1) (T := TX1) (N := 17) rfl hly_3_2 hlk_174 (hh_253.at 0 rfl) dX11_batch_106 ?_
                  refine lv_aload_n hx hb dX11_batch_109 rfl (lv_at hl 2 rfl) ?_
                  refine j7_read hx hb hown hK (C := RX1) (T := TX1) (N := 17) rfl hly_3_5 hlk_182 (hh_253.at 6 rfl) dX11_batch_110 ?_
                  refine lv_iload_n hx hb dX11_batch_113 rfl (lv_at hl 3 rfl) ?_
                  refine j7_ialdM hx hb hK hh_253 hB171 1 rfl (by decide) hg_245 (x := v3_240.toInt) (rfl) (by omega) (j := 0) rfl dX11_batch_114 (fun z_255 ez_255 (hz_255 : 0 ≤ z_255.toInt ∧ z_255.toInt ≤ 1500) => ?_)
                  have hqz_255 : z_255.toInt = jSo gb_235 (v3_240.toInt) := by unfold jSo; rw [ez_255]
                  refine lv_aload_n hx hb dX11_batch_115 rfl (lv_at hl 2 rfl) ?_
                  refine j7_read hx hb hown hK (C := RX1) (T := TX1) (N := 17) rfl hly_3_6 hlk_185 (hh_253.at 7 rfl) dX11_batch_116 ?_
                  refine lv_iload_n hx hb dX11_batch_119 rfl (lv_at hl 3 rfl) ?_
                  refine j7_ialdM hx hb hK hh_253 hB172 1 rfl (by decide) hg_246 (x := v3_240.toInt) (rfl) (by omega) (j := 1) rfl dX11_batch_120 (fun z_256 ez_256 (hz_256 : 0 ≤ z_256.toInt ∧ z_256.toInt ≤ 1500) => ?_)
                  have hqz_256 : z_256.toInt = jSo ge_235 (v3_240.toInt) := by unfold jSo; rw [ez_256]
                  have hsz_257 := hh_253.2.2.2.2.2.1
                  have htt_257 := hh_253.2.2.2.2.2.2.1
                  refine W.room (fun hrc_257 hrs_257 => ?_)
                  refine j_callx (A0 := jA base) (H0 := s.heap) (va_runS (As := [.ref text_254, .int z_255, .int z_256]) (rest := []) ⟨hx, hb, hml, hown, hts⟩ (uJ7_copyOfRange_feeccU l dC dI ca base B hB hAp hB101 hB280 Gx_240 H_240 text_254 z_255 z_256 1500 LC LS) (va_cwS 3 hts (jgS (jWr_77 _ (List.mem_of_getElem? (i := 21) rfl)) (jWr_77 _ (List.mem_of_getElem? (i := 22) rfl)) (jWr_16 _ (List.mem_of_getElem? (i := 7) rfl)) (jWr_77 _ (List.mem_of_getElem? (i := 23) rfl))) rfl rfl rfl (by decide +kernel) ⟨by rw [← hR]; exact Nat.le_of_ble_eq_true rfl, by rw [← hR]; exact Nat.le_of_ble_eq_true rfl⟩) ⟨fun a U g mk q => by obtain ⟨q0, q1, q2, qK, q10, q11, q12, q13⟩ := q; exact ⟨q0, q1, q2, jG.calling g mk a qK, (jK8.calling g mk a q10), q11, q12, q13⟩, fun U hU hW => ⟨rfl, hU, hh_253.2.1, hG.step hW hU hh_253.1, (jK8.warm hW hK8), hg_text_254, jP.nil, ⟨(by first | (with_reducible assumption) | omega | rfl | fail), (by first | (with_reducible assumption) | omega | rfl | fail), (by first | (with_reducible assumption) | omega | rfl | fail), (by first | (with_reducible assumption) | omega | rfl | fail)⟩⟩⟩ rfl rfl hl.1 rfl (lv_room (Nat.le_of_ble_eq_true rfl)) dX11_batch_121 ⟨by rw [hRc]; omega, by rw [hRs]; omega⟩) hh_253.1 (fun q _ h => h) (fun q h => h) (fun r_258 u_257 t_257 H_257 locs_257 ht_257 hvm_257 hr_258 hb_257 hz_257 hk_257 hS_257 => ?_)
                  rw [ht_257] at hb_257
                  obtain ⟨m_ret_257, G_257⟩ := u_257
                  simp only at hb_257
                  obtain ⟨⟨hb_2571, hb_2572, hb_2573, hb_2574, hb_2575, hb_2576⟩, hN_257, hbK_257⟩ := hb_257
                  have hE9_257 := hN_257
                  have hM_257 := hN_257
                  have hN_257 : (jNk [0, 1, 2, 4, 6, 7, 8, 9, 10, 12, 13, 14, 15, 16]) Gx_240 G_257 := hN_257.sub (by decide)
                  have hh_257 : jSt (dC, dI) B base G0 G_257 EX11_batch s.heap (zcx_240 + (1)) (zsx_240 + (m_ret_257)) [(spare_13, 3, 2, .ref text_254), (spare_13, 3, 4, .int qs_235), (kernel_231, 7, 1, .ref syntax_234), (r0, 13, 5, .ref kernel_231), (spare_13, 3, 11, .null), (spare_13, 3, 10, .int pk_221), (spare_13, 3, 5, .ref yb_221), (spare_13, 3, 6, .ref ye_221), (r0, 13, 18, .int (-2)), (r0, 13, 16, .ref spare_13), (r0, 13, 15, .ref latest_19), (spare_13, 3, 3, .int ql_14), (ta, 2, 1, .int 0), (r0, 13, 0, .ref ta), (ta, 2, 0, .ref pr)] [(yb_221, 171, 40, ca 1, gb_235), (ye_221, 172, 40, ca 1, ge_235)] [(jFdo, jDcc dC dI ca Gx_240 none phn_237), ([(2, 0), (2, 1)], jOl (dC, dI) G0 2 [ta] s.heap), (jFy, jYb dC dI Gx_240), (jFs11, jSef dC dI Gx_240)] H_257 locs_257 := (hh_253.callG hb_2571 hb_2572 hb_2573 hb_2574 hb_2575 hS_257 rfl (L1 := [(spare_13, 3, 2, .ref text_254), (spare_13, 3, 4, .int qs_235), (kernel_231, 7, 1, .ref syntax_234), (r0, 13, 5, .ref kernel_231), (spare_13, 3, 11, .null), (spare_13, 3, 10, .int pk_221), (spare_13, 3, 5, .ref yb_221), (spare_13, 3, 6, .ref ye_221), (r0, 13, 18, .int (-2)), (r0, 13, 16, .ref spare_13), (r0, 13, 15, .ref latest_19), (spare_13, 3, 3, .int ql_14), (ta, 2, 1, .int 0), (r0, 13, 0, .ref ta), (ta, 2, 0, .ref pr)]) [0, 1, 2, 3, 4, 5, 6, 7, 8, 9, 10, 11, 12, 13, 14] rfl rfl (M1 := [(yb_221, 171, 40, ca 1, gb_235), (ye_221, 172, 40, ca 1, ge_235)]) [0, 1] rfl rfl (I1 := [(jFdo, jDcc dC dI ca Gx_240 none phn_237), ([(2, 0), (2, 1)], jOl (dC, dI) G0 2 [ta] s.heap), (jFy, jYb dC dI Gx_240), (jFs11, jSef dC dI Gx_240)]) [0, 1, 2, 3] rfl rfl).more hb_2576
                  have hNn_257 : (jNk [0, 1, 2, 4, 6, 7, 8, 9, 10, 12, 13, 14, 15, 16]) G0 G_257 := (hN_240).tr hN_257
                  have hg_259 := hb_2572 _ _ hg_241
                  have hg_260 := hb_2572 _ _ hg_242
                  have hg_261 := hb_2572 _ _ hg_text_254
                  have hg_262 := hb_2572 _ _ hg_243
                  have hg_263 := hb_2572 _ _ hg_244
                  have hg_264 := hb_2572 _ _ hg_245
                  have hg_265 := hb_2572 _ _ hg_246
                  have hg_266 := hb_2572 _ _ hg_247
                  have hg_267 := hb_2572 _ _ hg_248
                  have hg_268 := hb_2572 _ _ hg_249
                  have hd_269 := jDcc.grow (hh_257.iv 0 rfl) hb_2572 hE9_257 (by decide)
                  have hh_270 := hh_257.sub (L1 := [(spare_13, 3, 2, .ref text_254), (spare_13, 3, 4, .int qs_235), (kernel_231, 7, 1, .ref syntax_234), (r0, 13, 5, .ref kernel_231), (spare_13, 3, 11, .null), (spare_13, 3, 10, .int pk_221), (spare_13, 3, 5, .ref yb_221), (spare_13, 3, 6, .ref ye_221), (r0, 13, 18, .int (-2)), (r0, 13, 16, .ref spare_13), (r0, 13, 15, .ref latest_19), (spare_13, 3, 3, .int ql_14), (ta, 2, 1, .int 0), (r0, 13, 0, .ref ta), (ta, 2, 0, .ref pr)]) [0, 1, 2, 3, 4, 5, 6, 7, 8, 9, 10, 11, 12, 13, 14] rfl (M1 := [(yb_221, 171, 40, ca 1, gb_235), (ye_221, 172, 40, ca 1, ge_235)]) [0, 1] rfl (I1 := [([(2, 0), (2, 1)], jOl (dC, dI) G0 2 [ta] s.heap), (jFy, jYb dC dI Gx_240), (jFs11, jSef dC dI Gx_240)]) [1, 2, 3] rfl
                  clear hh_257
                  have hh_271 := hh_270.addI (jDcc.ie hd_269)
                  clear hh_270
                  have hd_272 := jYb.grow (hh_271.iv 2 rfl) hb_2572 hN_257 (by decide)
                  have hh_273 := hh_271.sub (L1 := [(spare_13, 3, 2, .ref text_254), (spare_13, 3, 4, .int qs_235), (kernel_231, 7, 1, .ref syntax_234), (r0, 13, 5, .ref kernel_231), (spare_13, 3, 11, .null), (spare_13, 3, 10, .int pk_221), (spare_13, 3, 5, .ref yb_221), (spare_13, 3, 6, .ref ye_221), (r0, 13, 18, .int (-2)), (r0, 13, 16, .ref spare_13), (r0, 13, 15, .ref latest_19), (spare_13, 3, 3, .int ql_14), (ta, 2, 1, .int 0), (r0, 13, 0, .ref ta), (ta, 2, 0, .ref pr)]) [0, 1, 2, 3, 4, 5, 6, 7, 8, 9, 10, 11, 12, 13, 14] rfl (M1 := [(yb_221, 171, 40, ca 1, gb_235), (ye_221, 172, 40, ca 1, ge_235)]) [0, 1] rfl (I1 := [(jFdo, jDcc dC dI ca G_257 none phn_237), ([(2, 0), (2, 1)], jOl (dC, dI) G0 2 [ta] s.heap), (jFs11, jSef dC dI Gx_240)]) [0, 1, 3] rfl
                  clear hh_271
                  have hh_274 := hh_273.addI (jYb.ie hd_272)
                  clear hh_273
                  have hd_275 := jSef.grow (hh_274.iv 3 rfl) hb_2572 hM_257 (by decide)
                  have hh_276 := hh_274.sub (L1 := [(spare_13, 3, 2, .ref text_254), (spare_13, 3, 4, .int qs_235), (kernel_231, 7, 1, .ref syntax_234), (r0, 13, 5, .ref kernel_231), (spare_13, 3, 11, .null), (spare_13, 3, 10, .int pk_221), (spare_13, 3, 5, .ref yb_221), (spare_13, 3, 6, .ref ye_221), (r0, 13, 18, .int (-2)), (r0, 13, 16, .ref spare_13), (r0, 13, 15, .ref latest_19), (spare_13, 3, 3, .int ql_14), (ta, 2, 1, .int 0), (r0, 13, 0, .ref ta), (ta, 2, 0, .ref pr)]) [0, 1, 2, 3, 4, 5, 6, 7, 8, 9, 10, 11, 12, 13, 14] rfl (M1 := [(yb_221, 171, 40, ca 1, gb_235), (ye_221, 172, 40, ca 1, ge_235)]) [0, 1] rfl (I1 := [(jFy, jYb dC dI G_257), (jFdo, jDcc dC dI ca G_257 none phn_237), ([(2, 0), (2, 1)], jOl (dC, dI) G0 2 [ta] s.heap)]) [0, 1, 2] rfl
                  clear hh_274
                  have hh_277 := hh_276.addI (jSef.ie hd_275)
                  clear hh_276
                  obtain ⟨hr_258, hr_258n, hr_258p⟩ := hr_258
                  try simp only at hr_258p
                  obtain ⟨ret_278, rfl, hg_ret_278⟩ := hr_258
                  have hsy_257 : s.heap.size ≤ ret_278 := Nat.le_trans hh_253.1.1 hr_258n.le
                  refine lv_astore (lv' := [(4, .ref ret_278), (0, .ref r0), (1, .int a1), (2, .ref spare_13), (3, .int v3_240)]) hx hb dX11_batch_124 hl (by decide) rfl (fun ls hl => ?_)
                  refine lv_aload_n hx hb dX11_batch_126 rfl (lv_at hl 3 rfl) ?_
                  obtain ⟨v_279, hv_279, hh_280⟩ := hh_277.pin (C := RX1) (T := TX1) (N := 17) hB3 rfl (by decide) hg_260 (i := 9) (by decide) rfl
                  clear hh_277
                  obtain ⟨behind_281, rfl, hg_behind_281⟩ := hv_279
                  refine j7_read hx hb hown hK (C := RX1) (T := TX1) (N := 17) rfl hly_3_9 hlk_178 (hh_280.at 0 rfl) dX11_batch_127 ?_
                  refine lv_iload_n hx hb dX11_batch_130 rfl (lv_at hl 4 rfl) ?_
                  refine lv_aload_n hx hb dX11_batch_131 rfl (lv_at hl 1 rfl) ?_
                  refine j7_read hx hb hown hK (C := RX11) (T := TX11) (N := 19) rfl hly_13_5 hlk_41 (hh_280.at 4 rfl) dX11_batch_132 ?_
                  refine lv_aload_n hx hb dX11_batch_135 rfl (lv_at hl 3 rfl) ?_
                  refine lv_iload_n hx hb dX11_batch_136 rfl (lv_at hl 4 rfl) ?_
                  refine lv_aload_n hx hb dX11_batch_137 rfl (lv_at hl 1 rfl) ?_
                  refine j7_read hx hb hown hK (C := RX11) (T := TX11) (N := 19) rfl hly_13_5 hlk_41 (hh_280.at 4 rfl) dX11_batch_138 ?_
                  obtain ⟨v_282, hv_282, hh_283⟩ := hh_280.pin (C := RX5) (T := TX5) (N := 11) hB7 rfl (by decide) hg_263 (i := 2) (by decide) rfl
                  clear hh_280
                  obtain ⟨start_284, rfl, hg_start_284⟩ := hv_282
                  refine j7_read hx hb hown hK (C := RX5) (T := TX5) (N := 11) rfl hly_7_2 hlk_217 (hh_283.at 0 rfl) dX11_batch_141 ?_
                  have hsz_285 := hh_283.2.2.2.2.2.1
                  have htt_285 := hh_283.2.2.2.2.2.2.1
                  refine W.room (fun hrc_285 hrs_285 => ?_)
                  refine j_callx (A0 := jA base) (H0 := s.heap) (va_runV (As := [.int v3_240, .ref start_284]) (rest := [.ref kernel_231, .int v3_240, .ref behind_281]) ⟨hx, hb, hml, hown, hts⟩ (uX1_stateBehind l dC dI ca base B hB hAp hB3 hB11 hB210 G_257 H_257 spare_13 v3_240 start_284 1) (cwV 2 hts (jgV (jWr_30 _ (List.mem_of_getElem? (i := 9) rfl)) (jWr_30 _ (List.mem_of_getElem? (i := 10) rfl)) (jWr_30 _ (List.mem_of_getElem? (i := 11) rfl)) (jWr_2 _ (List.mem_of_getElem? (i := 21) rfl)) (jWr_30 _ (List.mem_of_getElem? (i := 12) rfl))) rfl rfl rfl (by decide +kernel) ⟨by rw [← hR]; exact Nat.le_of_ble_eq_true rfl, by rw [← hR]; exact Nat.le_of_ble_eq_true rfl⟩) ⟨fun a U g mk q => by obtain ⟨q0, q1, q2, qK, q10, q11, q12, q13, q14⟩ := q; exact ⟨q0, q1, q2, jG.calling g mk a qK, (va_K.moved (Vm.Alike.refl U.vm) q10), q11, q12, q13, q14⟩, hh_283.recv (C := RX1) (T := TX1) (N := 17) hB3 rfl (by decide) hg_260 hK, fun U hU hW => ⟨rfl, hU, hh_283.2.1, hG.step hW hU hh_283.1, va_K.moved hW.alike hK2, hg_260, hg_start_284, jP.nil, trivial⟩⟩ rfl rfl hl.1 rfl (lv_room (Nat.le_of_ble_eq_true rfl)) dX11_batch_144 ⟨by rw [hRc]; show _ + 0 ≤ _; omega, by rw [hRs]; show _ + 0 ≤ _; omega⟩) hh_283.1 (fun q _ h => h) (fun q h => h) (fun r_286 u_285 t_285 H_285 locs_285 ht_285 hvm_285 hr_286 hb_285 hz_285 hk_285 hS_285 => ?_)
                  rw [ht_285] at hb_285
                  obtain ⟨hb_2851, hb_2852, hb_2853, hb_2854, hb_2855⟩ := hb_285
                  have hh_285 : jSt (dC, dI) B base G0 G_257 EX11_batch s.heap (zcx_240 + (1)) (zsx_240 + (m_ret_257)) [(kernel_231, 7, 2, .ref start_284), (spare_13, 3, 9, .ref behind_281), (spare_13, 3, 2, .ref text_254), (spare_13, 3, 4, .int qs_235), (kernel_231, 7, 1, .ref syntax_234), (r0, 13, 5, .ref kernel_231), (spare_13, 3, 11, .null), (spare_13, 3, 10, .int pk_221), (spare_13, 3, 5, .ref yb_221), (spare_13, 3, 6, .ref ye_221), (r0, 13, 18, .int (-2)), (r0, 13, 16, .ref spare_13), (r0, 13, 15, .ref latest_19), (spare_13, 3, 3, .int ql_14), (ta, 2, 1, .int 0), (r0, 13, 0, .ref ta), (ta, 2, 0, .ref pr)] [(yb_221, 171, 40, ca 1, gb_235), (ye_221, 172, 40, ca 1, ge_235)] [(jFs11, jSef dC dI G_257), (jFy, jYb dC dI G_257), (jFdo, jDcc dC dI ca G_257 none phn_237), ([(2, 0), (2, 1)], jOl (dC, dI) G0 2 [ta] s.heap)] H_285 locs_285 := ((hh_283.call hb_2851 hb_2852 hb_2853 hb_2854 hS_285 rfl (L1 := [(kernel_231, 7, 2, .ref start_284), (spare_13, 3, 9, .ref behind_281), (spare_13, 3, 2, .ref text_254), (spare_13, 3, 4, .int qs_235), (kernel_231, 7, 1, .ref syntax_234), (r0, 13, 5, .ref kernel_231), (spare_13, 3, 11, .null), (spare_13, 3, 10, .int pk_221), (spare_13, 3, 5, .ref yb_221), (spare_13, 3, 6, .ref ye_221), (r0, 13, 18, .int (-2)), (r0, 13, 16, .ref spare_13), (r0, 13, 15, .ref latest_19), (spare_13, 3, 3, .int ql_14), (ta, 2, 1, .int 0), (r0, 13, 0, .ref ta), (ta, 2, 0, .ref pr)]) [0, 1, 2, 3, 4, 5, 6, 7, 8, 9, 10, 11, 12, 13, 14, 15, 16] rfl rfl (M1 := [(yb_221, 171, 40, ca 1, gb_235), (ye_221, 172, 40, ca 1, ge_235)]) [0, 1] rfl rfl (I1 := [(jFs11, jSef dC dI G_257), (jFy, jYb dC dI G_257), (jFdo, jDcc dC dI ca G_257 none phn_237), ([(2, 0), (2, 1)], jOl (dC, dI) G0 2 [ta] s.heap)]) [0, 1, 2, 3] rfl rfl).more hb_2855)
                  clear hh_283 ht_285 hvm_285 hz_285 hk_285 hS_285 hb_2851 hb_2852 hb_2853 hb_2854 hb_2855
                  obtain ⟨ret_287, rfl, hg_ret_287⟩ := hr_286
                  refine lv_aload hx hb dX11_batch_147 (lv_at hl 0 rfl) ?_
                  refine lv_aload_n hx hb dX11_batch_149 rfl (lv_at hl 3 rfl) ?_
                  obtain ⟨v_288, hv_288, hh_289⟩ := hh_285.pin (C := RX1) (T := TX1) (N := 17) hB3 rfl (by decide) hg_260 (i := 8) (by decide) rfl
                  clear hh_285
                  obtain ⟨early_290, rfl, hg_early_290⟩ := hv_288
                  refine j7_read hx hb hown hK (C := RX1) (T := TX1) (N := 17) rfl hly_3_8 hlk_225 (hh_289.at 0 rfl) dX11_batch_150 ?_
                  refine lv_iload_n hx hb dX11_batch_153 rfl (lv_at hl 4 rfl) ?_
                  refine j7_iald hx hb hK hh_289 hB101 1 rfl (by decide) hg_early_290 (x := v3_240.toInt) (rfl) (by omega) dX11_batch_154 (fun z_291 (hz_291 : True) => ?_)
                  have hsz_292 := hh_289.2.2.2.2.2.1
                  have htt_292 := hh_289.2.2.2.2.2.2.1
                  refine W.room (fun hrc_292 hrs_292 => ?_)
                  refine j_callx (A0 := jA base) (H0 := s.heap) (va_runV (As := [.ref ret_287, .ref ret_278, .int z_291]) (rest := [.int v3_240, .ref behind_281]) ⟨hx, hb, hml, hown, hts⟩ (uX5_checkS l dC dI ca base B hB hAp hB5 hB7 hB8 hB11 hB12 hB101 hB102 hB132 hB133 hB211 hB214 hB280 hB290 hB291 hB292 hB293 hB313 hB315 G_257 H_285 kernel_231 ret_287 ret_278 z_291 m_ret_257 (min 1 (m_ret_257 / 3)) LC LS) (cwV 3 hts (jgV (jWr_78 _ (List.mem_of_getElem? (i := 14) rfl)) (jWr_78 _ (List.mem_of_getElem? (i := 15) rfl)) (jWr_78 _ (List.mem_of_getElem? (i := 16) rfl)) (jWr_2 _ (List.mem_of_getElem? (i := 4) rfl)) (jWr_78 _ (List.mem_of_getElem? (i := 17) rfl))) rfl rfl rfl (by decide +kernel) ⟨by rw [← hR]; exact Nat.le_of_ble_eq_true rfl, by rw [← hR]; exact Nat.le_of_ble_eq_true rfl⟩) ⟨fun a U g mk q => by obtain ⟨q0, q1, q2, qK, q10, q11, q12, q13, q14, q15, q16, q17, q18⟩ := q; exact ⟨q0, q1, q2, jG.calling g mk a qK, (va_K.moved (Vm.Alike.refl U.vm) q10), (jK5.moved (Vm.Alike.refl U.vm) q11), (jK6.moved (Vm.Alike.refl U.vm) q12), q13, q14, q15, q16, q17, q18⟩, hh_289.recv (C := RX5) (T := TX5) (N := 11) hB7 rfl (by decide) hg_263 hK, fun U hU hW => ⟨rfl, hU, hh_289.2.1, hG.step hW hU hh_289.1, va_K.moved hW.alike hK2, jK5.moved hW.alike hK5, jK6.moved hW.alike hK6, hg_263, hg_ret_287, hg_ret_278, jP.nil, (hh_289.2.2.2.2.2.2.2.2.sub (L1 := [(jFs11, jSef dC dI G_257)]) [0] rfl), ⟨(by first | (with_reducible assumption) | omega | rfl | fail), (by first | (with_reducible assumption) | assumption | omega | rfl | fail)⟩⟩⟩ rfl rfl hl.1 rfl (lv_room (Nat.le_of_ble_eq_true rfl)) dX11_batch_155 ⟨by rw [hRc]; omega, by rw [hRs]; omega⟩) hh_289.1 (fun q _ h => h) (fun q h => h) (fun r_293 u_292 t_292 H_292 locs_292 ht_292 hvm_292 hr_293 hb_292 hz_292 hk_292 hS_292 => ?_)
                  rw [ht_292] at hb_292
                  obtain ⟨G_292, rfl⟩ : ∃ z, z = u_292 := ⟨_, rfl⟩
                  try simp only at hb_292
                  obtain ⟨⟨hb_2921, hb_2922, hb_2923, hb_2924, hb_2925, hb_2926⟩, hN_292, hbE_292⟩ := hb_292
                  have hE9_292 := hN_292
                  have hN_292 : (jNk [0, 1, 2, 4, 6, 7, 8, 9, 10, 12, 13, 14, 15, 16]) G_257 G_292 := hN_292.sub (by decide)
                  have hh_292 : jSt (dC, dI) B base G0 G_292 EX11_batch s.heap ((zcx_240 + (1)) + (23)) ((zsx_240 + (m_ret_257)) + ((183 + 336 * (min 1 (m_ret_257 / 3))))) [(spare_13, 3, 8, .ref early_290), (kernel_231, 7, 2, .ref start_284), (spare_13, 3, 9, .ref behind_281), (spare_13, 3, 2, .ref text_254), (spare_13, 3, 4, .int qs_235), (kernel_231, 7, 1, .ref syntax_234), (r0, 13, 5, .ref kernel_231), (spare_13, 3, 11, .null), (spare_13, 3, 10, .int pk_221), (spare_13, 3, 5, .ref yb_221), (spare_13, 3, 6, .ref ye_221), (r0, 13, 18, .int (-2)), (r0, 13, 16, .ref spare_13), (r0, 13, 15, .ref latest_19), (spare_13, 3, 3, .int ql_14), (ta, 2, 1, .int 0), (r0, 13, 0, .ref ta), (ta, 2, 0, .ref pr)] [(yb_221, 171, 40, ca 1, gb_235), (ye_221, 172, 40, ca 1, ge_235)] [(jFy, jYb dC dI G_257), (jFdo, jDcc dC dI ca G_257 none phn_237), ([(2, 0), (2, 1)], jOl (dC, dI) G0 2 [ta] s.heap)] H_292 locs_292 := (hh_289.callG hb_2921 hb_2922 hb_2923 hb_2924 hb_2925 hS_292 rfl (L1 := [(spare_13, 3, 8, .ref early_290), (kernel_231, 7, 2, .ref start_284), (spare_13, 3, 9, .ref behind_281), (spare_13, 3, 2, .ref text_254), (spare_13, 3, 4, .int qs_235), (kernel_231, 7, 1, .ref syntax_234), (r0, 13, 5, .ref kernel_231), (spare_13, 3, 11, .null), (spare_13, 3, 10, .int pk_221), (spare_13, 3, 5, .ref yb_221), (spare_13, 3, 6, .ref ye_221), (r0, 13, 18, .int (-2)), (r0, 13, 16, .ref spare_13), (r0, 13, 15, .ref latest_19), (spare_13, 3, 3, .int ql_14), (ta, 2, 1, .int 0), (r0, 13, 0, .ref ta), (ta, 2, 0, .ref pr)]) [0, 1, 2, 3, 4, 5, 6, 7, 8, 9, 10, 11, 12, 13, 14, 15, 16, 17] rfl rfl (M1 := [(yb_221, 171, 40, ca 1, gb_235), (ye_221, 172, 40, ca 1, ge_235)]) [0, 1] rfl rfl (I1 := [(jFy, jYb dC dI G_257), (jFdo, jDcc dC dI ca G_257 none phn_237), ([(2, 0), (2, 1)], jOl (dC, dI) G0 2 [ta] s.heap)]) [1, 2, 3] rfl rfl).more hb_2926
                  have hNn_292 : (jNk [0, 1, 2, 4, 6, 7, 8, 9, 10, 12, 13, 14, 15, 16]) G0 G_292 := (hNn_257).tr hN_292
                  have hg_294 := hb_2922 _ _ hg_ret_278
                  have hg_295 := hb_2922 _ _ hg_259
                  have hg_296 := hb_2922 _ _ hg_260
                  have hg_297 := hb_2922 _ _ hg_behind_281
                  have hg_298 := hb_2922 _ _ hg_early_290
                  have hg_299 := hb_2922 _ _ hg_start_284
                  have hg_300 := hb_2922 _ _ hg_261
                  have hg_301 := hb_2922 _ _ hg_262
                  have hg_302 := hb_2922 _ _ hg_263
                  have hg_303 := hb_2922 _ _ hg_264
                  have hg_304 := hb_2922 _ _ hg_265
                  have hg_305 := hb_2922 _ _ hg_266
                  have hg_306 := hb_2922 _ _ hg_267
                  have hg_307 := hb_2922 _ _ hg_268
                  have hd_308 := jYb.grow (hh_292.iv 0 rfl) hb_2922 hN_292 (by decide)
                  have hh_309 := hh_292.sub (L1 := [(spare_13, 3, 8, .ref early_290), (kernel_231, 7, 2, .ref start_284), (spare_13, 3, 9, .ref behind_281), (spare_13, 3, 2, .ref text_254), (spare_13, 3, 4, .int qs_235), (kernel_231, 7, 1, .ref syntax_234), (r0, 13, 5, .ref kernel_231), (spare_13, 3, 11, .null), (spare_13, 3, 10, .int pk_221), (spare_13, 3, 5, .ref yb_221), (spare_13, 3, 6, .ref ye_221), (r0, 13, 18, .int (-2)), (r0, 13, 16, .ref spare_13), (r0, 13, 15, .ref latest_19), (spare_13, 3, 3, .int ql_14), (ta, 2, 1, .int 0), (r0, 13, 0, .ref ta), (ta, 2, 0, .ref pr)]) [0, 1, 2, 3, 4, 5, 6, 7, 8, 9, 10, 11, 12, 13, 14, 15, 16, 17] rfl (M1 := [(yb_221, 171, 40, ca 1, gb_235), (ye_221, 172, 40, ca 1, ge_235)]) [0, 1] rfl (I1 := [(jFdo, jDcc dC dI ca G_257 none phn_237), ([(2, 0), (2, 1)], jOl (dC, dI) G0 2 [ta] s.heap)]) [1, 2] rfl
                  clear hh_292
                  have hh_310 := hh_309.addI (jYb.ie hd_308)
                  clear hh_309
                  have hd_311 := jDcc.grow (hh_310.iv 1 rfl) hb_2922 hE9_292 (by decide)
                  have hh_312 := hh_310.sub (L1 := [(spare_13, 3, 8, .ref early_290), (kernel_231, 7, 2, .ref start_284), (spare_13, 3, 9, .ref behind_281), (spare_13, 3, 2, .ref text_254), (spare_13, 3, 4, .int qs_235), (kernel_231, 7, 1, .ref syntax_234), (r0, 13, 5, .ref kernel_231), (spare_13, 3, 11, .null), (spare_13, 3, 10, .int pk_221), (spare_13, 3, 5, .ref yb_221), (spare_13, 3, 6, .ref ye_221), (r0, 13, 18, .int (-2)), (r0, 13, 16, .ref spare_13), (r0, 13, 15, .ref latest_19), (spare_13, 3, 3, .int ql_14), (ta, 2, 1, .int 0), (r0, 13, 0, .ref ta), (ta, 2, 0, .ref pr)]) [0, 1, 2, 3, 4, 5, 6, 7, 8, 9, 10, 11, 12, 13, 14, 15, 16, 17] rfl (M1 := [(yb_221, 171, 40, ca 1, gb_235), (ye_221, 172, 40, ca 1, ge_235)]) [0, 1] rfl (I1 := [(jFy, jYb dC dI G_292), ([(2, 0), (2, 1)], jOl (dC, dI) G0 2 [ta] s.heap)]) [0, 2] rfl
                  clear hh_310
                  have hh_313 := hh_312.addI (jDcc.ie hd_311)
                  clear hh_312
                  have hh_314 := hh_313.addIs hbE_292
                  obtain ⟨hr_293, hr_293p⟩ := hr_293
                  try simp only at hr_293p
                  obtain ⟨ret_315, rfl, hg_ret_315⟩ := hr_293
                  refine j7_qast hx hb hK2 hh_314 hB hB210 2 rfl (by decide) (by decide) rfl rfl rfl hg_297 (x := v3_240.toInt) (rfl) (by omega) hB11 (T := TX9) (N := 9) rfl (by decide) hg_ret_315 (Or.inr ⟨_, rfl, hg_ret_315⟩) dX11_batch_158 (fun H_316 locs_316 hh_316 => ?_)
                  clear hh_314
                  obtain ⟨z_317, ez_317⟩ : ∃ y : Int32, y = v3_240 + 1 := ⟨_, rfl⟩
                  refine lv_iinc (v := z_317) (lv' := [(3, .int z_317), (4, .ref ret_278), (0, .ref r0), (1, .int a1), (2, .ref spare_13)]) hx hb dX11_batch_159 hl (k := 4) rfl (by rw [ez_317]; rfl) (by decide) rfl (fun ls hl => ?_)
                  have hz_317 : z_317.toInt = v3_240.toInt + 1 := by rw [ez_317]; exact jb_iadd2 (rfl) (by decide) (by omega)
                  have hje := jEd.to hnb.2.2.1 (k1 := z_317.toInt) (by omega)
                  refine lv_goto (tgt := 97) hx hb dX11_batch_162 (by decide) ?_
                  refine W.tight (c2 := ((zcx_240 + (1)) + (23))) (n2 := ((zsx_240 + (m_ret_257)) + ((183 + 336 * (min 1 (m_ret_257 / 3)))))) hh_316.2.2.2.2.2.1 hh_316.2.2.2.2.2.2.1 ?_
                  exact L97 G_292 ((zcx_240 + (1)) + (23)) ((zsx_240 + (m_ret_257)) + ((183 + 336 * (min 1 (m_ret_257 / 3))))) z_317 _ _ (hh_316.sub (L1 := [(spare_13, 3, 4, .int qs_235), (kernel_231, 7, 1, .ref syntax_234), (r0, 13, 5, .ref kernel_231), (spare_13, 3, 11, .null), (spare_13, 3, 10, .int pk_221), (spare_13, 3, 5, .ref yb_221), (spare_13, 3, 6, .ref ye_221), (r0, 13, 18, .int (-2)), (r0, 13, 16, .ref spare_13), (r0, 13, 15, .ref latest_19), (spare_13, 3, 3, .int ql_14), (ta, 2, 1, .int 0), (r0, 13, 0, .ref ta), (ta, 2, 0, .ref pr)]) [4, 5, 6, 7, 8, 9, 10, 11, 12, 13, 14, 15, 16, 17] rfl (M1 := [(yb_221, 171, 40, ca 1, gb_235), (ye_221, 172, 40, ca 1, ge_235)]) [0, 1] rfl (I1 := [(jFdo, jDcc dC dI ca G_292 none phn_237), ([(2, 0), (2, 1)], jOl (dC, dI) G0 2 [ta] s.heap), (jFy, jYb dC dI G_292), (jFs11, jSef dC dI G_292)]) [1, 3, 2, 0] rfl) (hNn_292) (((hle_240).tr hb_2572).tr hb_2922) (⟨(by first | (with_reducible assumption) | omega | rfl | fail), (by first | (with_reducible assumption) | omega | rfl | fail), (by first | (with_reducible assumption) | omega | rfl | fail), (by first | (with_reducible assumption) | omega | rfl | fail)⟩) (by omega) _ (lv_sub hl [2, 3, 4, 0] rfl)
            refine W.tight (c2 := 0) (n2 := 0) hh_239.2.2.2.2.2.1 hh_239.2.2.2.2.2.2.1 ?_
            exact L97 (qs_235.toInt - (0 : Int32).toInt : Int).toNat.succ G0 0 0 0 _ _ hh_239 (jNk.rf) (jLe.rf) (⟨(by first | (with_reducible assumption) | omega | rfl | fail), (by first | (with_reducible assumption) | omega | rfl | fail), (by first | (with_reducible assumption) | omega | rfl | fail), (by first | (with_reducible assumption) | omega | rfl | fail)⟩) (by omega) _ (lv_sub hl [2, 3, 1, 0] rfl)
          · skip
            refine lv_aload_n hx hb dX11_batch_84 rfl (lv_at hl 0 rfl) ?_
            refine lv_aload_n hx hb dX11_batch_85 rfl (lv_at hl 1 rfl) ?_
            obtain ⟨v_319, hv_319, hh_320⟩ := hh_221.pin (C := RX11) (T := TX11) (N := 19) hB13 rfl (by decide) hg_r0 (i := 5) (by decide) rfl
            clear hh_221
            obtain ⟨kernel_321, rfl, hg_kernel_321⟩ := hv_319
            refine j7_read hx hb hown hK (C := RX11) (T := TX11) (N := 19) rfl hly_13_5 hlk_41 (hh_320.at 0 rfl) dX11_batch_86 ?_
            obtain ⟨v_322, hv_322, hh_323⟩ := hh_320.pin (C := RX5) (T := TX5) (N := 11) hB7 rfl (by decide) hg_kernel_321 (i := 1) (by decide) rfl
            clear hh_320
            obtain ⟨syntax_324, rfl, hg_syntax_324⟩ := hv_322
            refine j7_read hx hb hown hK (C := RX5) (T := TX5) (N := 11) rfl hly_7_1 hlk_203 (hh_323.at 0 rfl) dX11_batch_89 ?_
            have hsz_325 := hh_323.2.2.2.2.2.1
            have htt_325 := hh_323.2.2.2.2.2.2.1
            refine W.room (fun hrc_325 hrs_325 => ?_)
            refine va_callv (A0 := jA base) (H0 := s.heap) (va_runV (As := [.ref syntax_324]) (rest := []) ⟨hx, hb, hml, hown, hts⟩ (uX1_partE l dC dI ca base B hB hAp hB3 hB8 hB12 hB101 hB102 hB132 hB133 hB171 hB172 hB293 G0 H_220 spare_13 syntax_324 1 ql_14 yb_221 ye_221 (pho_221) fb_221 fe_221) (cwV 1 hts (jgV (jWr_36 _ (List.mem_of_getElem? (i := 2) rfl)) (jWr_36 _ (List.mem_of_getElem? (i := 3) rfl)) (jWr_36 _ (List.mem_of_getElem? (i := 4) rfl)) (jWr_2 _ (List.mem_of_getElem? (i := 21) rfl)) (jWr_36 _ (List.mem_of_getElem? (i := 5) rfl))) rfl rfl rfl (by decide +kernel) ⟨by rw [← hR]; exact Nat.le_of_ble_eq_true rfl, by rw [← hR]; exact Nat.le_of_ble_eq_true rfl⟩) ⟨fun a U g mk q => by obtain ⟨q0, q1, q2, qK, q10, q11, q12, q13, q14, q15, q16, q17⟩ := q; exact ⟨q0, q1, q2, jG.calling g mk a qK, q10, q11, q12, q13, q14, q15, q16, q17⟩, hh_323.recv (C := RX1) (T := TX1) (N := 17) hB3 rfl (by decide) hg_spare_13 hK, fun U hU hW => ⟨rfl, hU, hh_323.2.1, hG.step hW hU hh_323.1, hg_spare_13, hg_syntax_324, hgb_221, hge_221, (hh_323.2.2.1.sub (L1 := [(spare_13, 3, 3, .int ql_14), (spare_13, 3, 5, .ref yb_221), (spare_13, 3, 6, .ref ye_221)]) [10, 5, 6] rfl), (hh_323.2.2.2.2.2.2.2.1.sub (L1 := [(yb_221, 171, 40, ca 1, fb_221), (ye_221, 172, 40, ca 1, fe_221)]) [0, 1] rfl), (hh_323.2.2.2.2.2.2.2.2.sub (L1 := [(jFdo, jDcc dC dI ca G0 (some spare_13) pho_221)]) [0] rfl), ⟨(by first | (with_reducible assumption) | omega | rfl | fail), (by first | (with_reducible assumption) | omega | rfl | fail)⟩⟩⟩ rfl rfl hl.1 rfl (lv_room (Nat.le_of_ble_eq_true rfl)) dX11_batch_92 ⟨by rw [hRc]; show _ + 0 ≤ _; omega, by rw [hRs]; show _ + 0 ≤ _; omega⟩) hh_323.1 (fun q _ h => h) (fun q h => h) (fun u_325 t_325 H_325 locs_325 ht_325 hvm_325 hr_326 hb_325 hz_325 hk_325 hS_325 => ?_)
            obtain ⟨qs_325, gb_325, ge_325⟩ := u_325
            rw [ht_325] at hb_325
            obtain ⟨hb_325, hbE_325⟩ := hb_325
            obtain ⟨hb_325, hbO_325⟩ := hb_325
            obtain ⟨⟨hb_3251, hb_3252, hb_3253, hb_3254, hb_3255⟩, hb_3256⟩ := hb_325
            have hh_325 : jSt (dC, dI) B base G0 G0 EX11_batch s.heap 0 0 [(spare_13, 3, 4, .int qs_325), (kernel_321, 7, 1, .ref syntax_324), (r0, 13, 5, .ref kernel_321), (spare_13, 3, 11, .ref chk_227), (spare_13, 3, 10, .int pk_221), (spare_13, 3, 5, .ref yb_221), (spare_13, 3, 6, .ref ye_221), (r0, 13, 18, .int (-2)), (r0, 13, 16, .ref spare_13), (r0, 13, 15, .ref latest_19), (spare_13, 3, 3, .int ql_14), (ta, 2, 1, .int 0), (r0, 13, 0, .ref ta), (ta, 2, 0, .ref pr)] [(yb_221, 171, 40, ca 1, gb_325), (ye_221, 172, 40, ca 1, ge_325)] [(jFdo, jDcc dC dI ca G0 (some spare_13) pho_221), ([(2, 0), (2, 1)], jOl (dC, dI) G0 2 [ta] s.heap), (jFy, jYb dC dI G0), (jFs11, jSef dC dI G0)] H_325 locs_325 := (((hh_323.call hb_3251 hb_3252 hb_3253 hb_3254 hS_325 rfl (L1 := [(kernel_321, 7, 1, .ref syntax_324), (r0, 13, 5, .ref kernel_321), (spare_13, 3, 11, .ref chk_227), (spare_13, 3, 10, .int pk_221), (spare_13, 3, 5, .ref yb_221), (spare_13, 3, 6, .ref ye_221), (r0, 13, 18, .int (-2)), (r0, 13, 16, .ref spare_13), (r0, 13, 15, .ref latest_19), (spare_13, 3, 3, .int ql_14), (ta, 2, 1, .int 0), (r0, 13, 0, .ref ta), (ta, 2, 0, .ref pr)]) [0, 1, 2, 4, 5, 6, 7, 8, 9, 10, 11, 12, 13] rfl rfl (M1 := []) [] rfl rfl (I1 := [([(2, 0), (2, 1)], jOl (dC, dI) G0 2 [ta] s.heap), (jFy, jYb dC dI G0), (jFs11, jSef dC dI G0)]) [1, 2, 3] rfl rfl).more hb_3255).moreM hb_3256).addIs hbE_325
            clear hh_323 ht_325 hvm_325 hz_325 hk_325 hS_325 hb_3251 hb_3252 hb_3253 hb_3254 hb_3255
            clear hb_3256
            clear  hbE_325
            try simp only at hr_326
            obtain ⟨hr_326_0, hr_326_1, hr_326_2⟩ := hr_326
            obtain ⟨phn_327, hphn_327⟩ : ∃ q : Nat, q = pho_221 := ⟨_, rfl⟩
            have hF_327 := jDcc.full (ph1 := phn_327) (hh_325.iv 0 rfl) hg_spare_13 (hh_325.at 5 rfl) (hh_325.at 6 rfl) ⟨(hh_325.2.2.1.sub (L1 := [(spare_13, 3, 4, .int qs_325), (spare_13, 3, 10, .int pk_221), (spare_13, 3, 11, .ref chk_227)]) [0, 4, 3] rfl), (hh_325.2.2.2.2.2.2.2.1.sub (L1 := [(yb_221, 171, 40, ca 1, gb_325), (ye_221, 172, 40, ca 1, ge_325)]) [0, 1] rfl), (hr_326_2.mono (by omega)), by omega⟩ (w := (575 * (qs_325.toInt - pk_221.toInt) - 16 + (1500 - jSo ge_325 pk_221.toInt)).toNat) (fun h9 => absurd h9 (by decide)) (by omega) (fun h9 => absurd h9 (by decide))
            have hh_328 := hh_325.sub (L1 := [(spare_13, 3, 4, .int qs_325), (kernel_321, 7, 1, .ref syntax_324), (r0, 13, 5, .ref kernel_321), (spare_13, 3, 11, .ref chk_227), (spare_13, 3, 10, .int pk_221), (spare_13, 3, 5, .ref yb_221), (spare_13, 3, 6, .ref ye_221), (r0, 13, 18, .int (-2)), (r0, 13, 16, .ref spare_13), (r0, 13, 15, .ref latest_19), (spare_13, 3, 3, .int ql_14), (ta, 2, 1, .int 0), (r0, 13, 0, .ref ta), (ta, 2, 0, .ref pr)]) [0, 1, 2, 3, 4, 5, 6, 7, 8, 9, 10, 11, 12, 13] rfl (M1 := [(yb_221, 171, 40, ca 1, gb_325), (ye_221, 172, 40, ca 1, ge_325)]) [0, 1] rfl (I1 := [([(2, 0), (2, 1)], jOl (dC, dI) G0 2 [ta] s.heap), (jFy, jYb dC dI G0), (jFs11, jSef dC dI G0)]) [1, 2, 3] rfl
            clear hh_325
            have hh_329 := hh_328.addI (jDcc.ie hF_327)
            clear hh_328
            refine lv_iconst (v := 0) hx hb dX11_batch_95 (by decide) ?_
            have hjz := jEd.z (fe := ge_325) (k := (0 : Int32).toInt) (by omega)
            refine lv_istore_n (lv' := [(3, .int 0), (2, .ref spare_13), (0, .ref r0), (1, .int a1)]) hx hb dX11_batch_96 rfl hl (by decide) rfl (fun ls hl => ?_)
            have L97 : ∀ (N : Nat) (Gx_330 : jT) (zcx_330 : Nat) (zsx_330 : Nat) (v3_330 : Int32) (H_330 : Heap) (locs_330 : List Loc), jSt (dC, dI) B base G0 Gx_330 EX11_batch s.heap zcx_330 zsx_330 [(spare_13, 3, 4, .int qs_325), (kernel_321, 7, 1, .ref syntax_324), (r0, 13, 5, .ref kernel_321), (spare_13, 3, 11, .ref chk_227), (spare_13, 3, 10, .int pk_221), (spare_13, 3, 5, .ref yb_221), (spare_13, 3, 6, .ref ye_221), (r0, 13, 18, .int (-2)), (r0, 13, 16, .ref spare_13), (r0, 13, 15, .ref latest_19), (spare_13, 3, 3, .int ql_14), (ta, 2, 1, .int 0), (r0, 13, 0, .ref ta), (ta, 2, 0, .ref pr)] [(yb_221, 171, 40, ca 1, gb_325), (ye_221, 172, 40, ca 1, ge_325)] [(jFdo, jDcc dC dI ca Gx_330 none phn_327), ([(2, 0), (2, 1)], jOl (dC, dI) G0 2 [ta] s.heap), (jFy, jYb dC dI Gx_330), (jFs11, jSef dC dI Gx_330)] H_330 locs_330 → (jNk [0, 1, 2, 4, 6, 7, 8, 9, 10, 12, 13, 14, 15, 16]) G0 Gx_330 → jLe G0 Gx_330 → (0 ≤ v3_330.toInt ∧ v3_330.toInt ≤ qs_325.toInt ∧ zcx_330 ≤ 8 + 24 * v3_330.toInt ∧ zsx_330 ≤ 1720 + 185 * jEd ge_325 v3_330.toInt) → (qs_325.toInt - v3_330.toInt : Int) < N → ∀ ls : Array Slot, lv_has ls 5 [(0, .ref r0), (1, .int a1), (2, .ref spare_13), (3, .int v3_330)] → W p l e R s m ([.ref r0, .int a1] : List Value).toArray below meth c H_330 locs_330 zcx_330 zsx_330 Q (F0 m 97 ls []) := by
              intro N
              induction N with
              | zero => intro Gx_330 zcx_330 zsx_330 v3_330 H_330 locs_330 hh_330 hN_330 hle_330 hi_330 hm; exact absurd hm (by omega)
              | succ N L97 =>
                intro Gx_330 zcx_330 zsx_330 v3_330 H_330 locs_330 hh_330 hN_330 hle_330 hi_330 hm_330 ls hl
                have hg_331 := hle_330 _ _ hg_r0
                have hg_332 := hle_330 _ _ hg_spare_13
                have hg_333 := hle_330 _ _ hg_syntax_324
                have hg_334 := hle_330 _ _ hg_kernel_321
                have hg_335 := hle_330 _ _ hg_chk_227
                have hg_336 := hle_330 _ _ hgb_221
                have hg_337 := hle_330 _ _ hge_221
                have hg_338 := hle_330 _ _ hg_latest_19
                have hg_339 := hle_330 _ _ hg_ta
                have hg_340 := hle_330 _ _ hg_pr
                obtain ⟨hi_330_0, hi_330_1, hi_330_2, hi_330_3⟩ := hi_330
                have hql := jSn.le hr_326_2 (by omega)
                refine lv_iload_n hx hb dX11_batch_97 rfl (lv_at hl 3 rfl) ?_
                refine lv_aload_n hx hb dX11_batch_98 rfl (lv_at hl 2 rfl) ?_
                refine j7_read hx hb hown hK (C := RX1) (T := TX1) (N := 17) rfl hly_3_4 hlk_168 (hh_330.at 0 rfl) dX11_batch_99 ?_
                refine lv_icmp_ge (tgt := 165) hx hb dX11_batch_102 (by decide) (fun c_341 => ?_) (fun c_341 => ?_)
                · skip
                  have c_341' : v3_330.toInt ≥ qs_325.toInt := jb_ge (rfl) (rfl) c_341
                  have hjl := jEd.le hr_326_2 (k := v3_330.toInt) (by omega) (by omega) (by omega)
                  refine lv_aload_n hx hb dX11_batch_165 rfl (lv_at hl 2 rfl) ?_
                  refine j7_read hx hb hown hK (C := RX1) (T := TX1) (N := 17) rfl hly_3_4 hlk_168 (hh_330.at 0 rfl) dX11_batch_166 ?_
                  have hsz_342 := hh_330.2.2.2.2.2.1
                  have htt_342 := hh_330.2.2.2.2.2.2.1
                  refine W.room (fun hrc_342 hrs_342 => ?_)
                  refine W.widen (k := LC - s.heap.size) (n := LS - jTot s.heap) (by omega) (by omega) ?_
                  rw [hQ]
                  exact W.iret (v := qs_325) hx hb hr (fun t ht hW => ⟨⟨qs_325, (0, phn_327, (pt.toInt.toNat - (0 : Int).toNat), Gx_330), rfl, by (try dsimp only); exact ⟨(by first | (with_reducible assumption) | assumption | omega | rfl | fail), (by first | (with_reducible assumption) | omega | rfl | fail), (by first | (with_reducible assumption) | omega | rfl | fail)⟩, ⟨hh_330.ra (by first | (simp only; omega) | omega) (by first | (simp only; omega) | omega) (M1 := [(ta, 2, 1, .int 0)]) [11] rfl ht, hN_330, by rw [ht]; exact hh_330.iv 1 rfl, by rw [ht]; exact hh_330.2.2.2.2.2.2.2.2.sub (L1 := [(jFy, jYb dC dI Gx_330), (jFs11, jSef dC dI Gx_330), (jFdo, jDcc dC dI ca Gx_330 none phn_327)]) [2, 3, 0] rfl⟩⟩, by rw [ht]; try exact hh_330.1.1, fun q h9 hq => by rw [ht]; try exact hh_330.1.2.1 q h9 hq⟩) hh_330.1.2.2 dX11_batch_169
                · skip
                  have c_341' : v3_330.toInt < qs_325.toInt := jb_ge_n (rfl) (rfl) c_341
                  have hn2 := jEd.nx hr_326_2 (k := v3_330.toInt) (by omega) (by omega)
                  have hnb := jEd.nx (hr_326_2.mono (by omega) : jSn _ _ _ 1500) (k := v3_330.toInt) (by omega) (by omega)
                  refine lv_aload_n hx hb dX11_batch_105 rfl (lv_at hl 2 rfl) ?_
                  obtain ⟨v_343, hv_343, hh_344⟩ := hh_330.pin (C := RX1) (T := TX1) (N := 17) hB3 rfl (by decide) hg_332 (i := 2) (by decide) rfl
                  clear hh_330
                  obtain ⟨text_345, rfl, hg_text_345⟩ := hv_343
                  refine j7_read hx hb hown hK (C := RX1) (T := TX1) (N := 17) rfl hly_3_2 hlk_174 (hh_344.at 0 rfl) dX11_batch_106 ?_
                  refine lv_aload_n hx hb dX11_batch_109 rfl (lv_at hl 2 rfl) ?_
                  refine j7_read hx hb hown hK (C := RX1) (T := TX1) (N := 17) rfl hly_3_5 hlk_182 (hh_344.at 6 rfl) dX11_batch_110 ?_
                  refine lv_iload_n hx hb dX11_batch_113 rfl (lv_at hl 3 rfl) ?_
                  refine j7_ialdM hx hb hK hh_344 hB171 1 rfl (by decide) hg_336 (x := v3_330.toInt) (rfl) (by omega) (j := 0) rfl dX11_batch_114 (fun z_346 ez_346 (hz_346 : 0 ≤ z_346.toInt ∧ z_346.toInt ≤ 1500) => ?_)
                  have hqz_346 : z_346.toInt = jSo gb_325 (v3_330.toInt) := by unfold jSo; rw [ez_346]
                  refine lv_aload_n hx hb dX11_batch_115 rfl (lv_at hl 2 rfl) ?_
                  refine j7_read hx hb hown hK (C := RX1) (T := TX1) (N := 17) rfl hly_3_6 hlk_185 (hh_344.at 7 rfl) dX11_batch_116 ?_
                  refine lv_iload_n hx hb dX11_batch_119 rfl (lv_at hl 3 rfl) ?_
                  refine j7_ialdM hx hb hK hh_344 hB172 1 rfl (by decide) hg_337 (x := v3_330.toInt) (rfl) (by omega) (j := 1) rfl dX11_batch_120 (fun z_347 ez_347 (hz_347 : 0 ≤ z_347.toInt ∧ z_347.toInt ≤ 1500) => ?_)
                  have hqz_347 : z_347.toInt = jSo ge_325 (v3_330.toInt) := by unfold jSo; rw [ez_347]
                  have hsz_348 := hh_344.2.2.2.2.2.1
                  have htt_348 := hh_344.2.2.2.2.2.2.1
                  refine W.room (fun hrc_348 hrs_348 => ?_)
                  refine j_callx (A0 := jA base) (H0 := s.heap) (va_runS (As := [.ref text_345, .int z_346, .int z_347]) (rest := []) ⟨hx, hb, hml, hown, hts⟩ (uJ7_copyOfRange_feeccU l dC dI ca base B hB hAp hB101 hB280 Gx_330 H_330 text_345 z_346 z_347 1500 LC LS) (va_cwS 3 hts (jgS (jWr_77 _ (List.mem_of_getElem? (i := 21) rfl)) (jWr_77 _ (List.mem_of_getElem? (i := 22) rfl)) (jWr_16 _ (List.mem_of_getElem? (i := 7) rfl)) (jWr_77 _ (List.mem_of_getElem? (i := 23) rfl))) rfl rfl rfl (by decide +kernel) ⟨by rw [← hR]; exact Nat.le_of_ble_eq_true rfl, by rw [← hR]; exact Nat.le_of_ble_eq_true rfl⟩) ⟨fun a U g mk q => by obtain ⟨q0, q1, q2, qK, q10, q11, q12, q13⟩ := q; exact ⟨q0, q1, q2, jG.calling g mk a qK, (jK8.calling g mk a q10), q11, q12, q13⟩, fun U hU hW => ⟨rfl, hU, hh_344.2.1, hG.step hW hU hh_344.1, (jK8.warm hW hK8), hg_text_345, jP.nil, ⟨(by first | (with_reducible assumption) | omega | rfl | fail), (by first | (with_reducible assumption) | omega | rfl | fail), (by first | (with_reducible assumption) | omega | rfl | fail), (by first | (with_reducible assumption) | omega | rfl | fail)⟩⟩⟩ rfl rfl hl.1 rfl (lv_room (Nat.le_of_ble_eq_true rfl)) dX11_batch_121 ⟨by rw [hRc]; omega, by rw [hRs]; omega⟩) hh_344.1 (fun q _ h => h) (fun q h => h) (fun r_349 u_348 t_348 H_348 locs_348 ht_348 hvm_348 hr_349 hb_348 hz_348 hk_348 hS_348 => ?_)
                  rw [ht_348] at hb_348
                  obtain ⟨m_ret_348, G_348⟩ := u_348
                  simp only at hb_348
                  obtain ⟨⟨hb_3481, hb_3482, hb_3483, hb_3484, hb_3485, hb_3486⟩, hN_348, hbK_348⟩ := hb_348
                  have hE9_348 := hN_348
                  have hM_348 := hN_348
                  have hN_348 : (jNk [0, 1, 2, 4, 6, 7, 8, 9, 10, 12, 13, 14, 15, 16]) Gx_330 G_348 := hN_348.sub (by decide)
                  have hh_348 : jSt (dC, dI) B base G0 G_348 EX11_batch s.heap (zcx_330 + (1)) (zsx_330 + (m_ret_348)) [(spare_13, 3, 2, .ref text_345), (spare_13, 3, 4, .int qs_325), (kernel_321, 7, 1, .ref syntax_324), (r0, 13, 5, .ref kernel_321), (spare_13, 3, 11, .ref chk_227), (spare_13, 3, 10, .int pk_221), (spare_13, 3, 5, .ref yb_221), (spare_13, 3, 6, .ref ye_221), (r0, 13, 18, .int (-2)), (r0, 13, 16, .ref spare_13), (r0, 13, 15, .ref latest_19), (spare_13, 3, 3, .int ql_14), (ta, 2, 1, .int 0), (r0, 13, 0, .ref ta), (ta, 2, 0, .ref pr)] [(yb_221, 171, 40, ca 1, gb_325), (ye_221, 172, 40, ca 1, ge_325)] [(jFdo, jDcc dC dI ca Gx_330 none phn_327), ([(2, 0), (2, 1)], jOl (dC, dI) G0 2 [ta] s.heap), (jFy, jYb dC dI Gx_330), (jFs11, jSef dC dI Gx_330)] H_348 locs_348 := (hh_344.callG hb_3481 hb_3482 hb_3483 hb_3484 hb_3485 hS_348 rfl (L1 := [(spare_13, 3, 2, .ref text_345), (spare_13, 3, 4, .int qs_325), (kernel_321, 7, 1, .ref syntax_324), (r0, 13, 5, .ref kernel_321), (spare_13, 3, 11, .ref chk_227), (spare_13, 3, 10, .int pk_221), (spare_13, 3, 5, .ref yb_221), (spare_13, 3, 6, .ref ye_221), (r0, 13, 18, .int (-2)), (r0, 13, 16, .ref spare_13), (r0, 13, 15, .ref latest_19), (spare_13, 3, 3, .int ql_14), (ta, 2, 1, .int 0), (r0, 13, 0, .ref ta), (ta, 2, 0, .ref pr)]) [0, 1, 2, 3, 4, 5, 6, 7, 8, 9, 10, 11, 12, 13, 14] rfl rfl (M1 := [(yb_221, 171, 40, ca 1, gb_325), (ye_221, 172, 40, ca 1, ge_325)]) [0, 1] rfl rfl (I1 := [(jFdo, jDcc dC dI ca Gx_330 none phn_327), ([(2, 0), (2, 1)], jOl (dC, dI) G0 2 [ta] s.heap), (jFy, jYb dC dI Gx_330), (jFs11, jSef dC dI Gx_330)]) [0, 1, 2, 3] rfl rfl).more hb_3486
                  have hNn_348 : (jNk [0, 1, 2, 4, 6, 7, 8, 9, 10, 12, 13, 14, 15, 16]) G0 G_348 := (hN_330).tr hN_348
                  have hg_350 := hb_3482 _ _ hg_331
                  have hg_351 := hb_3482 _ _ hg_332
                  have hg_352 := hb_3482 _ _ hg_text_345
                  have hg_353 := hb_3482 _ _ hg_333
                  have hg_354 := hb_3482 _ _ hg_334
                  have hg_355 := hb_3482 _ _ hg_335
                  have hg_356 := hb_3482 _ _ hg_336
                  have hg_357 := hb_3482 _ _ hg_337
                  have hg_358 := hb_3482 _ _ hg_338
                  have hg_359 := hb_3482 _ _ hg_339
                  have hg_360 := hb_3482 _ _ hg_340
                  have hd_361 := jDcc.grow (hh_348.iv 0 rfl) hb_3482 hE9_348 (by decide)
                  have hh_362 := hh_348.sub (L1 := [(spare_13, 3, 2, .ref text_345), (spare_13, 3, 4, .int qs_325), (kernel_321, 7, 1, .ref syntax_324), (r0, 13, 5, .ref kernel_321), (spare_13, 3, 11, .ref chk_227), (spare_13, 3, 10, .int pk_221), (spare_13, 3, 5, .ref yb_221), (spare_13, 3, 6, .ref ye_221), (r0, 13, 18, .int (-2)), (r0, 13, 16, .ref spare_13), (r0, 13, 15, .ref latest_19), (spare_13, 3, 3, .int ql_14), (ta, 2, 1, .int 0), (r0, 13, 0, .ref ta), (ta, 2, 0, .ref pr)]) [0, 1, 2, 3, 4, 5, 6, 7, 8, 9, 10, 11, 12, 13, 14] rfl (M1 := [(yb_221, 171, 40, ca 1, gb_325), (ye_221, 172, 40, ca 1, ge_325)]) [0, 1] rfl (I1 := [([(2, 0), (2, 1)], jOl (dC, dI) G0 2 [ta] s.heap), (jFy, jYb dC dI Gx_330), (jFs11, jSef dC dI Gx_330)]) [1, 2, 3] rfl
                  clear hh_348
                  have hh_363 := hh_362.addI (jDcc.ie hd_361)
                  clear hh_362
                  have hd_364 := jYb.grow (hh_363.iv 2 rfl) hb_3482 hN_348 (by decide)
                  have hh_365 := hh_363.sub (L1 := [(spare_13, 3, 2, .ref text_345), (spare_13, 3, 4, .int qs_325), (kernel_321, 7, 1, .ref syntax_324), (r0, 13, 5, .ref kernel_321), (spare_13, 3, 11, .ref chk_227), (spare_13, 3, 10, .int pk_221), (spare_13, 3, 5, .ref yb_221), (spare_13, 3, 6, .ref ye_221), (r0, 13, 18, .int (-2)), (r0, 13, 16, .ref spare_13), (r0, 13, 15, .ref latest_19), (spare_13, 3, 3, .int ql_14), (ta, 2, 1, .int 0), (r0, 13, 0, .ref ta), (ta, 2, 0, .ref pr)]) [0, 1, 2, 3, 4, 5, 6, 7, 8, 9, 10, 11, 12, 13, 14] rfl (M1 := [(yb_221, 171, 40, ca 1, gb_325), (ye_221, 172, 40, ca 1, ge_325)]) [0, 1] rfl (I1 := [(jFdo, jDcc dC dI ca G_348 none phn_327), ([(2, 0), (2, 1)], jOl (dC, dI) G0 2 [ta] s.heap), (jFs11, jSef dC dI Gx_330)]) [0, 1, 3] rfl
                  clear hh_363
                  have hh_366 := hh_365.addI (jYb.ie hd_364)
                  clear hh_365
                  have hd_367 := jSef.grow (hh_366.iv 3 rfl) hb_3482 hM_348 (by decide)
                  have hh_368 := hh_366.sub (L1 := [(spare_13, 3, 2, .ref text_345), (spare_13, 3, 4, .int qs_325), (kernel_321, 7, 1, .ref syntax_324), (r0, 13, 5, .ref kernel_321), (spare_13, 3, 11, .ref chk_227), (spare_13, 3, 10, .int pk_221), (spare_13, 3, 5, .ref yb_221), (spare_13, 3, 6, .ref ye_221), (r0, 13, 18, .int (-2)), (r0, 13, 16, .ref spare_13), (r0, 13, 15, .ref latest_19), (spare_13, 3, 3, .int ql_14), (ta, 2, 1, .int 0), (r0, 13, 0, .ref ta), (ta, 2, 0, .ref pr)]) [0, 1, 2, 3, 4, 5, 6, 7, 8, 9, 10, 11, 12, 13, 14] rfl (M1 := [(yb_221, 171, 40, ca 1, gb_325), (ye_221, 172, 40, ca 1, ge_325)]) [0, 1] rfl (I1 := [(jFy, jYb dC dI G_348), (jFdo, jDcc dC dI ca G_348 none phn_327), ([(2, 0), (2, 1)], jOl (dC, dI) G0 2 [ta] s.heap)]) [0, 1, 2] rfl
                  clear hh_366
                  have hh_369 := hh_368.addI (jSef.ie hd_367)
                  clear hh_368
                  obtain ⟨hr_349, hr_349n, hr_349p⟩ := hr_349
                  try simp only at hr_349p
                  obtain ⟨ret_370, rfl, hg_ret_370⟩ := hr_349
                  have hsy_348 : s.heap.size ≤ ret_370 := Nat.le_trans hh_344.1.1 hr_349n.le
                  refine lv_astore (lv' := [(4, .ref ret_370), (0, .ref r0), (1, .int a1), (2, .ref spare_13), (3, .int v3_330)]) hx hb dX11_batch_124 hl (by decide) rfl (fun ls hl => ?_)
                  refine lv_aload_n hx hb dX11_batch_126 rfl (lv_at hl 3 rfl) ?_
                  obtain ⟨v_371, hv_371, hh_372⟩ := hh_369.pin (C := RX1) (T := TX1) (N := 17) hB3 rfl (by decide) hg_351 (i := 9) (by decide) rfl
                  clear hh_369
                  obtain ⟨behind_373, rfl, hg_behind_373⟩ := hv_371
                  refine j7_read hx hb hown hK (C := RX1) (T := TX1) (N := 17) rfl hly_3_9 hlk_178 (hh_372.at 0 rfl) dX11_batch_127 ?_
                  refine lv_iload_n hx hb dX11_batch_130 rfl (lv_at hl 4 rfl) ?_
                  refine lv_aload_n hx hb dX11_batch_131 rfl (lv_at hl 1 rfl) ?_
                  refine j7_read hx hb hown hK (C := RX11) (T := TX11) (N := 19) rfl hly_13_5 hlk_41 (hh_372.at 4 rfl) dX11_batch_132 ?_
                  refine lv_aload_n hx hb dX11_batch_135 rfl (lv_at hl 3 rfl) ?_
                  refine lv_iload_n hx hb dX11_batch_136 rfl (lv_at hl 4 rfl) ?_
                  refine lv_aload_n hx hb dX11_batch_137 rfl (lv_at hl 1 rfl) ?_
                  refine j7_read hx hb hown hK (C := RX11) (T := TX11) (N := 19) rfl hly_13_5 hlk_41 (hh_372.at 4 rfl) dX11_batch_138 ?_
                  obtain ⟨v_374, hv_374, hh_375⟩ := hh_372.pin (C := RX5) (T := TX5) (N := 11) hB7 rfl (by decide) hg_354 (i := 2) (by decide) rfl
                  clear hh_372
                  obtain ⟨start_376, rfl, hg_start_376⟩ := hv_374
                  refine j7_read hx hb hown hK (C := RX5) (T := TX5) (N := 11) rfl hly_7_2 hlk_217 (hh_375.at 0 rfl) dX11_batch_141 ?_
                  have hsz_377 := hh_375.2.2.2.2.2.1
                  have htt_377 := hh_375.2.2.2.2.2.2.1
                  refine W.room (fun hrc_377 hrs_377 => ?_)
                  refine j_callx (A0 := jA base) (H0 := s.heap) (va_runV (As := [.int v3_330, .ref start_376]) (rest := [.ref kernel_321, .int v3_330, .ref behind_373]) ⟨hx, hb, hml, hown, hts⟩ (uX1_stateBehind l dC dI ca base B hB hAp hB3 hB11 hB210 G_348 H_348 spare_13 v3_330 start_376 1) (cwV 2 hts (jgV (jWr_30 _ (List.mem_of_getElem? (i := 9) rfl)) (jWr_30 _ (List.mem_of_getElem? (i := 10) rfl)) (jWr_30 _ (List.mem_of_getElem? (i := 11) rfl)) (jWr_2 _ (List.mem_of_getElem? (i := 21) rfl)) (jWr_30 _ (List.mem_of_getElem? (i := 12) rfl))) rfl rfl rfl (by decide +kernel) ⟨by rw [← hR]; exact Nat.le_of_ble_eq_true rfl, by rw [← hR]; exact Nat.le_of_ble_eq_true rfl⟩) ⟨fun a U g mk q => by obtain ⟨q0, q1, q2, qK, q10, q11, q12, q13, q14⟩ := q; exact ⟨q0, q1, q2, jG.calling g mk a qK, (va_K.moved (Vm.Alike.refl U.vm) q10), q11, q12, q13, q14⟩, hh_375.recv (C := RX1) (T := TX1) (N := 17) hB3 rfl (by decide) hg_351 hK, fun U hU hW => ⟨rfl, hU, hh_375.2.1, hG.step hW hU hh_375.1, va_K.moved hW.alike hK2, hg_351, hg_start_376, jP.nil, trivial⟩⟩ rfl rfl hl.1 rfl (lv_room (Nat.le_of_ble_eq_true rfl)) dX11_batch_144 ⟨by rw [hRc]; show _ + 0 ≤ _; omega, by rw [hRs]; show _ + 0 ≤ _; omega⟩) hh_375.1 (fun q _ h => h) (fun q h => h) (fun r_378 u_377 t_377 H_377 locs_377 ht_377 hvm_377 hr_378 hb_377 hz_377 hk_377 hS_377 => ?_)
                  rw [ht_377] at hb_377
                  obtain ⟨hb_3771, hb_3772, hb_3773, hb_3774, hb_3775⟩ := hb_377
                  have hh_377 : jSt (dC, dI) B base G0 G_348 EX11_batch s.heap (zcx_330 + (1)) (zsx_330 + (m_ret_348)) [(kernel_321, 7, 2, .ref start_376), (spare_13, 3, 9, .ref behind_373), (spare_13, 3, 2, .ref text_345), (spare_13, 3, 4, .int qs_325), (kernel_321, 7, 1, .ref syntax_324), (r0, 13, 5, .ref kernel_321), (spare_13, 3, 11, .ref chk_227), (spare_13, 3, 10, .int pk_221), (spare_13, 3, 5, .ref yb_221), (spare_13, 3, 6, .ref ye_221), (r0, 13, 18, .int (-2)), (r0, 13, 16, .ref spare_13), (r0, 13, 15, .ref latest_19), (spare_13, 3, 3, .int ql_14), (ta, 2, 1, .int 0), (r0, 13, 0, .ref ta), (ta, 2, 0, .ref pr)] [(yb_221, 171, 40, ca 1, gb_325), (ye_221, 172, 40, ca 1, ge_325)] [(jFs11, jSef dC dI G_348), (jFy, jYb dC dI G_348), (jFdo, jDcc dC dI ca G_348 none phn_327), ([(2, 0), (2, 1)], jOl (dC, dI) G0 2 [ta] s.heap)] H_377 locs_377 := ((hh_375.call hb_3771 hb_3772 hb_3773 hb_3774 hS_377 rfl (L1 := [(kernel_321, 7, 2, .ref start_376), (spare_13, 3, 9, .ref behind_373), (spare_13, 3, 2, .ref text_345), (spare_13, 3, 4, .int qs_325), (kernel_321, 7, 1, .ref syntax_324), (r0, 13, 5, .ref kernel_321), (spare_13, 3, 11, .ref chk_227), (spare_13, 3, 10, .int pk_221), (spare_13, 3, 5, .ref yb_221), (spare_13, 3, 6, .ref ye_221), (r0, 13, 18, .int (-2)), (r0, 13, 16, .ref spare_13), (r0, 13, 15, .ref latest_19), (spare_13, 3, 3, .int ql_14), (ta, 2, 1, .int 0), (r0, 13, 0, .ref ta), (ta, 2, 0, .ref pr)]) [0, 1, 2, 3, 4, 5, 6, 7, 8, 9, 10, 11, 12, 13, 14, 15, 16] rfl rfl (M1 := [(yb_221, 171, 40, ca 1, gb_325), (ye_221, 172, 40, ca 1, ge_325)]) [0, 1] rfl rfl (I1 := [(jFs11, jSef dC dI G_348), (jFy, jYb dC dI G_348), (jFdo, jDcc dC dI ca G_348 none phn_327), ([(2, 0), (2, 1)], jOl (dC, dI) G0 2 [ta] s.heap)]) [0, 1, 2, 3] rfl rfl).more hb_3775)
                  clear hh_375 ht_377 hvm_377 hz_377 hk_377 hS_377 hb_3771 hb_3772 hb_3773 hb_3774 hb_3775
                  obtain ⟨ret_379, rfl, hg_ret_379⟩ := hr_378
                  refine lv_aload hx hb dX11_batch_147 (lv_at hl 0 rfl) ?_
                  refine lv_aload_n hx hb dX11_batch_149 rfl (lv_at hl 3 rfl) ?_
                  obtain ⟨v_380, hv_380, hh_381⟩ := hh_377.pin (C := RX1) (T := TX1) (N := 17) hB3 rfl (by decide) hg_351 (i := 8) (by decide) rfl
                  clear hh_377
                  obtain ⟨early_382, rfl, hg_early_382⟩ := hv_380
                  refine j7_read hx hb hown hK (C := RX1) (T := TX1) (N := 17) rfl hly_3_8 hlk_225 (hh_381.at 0 rfl) dX11_batch_150 ?_
                  refine lv_iload_n hx hb dX11_batch_153 rfl (lv_at hl 4 rfl) ?_
                  refine j7_iald hx hb hK hh_381 hB101 1 rfl (by decide) hg_early_382 (x := v3_330.toInt) (rfl) (by omega) dX11_batch_154 (fun z_383 (hz_383 : True) => ?_)
                  have hsz_384 := hh_381.2.2.2.2.2.1
                  have htt_384 := hh_381.2.2.2.2.2.2.1
                  refine W.room (fun hrc_384 hrs_384 => ?_)
                  refine j_callx (A0 := jA base) (H0 := s.heap) (va_runV (As := [.ref ret_379, .ref ret_370, .int z_383]) (rest := [.int v3_330, .ref behind_373]) ⟨hx, hb, hml, hown, hts⟩ (uX5_checkS l dC dI ca base B hB hAp hB5 hB7 hB8 hB11 hB12 hB101 hB102 hB132 hB133 hB211 hB214 hB280 hB290 hB291 hB292 hB293 hB313 hB315 G_348 H_377 kernel_321 ret_379 ret_370 z_383 m_ret_348 (min 1 (m_ret_348 / 3)) LC LS) (cwV 3 hts (jgV (jWr_78 _ (List.mem_of_getElem? (i := 14) rfl)) (jWr_78 _ (List.mem_of_getElem? (i := 15) rfl)) (jWr_78 _ (List.mem_of_getElem? (i := 16) rfl)) (jWr_2 _ (List.mem_of_getElem? (i := 4) rfl)) (jWr_78 _ (List.mem_of_getElem? (i := 17) rfl))) rfl rfl rfl (by decide +kernel) ⟨by rw [← hR]; exact Nat.le_of_ble_eq_true rfl, by rw [← hR]; exact Nat.le_of_ble_eq_true rfl⟩) ⟨fun a U g mk q => by obtain ⟨q0, q1, q2, qK, q10, q11, q12, q13, q14, q15, q16, q17, q18⟩ := q; exact ⟨q0, q1, q2, jG.calling g mk a qK, (va_K.moved (Vm.Alike.refl U.vm) q10), (jK5.moved (Vm.Alike.refl U.vm) q11), (jK6.moved (Vm.Alike.refl U.vm) q12), q13, q14, q15, q16, q17, q18⟩, hh_381.recv (C := RX5) (T := TX5) (N := 11) hB7 rfl (by decide) hg_354 hK, fun U hU hW => ⟨rfl, hU, hh_381.2.1, hG.step hW hU hh_381.1, va_K.moved hW.alike hK2, jK5.moved hW.alike hK5, jK6.moved hW.alike hK6, hg_354, hg_ret_379, hg_ret_370, jP.nil, (hh_381.2.2.2.2.2.2.2.2.sub (L1 := [(jFs11, jSef dC dI G_348)]) [0] rfl), ⟨(by first | (with_reducible assumption) | omega | rfl | fail), (by first | (with_reducible assumption) | assumption | omega | rfl | fail)⟩⟩⟩ rfl rfl hl.1 rfl (lv_room (Nat.le_of_ble_eq_true rfl)) dX11_batch_155 ⟨by rw [hRc]; omega, by rw [hRs]; omega⟩) hh_381.1 (fun q _ h => h) (fun q h => h) (fun r_385 u_384 t_384 H_384 locs_384 ht_384 hvm_384 hr_385 hb_384 hz_384 hk_384 hS_384 => ?_)
                  rw [ht_384] at hb_384
                  obtain ⟨G_384, rfl⟩ : ∃ z, z = u_384 := ⟨_, rfl⟩
                  try simp only at hb_384
                  obtain ⟨⟨hb_3841, hb_3842, hb_3843, hb_3844, hb_3845, hb_3846⟩, hN_384, hbE_384⟩ := hb_384
                  have hE9_384 := hN_384
                  have hN_384 : (jNk [0, 1, 2, 4, 6, 7, 8, 9, 10, 12, 13, 14, 15, 16]) G_348 G_384 := hN_384.sub (by decide)
                  have hh_384 : jSt (dC, dI) B base G0 G_384 EX11_batch s.heap ((zcx_330 + (1)) + (23)) ((zsx_330 + (m_ret_348)) + ((183 + 336 * (min 1 (m_ret_348 / 3))))) [(spare_13, 3, 8, .ref early_382), (kernel_321, 7, 2, .ref start_376), (spare_13, 3, 9, .ref behind_373), (spare_13, 3, 2, .ref text_345), (spare_13, 3, 4, .int qs_325), (kernel_321, 7, 1, .ref syntax_324), (r0, 13, 5, .ref kernel_321), (spare_13, 3, 11, .ref chk_227), (spare_13, 3, 10, .int pk_221), (spare_13, 3, 5, .ref yb_221), (spare_13, 3, 6, .ref ye_221), (r0, 13, 18, .int (-2)), (r0, 13, 16, .ref spare_13), (r0, 13, 15, .ref latest_19), (spare_13, 3, 3, .int ql_14), (ta, 2, 1, .int 0), (r0, 13, 0, .ref ta), (ta, 2, 0, .ref pr)] [(yb_221, 171, 40, ca 1, gb_325), (ye_221, 172, 40, ca 1, ge_325)] [(jFy, jYb dC dI G_348), (jFdo, jDcc dC dI ca G_348 none phn_327), ([(2, 0), (2, 1)], jOl (dC, dI) G0 2 [ta] s.heap)] H_384 locs_384 := (hh_381.callG hb_3841 hb_3842 hb_3843 hb_3844 hb_3845 hS_384 rfl (L1 := [(spare_13, 3, 8, .ref early_382), (kernel_321, 7, 2, .ref start_376), (spare_13, 3, 9, .ref behind_373), (spare_13, 3, 2, .ref text_345), (spare_13, 3, 4, .int qs_325), (kernel_321, 7, 1, .ref syntax_324), (r0, 13, 5, .ref kernel_321), (spare_13, 3, 11, .ref chk_227), (spare_13, 3, 10, .int pk_221), (spare_13, 3, 5, .ref yb_221), (spare_13, 3, 6, .ref ye_221), (r0, 13, 18, .int (-2)), (r0, 13, 16, .ref spare_13), (r0, 13, 15, .ref latest_19), (spare_13, 3, 3, .int ql_14), (ta, 2, 1, .int 0), (r0, 13, 0, .ref ta), (ta, 2, 0, .ref pr)]) [0, 1, 2, 3, 4, 5, 6, 7, 8, 9, 10, 11, 12, 13, 14, 15, 16, 17] rfl rfl (M1 := [(yb_221, 171, 40, ca 1, gb_325), (ye_221, 172, 40, ca 1, ge_325)]) [0, 1] rfl rfl (I1 := [(jFy, jYb dC dI G_348), (jFdo, jDcc dC dI ca G_348 none phn_327), ([(2, 0), (2, 1)], jOl (dC, dI) G0 2 [ta] s.heap)]) [1, 2, 3] rfl rfl).more hb_3846
                  have hNn_384 : (jNk [0, 1, 2, 4, 6, 7, 8, 9, 10, 12, 13, 14, 15, 16]) G0 G_384 := (hNn_348).tr hN_384
                  have hg_386 := hb_3842 _ _ hg_ret_370
                  have hg_387 := hb_3842 _ _ hg_350
                  have hg_388 := hb_3842 _ _ hg_351
                  have hg_389 := hb_3842 _ _ hg_behind_373
                  have hg_390 := hb_3842 _ _ hg_early_382
                  have hg_391 := hb_3842 _ _ hg_start_376
                  have hg_392 := hb_3842 _ _ hg_352
                  have hg_393 := hb_3842 _ _ hg_353
                  have hg_394 := hb_3842 _ _ hg_354
                  have hg_395 := hb_3842 _ _ hg_355
                  have hg_396 := hb_3842 _ _ hg_356
                  have hg_397 := hb_3842 _ _ hg_357
                  have hg_398 := hb_3842 _ _ hg_358
                  have hg_399 := hb_3842 _ _ hg_359
                  have hg_400 := hb_3842 _ _ hg_360
                  have hd_401 := jYb.grow (hh_384.iv 0 rfl) hb_3842 hN_384 (by decide)
                  have hh_402 := hh_384.sub (L1 := [(spare_13, 3, 8, .ref early_382), (kernel_321, 7, 2, .ref start_376), (spare_13, 3, 9, .ref behind_373), (spare_13, 3, 2, .ref text_345), (spare_13, 3, 4, .int qs_325), (kernel_321, 7, 1, .ref syntax_324), (r0, 13, 5, .ref kernel_321), (spare_13, 3, 11, .ref chk_227), (spare_13, 3, 10, .int pk_221), (spare_13, 3, 5, .ref yb_221), (spare_13, 3, 6, .ref ye_221), (r0, 13, 18, .int (-2)), (r0, 13, 16, .ref spare_13), (r0, 13, 15, .ref latest_19), (spare_13, 3, 3, .int ql_14), (ta, 2, 1, .int 0), (r0, 13, 0, .ref ta), (ta, 2, 0, .ref pr)]) [0, 1, 2, 3, 4, 5, 6, 7, 8, 9, 10, 11, 12, 13, 14, 15, 16, 17] rfl (M1 := [(yb_221, 171, 40, ca 1, gb_325), (ye_221, 172, 40, ca 1, ge_325)]) [0, 1] rfl (I1 := [(jFdo, jDcc dC dI ca G_348 none phn_327), ([(2, 0), (2, 1)], jOl (dC, dI) G0 2 [ta] s.heap)]) [1, 2] rfl
                  clear hh_384
                  have hh_403 := hh_402.addI (jYb.ie hd_401)
                  clear hh_402
                  have hd_404 := jDcc.grow (hh_403.iv 1 rfl) hb_3842 hE9_384 (by decide)
                  have hh_405 := hh_403.sub (L1 := [(spare_13, 3, 8, .ref early_382), (kernel_321, 7, 2, .ref start_376), (spare_13, 3, 9, .ref behind_373), (spare_13, 3, 2, .ref text_345), (spare_13, 3, 4, .int qs_325), (kernel_321, 7, 1, .ref syntax_324), (r0, 13, 5, .ref kernel_321), (spare_13, 3, 11, .ref chk_227), (spare_13, 3, 10, .int pk_221), (spare_13, 3, 5, .ref yb_221), (spare_13, 3, 6, .ref ye_221), (r0, 13, 18, .int (-2)), (r0, 13, 16, .ref spare_13), (r0, 13, 15, .ref latest_19), (spare_13, 3, 3, .int ql_14), (ta, 2, 1, .int 0), (r0, 13, 0, .ref ta), (ta, 2, 0, .ref pr)]) [0, 1, 2, 3, 4, 5, 6, 7, 8, 9, 10, 11, 12, 13, 14, 15, 16, 17] rfl (M1 := [(yb_221, 171, 40, ca 1, gb_325), (ye_221, 172, 40, ca 1, ge_325)]) [0, 1] rfl (I1 := [(jFy, jYb dC dI G_384), ([(2, 0), (2, 1)], jOl (dC, dI) G0 2 [ta] s.heap)]) [0, 2] rfl
                  clear hh_403
                  have hh_406 := hh_405.addI (jDcc.ie hd_404)
                  clear hh_405
                  have hh_407 := hh_406.addIs hbE_384
                  obtain ⟨hr_385, hr_385p⟩ := hr_385
                  try simp only at hr_385p
                  obtain ⟨ret_408, rfl, hg_ret_408⟩ := hr_385
                  refine j7_qast hx hb hK2 hh_407 hB hB210 2 rfl (by decide) (by decide) rfl rfl rfl hg_389 (x := v3_330.toInt) (rfl) (by omega) hB11 (T := TX9) (N := 9) rfl (by decide) hg_ret_408 (Or.inr ⟨_, rfl, hg_ret_408⟩) dX11_batch_158 (fun H_409 locs_409 hh_409 => ?_)
                  clear hh_407
                  obtain ⟨z_410, ez_410⟩ : ∃ y : Int32, y = v3_330 + 1 := ⟨_, rfl⟩
                  refine lv_iinc (v := z_410) (lv' := [(3, .int z_410), (4, .ref ret_370), (0, .ref r0), (1, .int a1), (2, .ref spare_13)]) hx hb dX11_batch_159 hl (k := 4) rfl (by rw [ez_410]; rfl) (by decide) rfl (fun ls hl => ?_)
                  have hz_410 : z_410.toInt = v3_330.toInt + 1 := by rw [ez_410]; exact jb_iadd2 (rfl) (by decide) (by omega)
                  have hje := jEd.to hnb.2.2.1 (k1 := z_410.toInt) (by omega)
                  refine lv_goto (tgt := 97) hx hb dX11_batch_162 (by decide) ?_
                  refine W.tight (c2 := ((zcx_330 + (1)) + (23))) (n2 := ((zsx_330 + (m_ret_348)) + ((183 + 336 * (min 1 (m_ret_348 / 3)))))) hh_409.2.2.2.2.2.1 hh_409.2.2.2.2.2.2.1 ?_
                  exact L97 G_384 ((zcx_330 + (1)) + (23)) ((zsx_330 + (m_ret_348)) + ((183 + 336 * (min 1 (m_ret_348 / 3))))) z_410 _ _ (hh_409.sub (L1 := [(spare_13, 3, 4, .int qs_325), (kernel_321, 7, 1, .ref syntax_324), (r0, 13, 5, .ref kernel_321), (spare_13, 3, 11, .ref chk_227), (spare_13, 3, 10, .int pk_221), (spare_13, 3, 5, .ref yb_221), (spare_13, 3, 6, .ref ye_221), (r0, 13, 18, .int (-2)), (r0, 13, 16, .ref spare_13), (r0, 13, 15, .ref latest_19), (spare_13, 3, 3, .int ql_14), (ta, 2, 1, .int 0), (r0, 13, 0, .ref ta), (ta, 2, 0, .ref pr)]) [4, 5, 6, 7, 8, 9, 10, 11, 12, 13, 14, 15, 16, 17] rfl (M1 := [(yb_221, 171, 40, ca 1, gb_325), (ye_221, 172, 40, ca 1, ge_325)]) [0, 1] rfl (I1 := [(jFdo, jDcc dC dI ca G_384 none phn_327), ([(2, 0), (2, 1)], jOl (dC, dI) G0 2 [ta] s.heap), (jFy, jYb dC dI G_384), (jFs11, jSef dC dI G_384)]) [1, 3, 2, 0] rfl) (hNn_384) (((hle_330).tr hb_3482).tr hb_3842) (⟨(by first | (with_reducible assumption) | omega | rfl | fail), (by first | (with_reducible assumption) | omega | rfl | fail), (by first | (with_reducible assumption) | omega | rfl | fail), (by first | (with_reducible assumption) | omega | rfl | fail)⟩) (by omega) _ (lv_sub hl [2, 3, 4, 0] rfl)
            refine W.tight (c2 := 0) (n2 := 0) hh_329.2.2.2.2.2.1 hh_329.2.2.2.2.2.2.1 ?_
            exact L97 (qs_325.toInt - (0 : Int32).toInt : Int).toNat.succ G0 0 0 0 _ _ hh_329 (jNk.rf) (jLe.rf) (⟨(by first | (with_reducible assumption) | omega | rfl | fail), (by first | (with_reducible assumption) | omega | rfl | fail), (by first | (with_reducible assumption) | omega | rfl | fail), (by first | (with_reducible assumption) | omega | rfl | fail)⟩) (by omega) _ (lv_sub hl [2, 3, 1, 0] rfl)
      · skip
        have c_16' : r_15.toInt = 0 := jb_ne_n (rfl) ((by decide)) c_16
        refine lv_bipush (v := (-2)) hx hb dX11_batch_45 (by decide) ?_
        have hsz_411 := hh_14.2.2.2.2.2.1
        have htt_411 := hh_14.2.2.2.2.2.2.1
        refine W.room (fun hrc_411 hrs_411 => ?_)
        refine W.widen (k := LC - s.heap.size) (n := LS - jTot s.heap) (by omega) (by omega) ?_
        rw [hQ]
        exact W.iret (v := (-2)) hx hb hr (fun t ht hW => ⟨⟨(-2), (0, ph, (pt.toInt.toNat - (0 : Int).toNat), G0), rfl, by (try dsimp only); exact ⟨(by first | (with_reducible assumption) | assumption | omega | rfl | fail), (by first | (with_reducible assumption) | omega | rfl | fail), (by first | (with_reducible assumption) | omega | rfl | fail)⟩, ⟨hh_14.ra (by first | (simp only; omega) | omega) (by first | (simp only; omega) | omega) (M1 := [(ta, 2, 1, .int 0)]) [2] rfl ht, jNk.rf, by rw [ht]; exact hh_14.iv 0 rfl, by rw [ht]; exact hh_14.2.2.2.2.2.2.2.2.sub (L1 := [(jFy, jYb dC dI G0), (jFs11, jSef dC dI G0), (jFdo, jDcc dC dI ca G0 none ph)]) [1, 2, 3] rfl⟩⟩, by rw [ht]; try exact hh_14.1.1, fun q h9 hq => by rw [ht]; try exact hh_14.1.2.1 q h9 hq⟩) hh_14.1.2.2 dX11_batch_47
    · skip
      have c_4' : a1.toInt > pt.toInt := jb_le_n (rfl) (rfl) c_4
      refine lv_iconst (v := (-1)) hx hb dX11_batch_15 (by decide) ?_
      have hsz_412 := hh_1.2.2.2.2.2.1
      have htt_412 := hh_1.2.2.2.2.2.2.1
      refine W.room (fun hrc_412 hrs_412 => ?_)
      refine W.widen (k := LC - s.heap.size) (n := LS - jTot s.heap) (by omega) (by omega) ?_
      rw [hQ]
      exact W.iret (v := (-1)) hx hb hr (fun t ht hW => ⟨⟨(-1), (pt, ph, (pt.toInt.toNat - (pt.toInt : Int).toNat), G0), rfl, by (try dsimp only); exact ⟨(by first | (with_reducible assumption) | assumption | omega | rfl | fail), (by first | (with_reducible assumption) | omega | rfl | fail), (by first | (with_reducible assumption) | omega | rfl | fail)⟩, ⟨hh_1.ra (by first | (simp only; omega) | omega) (by first | (simp only; omega) | omega) (M1 := [(ta, 2, 1, .int pt)]) [1] rfl ht, jNk.rf, by rw [ht]; exact hh_1.iv 0 rfl, by rw [ht]; exact hh_1.2.2.2.2.2.2.2.2.sub (L1 := [(jFy, jYb dC dI G0), (jFs11, jSef dC dI G0), (jFdo, jDcc dC dI ca G0 none ph)]) [1, 2, 3] rfl⟩⟩, by rw [ht]; try exact hh_1.1.1, fun q h9 hq => by rw [ht]; try exact hh_1.1.2.1 q h9 hq⟩) hh_1.1.2.2 dX11_batch_16
