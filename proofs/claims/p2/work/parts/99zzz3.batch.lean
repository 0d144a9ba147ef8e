theorem dX11_batch_0 : decode cX11_batch 0 = .ok (.iload_n 1, 1) := by decide +kernel
theorem dX11_batch_1 : decode cX11_batch 1 = .ok (.ifCond .lt 14, 3) := by decide +kernel
theorem dX11_batch_4 : decode cX11_batch 4 = .ok (.iload_n 1, 1) := by decide +kernel
theorem dX11_batch_5 : decode cX11_batch 5 = .ok (.aload_n 0, 1) := by decide +kernel
theorem dX11_batch_6 : decode cX11_batch 6 = .ok (.getfield 14, 3) := by decide +kernel
theorem dX11_batch_9 : decode cX11_batch 9 = .ok (.getfield 92, 3) := by decide +kernel
theorem dX11_batch_12 : decode cX11_batch 12 = .ok (.if_icmp .le 5, 3) := by decide +kernel
theorem dX11_batch_15 : decode cX11_batch 15 = .ok (.iconst (-1), 1) := by decide +kernel
theorem dX11_batch_16 : decode cX11_batch 16 = .ok (.ireturn, 1) := by decide +kernel
theorem dX11_batch_17 : decode cX11_batch 17 = .ok (.aload_n 0, 1) := by decide +kernel
theorem dX11_batch_18 : decode cX11_batch 18 = .ok (.getfield 14, 3) := by decide +kernel
theorem dX11_batch_21 : decode cX11_batch 21 = .ok (.iconst 0, 1) := by decide +kernel
theorem dX11_batch_22 : decode cX11_batch 22 = .ok (.putfield 92, 3) := by decide +kernel
theorem dX11_batch_25 : decode cX11_batch 25 = .ok (.aload_n 0, 1) := by decide +kernel
theorem dX11_batch_26 : decode cX11_batch 26 = .ok (.getfield 82, 3) := by decide +kernel
theorem dX11_batch_29 : decode cX11_batch 29 = .ok (.astore_n 2, 1) := by decide +kernel
theorem dX11_batch_30 : decode cX11_batch 30 = .ok (.aload_n 2, 1) := by decide +kernel
theorem dX11_batch_31 : decode cX11_batch 31 = .ok (.aload_n 0, 1) := by decide +kernel
theorem dX11_batch_32 : decode cX11_batch 32 = .ok (.getfield 14, 3) := by decide +kernel
theorem dX11_batch_35 : decode cX11_batch 35 = .ok (.getfield 98, 3) := by decide +kernel
theorem dX11_batch_38 : decode cX11_batch 38 = .ok (.iload_n 1, 1) := by decide +kernel
theorem dX11_batch_39 : decode cX11_batch 39 = .ok (.invokevirtual 196, 3) := by decide +kernel
theorem dX11_batch_42 : decode cX11_batch 42 = .ok (.ifCond .ne 6, 3) := by decide +kernel
theorem dX11_batch_45 : decode cX11_batch 45 = .ok (.bipush (-2), 2) := by decide +kernel
theorem dX11_batch_47 : decode cX11_batch 47 = .ok (.ireturn, 1) := by decide +kernel
theorem dX11_batch_48 : decode cX11_batch 48 = .ok (.aload_n 0, 1) := by decide +kernel
theorem dX11_batch_49 : decode cX11_batch 49 = .ok (.aload_n 0, 1) := by decide +kernel
theorem dX11_batch_50 : decode cX11_batch 50 = .ok (.getfield 200, 3) := by decide +kernel
theorem dX11_batch_53 : decode cX11_batch 53 = .ok (.ifnonnull 13, 3) := by decide +kernel
theorem dX11_batch_56 : decode cX11_batch 56 = .ok (.new 71, 3) := by decide +kernel
theorem dX11_batch_59 : decode cX11_batch 59 = .ok (.dup, 1) := by decide +kernel
theorem dX11_batch_60 : decode cX11_batch 60 = .ok (.invokespecial 81, 3) := by decide +kernel
theorem dX11_batch_63 : decode cX11_batch 63 = .ok (.goto 7, 3) := by decide +kernel
theorem dX11_batch_66 : decode cX11_batch 66 = .ok (.aload_n 0, 1) := by decide +kernel
theorem dX11_batch_67 : decode cX11_batch 67 = .ok (.getfield 200, 3) := by decide +kernel
theorem dX11_batch_70 : decode cX11_batch 70 = .ok (.putfield 82, 3) := by decide +kernel
theorem dX11_batch_73 : decode cX11_batch 73 = .ok (.aload_n 0, 1) := by decide +kernel
theorem dX11_batch_74 : decode cX11_batch 74 = .ok (.aload_n 2, 1) := by decide +kernel
theorem dX11_batch_75 : decode cX11_batch 75 = .ok (.putfield 200, 3) := by decide +kernel
theorem dX11_batch_78 : decode cX11_batch 78 = .ok (.aload_n 0, 1) := by decide +kernel
theorem dX11_batch_79 : decode cX11_batch 79 = .ok (.bipush (-2), 2) := by decide +kernel
theorem dX11_batch_81 : decode cX11_batch 81 = .ok (.putfield 89, 3) := by decide +kernel
theorem dX11_batch_84 : decode cX11_batch 84 = .ok (.aload_n 2, 1) := by decide +kernel
theorem dX11_batch_85 : decode cX11_batch 85 = .ok (.aload_n 0, 1) := by decide +kernel
theorem dX11_batch_86 : decode cX11_batch 86 = .ok (.getfield 41, 3) := by decide +kernel
theorem dX11_batch_89 : decode cX11_batch 89 = .ok (.getfield 203, 3) := by decide +kernel
theorem dX11_batch_92 : decode cX11_batch 92 = .ok (.invokevirtual 207, 3) := by decide +kernel
theorem dX11_batch_95 : decode cX11_batch 95 = .ok (.iconst 0, 1) := by decide +kernel
theorem dX11_batch_96 : decode cX11_batch 96 = .ok (.istore_n 3, 1) := by decide +kernel
theorem dX11_batch_97 : decode cX11_batch 97 = .ok (.iload_n 3, 1) := by decide +kernel
theorem dX11_batch_98 : decode cX11_batch 98 = .ok (.aload_n 2, 1) := by decide +kernel
theorem dX11_batch_99 : decode cX11_batch 99 = .ok (.getfield 168, 3) := by decide +kernel
theorem dX11_batch_102 : decode cX11_batch 102 = .ok (.if_icmp .ge 63, 3) := by decide +kernel
theorem dX11_batch_105 : decode cX11_batch 105 = .ok (.aload_n 2, 1) := by decide +kernel
theorem dX11_batch_106 : decode cX11_batch 106 = .ok (.getfield 174, 3) := by decide +kernel
theorem dX11_batch_109 : decode cX11_batch 109 = .ok (.aload_n 2, 1) := by decide +kernel
theorem dX11_batch_110 : decode cX11_batch 110 = .ok (.getfield 182, 3) := by decide +kernel
theorem dX11_batch_113 : decode cX11_batch 113 = .ok (.iload_n 3, 1) := by decide +kernel
theorem dX11_batch_114 : decode cX11_batch 114 = .ok (.iaload, 1) := by decide +kernel
theorem dX11_batch_115 : decode cX11_batch 115 = .ok (.aload_n 2, 1) := by decide +kernel
theorem dX11_batch_116 : decode cX11_batch 116 = .ok (.getfield 185, 3) := by decide +kernel
theorem dX11_batch_119 : decode cX11_batch 119 = .ok (.iload_n 3, 1) := by decide +kernel
theorem dX11_batch_120 : decode cX11_batch 120 = .ok (.iaload, 1) := by decide +kernel
theorem dX11_batch_121 : decode cX11_batch 121 = .ok (.invokestatic 211, 3) := by decide +kernel
theorem dX11_batch_124 : decode cX11_batch 124 = .ok (.astore 4, 2) := by decide +kernel
theorem dX11_batch_126 : decode cX11_batch 126 = .ok (.aload_n 2, 1) := by decide +kernel
theorem dX11_batch_127 : decode cX11_batch 127 = .ok (.getfield 178, 3) := by decide +kernel
theorem dX11_batch_130 : decode cX11_batch 130 = .ok (.iload_n 3, 1) := by decide +kernel
theorem dX11_batch_131 : decode cX11_batch 131 = .ok (.aload_n 0, 1) := by decide +kernel
theorem dX11_batch_132 : decode cX11_batch 132 = .ok (.getfield 41, 3) := by decide +kernel
theorem dX11_batch_135 : decode cX11_batch 135 = .ok (.aload_n 2, 1) := by decide +kernel
theorem dX11_batch_136 : decode cX11_batch 136 = .ok (.iload_n 3, 1) := by decide +kernel
theorem dX11_batch_137 : decode cX11_batch 137 = .ok (.aload_n 0, 1) := by decide +kernel
theorem dX11_batch_138 : decode cX11_batch 138 = .ok (.getfield 41, 3) := by decide +kernel
theorem dX11_batch_141 : decode cX11_batch 141 = .ok (.getfield 217, 3) := by decide +kernel
theorem dX11_batch_144 : decode cX11_batch 144 = .ok (.invokevirtual 221, 3) := by decide +kernel
theorem dX11_batch_147 : decode cX11_batch 147 = .ok (.aload 4, 2) := by decide +kernel
theorem dX11_batch_149 : decode cX11_batch 149 = .ok (.aload_n 2, 1) := by decide +kernel
theorem dX11_batch_150 : decode cX11_batch 150 = .ok (.getfield 225, 3) := by decide +kernel
theorem dX11_batch_153 : decode cX11_batch 153 = .ok (.iload_n 3, 1) := by decide +kernel
theorem dX11_batch_154 : decode cX11_batch 154 = .ok (.iaload, 1) := by decide +kernel
theorem dX11_batch_155 : decode cX11_batch 155 = .ok (.invokevirtual 228, 3) := by decide +kernel
theorem dX11_batch_158 : decode cX11_batch 158 = .ok (.aastore, 1) := by decide +kernel
theorem dX11_batch_159 : decode cX11_batch 159 = .ok (.iinc 3 1, 3) := by decide +kernel
theorem dX11_batch_162 : decode cX11_batch 162 = .ok (.goto (-65), 3) := by decide +kernel
theorem dX11_batch_165 : decode cX11_batch 165 = .ok (.aload_n 2, 1) := by decide +kernel
theorem dX11_batch_166 : decode cX11_batch 166 = .ok (.getfield 168, 3) := by decide +kernel
theorem dX11_batch_169 : decode cX11_batch 169 = .ok (.ireturn, 1) := by decide +kernel
def EX0_decodedT : List (Nat × Nat) := []
def EX1_decodeT : List (Nat × Nat) := [(3, 3), (101, 0)]
def EX11_batch : List (Nat × Nat) := [(2, 1), (3, 3), (3, 4), (7, 5), (7, 10), (8, 3), (11, 2), (11, 3), (11, 4), (11, 5), (11, 6), (11, 7), (11, 8), (12, 3), (12, 4), (12, 5), (12, 7), (12, 8), (12, 10), (13, 15), (13, 16), (13, 18), (101, 0), (102, 0), (132, 0), (133, 0), (171, 0), (172, 0), (210, 0), (211, 0), (280, 0), (290, 0), (291, 0), (292, 0), (293, 0)]
set_option maxHeartbeats 4000000 in
set_option maxRecDepth 20000 in
theorem uX0_decodedT (l : Launch) (dC : Nat → ClassId) (dI : Nat → Nat → Nat) (ca : Nat → ClassId) (base : Nat) (B : jF) (hB : jBok B) (hAp : jAp (dC, dI)) (hB196 : ∀ n G a H, B 196 n G a H ↔ jAr (dC, dI) (ca 0) (fun j z => jBf j z) n a H) (G0 : jT) (H0 : Heap) (r0 : Nat) (a1 : Int32) (a2 : Int32) (n0 : Nat) : Met l yX0_decoded (jw yX0_decoded cX0_decoded 8 (some .int)) ({ frames := 0, cells := 0, slots := 0, locals := 0 }) (va_Pc [.ref r0, .int a1, .int a2] (fun U => U.heap = H0 ∧ jX B base G0 [] H0 ∧ jG dC dI ca base U ∧ G0 r0 = some (196, n0) ∧ jP (dC, dI) G0 H0 [] ∧ n0 < 1000000 ∧ a2.toInt ≤ 1000000)) (va_Qi (S := Unit) (fun r u => (True)) (fun u t => jRt (dC, dI) B base G0 EX0_decodedT H0 [] t.heap) (jA base)) 0 0 (jA base) := by
  refine Met.ofW (cc := cX0_decoded) (maxL := 8) (ret := (some .int)) (by decide) rfl ?_
  intro p e s m args below meth c s₁ Bd hml hv
  obtain ⟨rfl, hH0, hX, hG, hg_r0, hP0, hp0, hp1⟩ := hv
  have hK := hG.1
  have hx := Bd.exec
  have hb := Bd.bytes
  have hr := Bd.returns
  have hts := atoms_spec (ws := (jw yX0_decoded cX0_decoded 8 (some .int))) Bd.pre
  have htw : ∀ w ∈ jWl, w.before _ s = true := fun w h => hts w (List.mem_cons_of_mem _ h)
  have hown : s.vm.findClass RX0 = some m.cls := findClass_of_methodNamed Bd.named
  have hlocks := Bd.notSynchronized
  obtain ⟨Q, hQ⟩ : ∃ Q, Q = MQ below (va_Qi (S := Unit) (fun r u => (True)) (fun u t => jRt (dC, dI) B base G0 EX0_decodedT H0 [] t.heap) (jA base)) ([.ref r0, .int a1, .int a2] : List Value).toArray s 0 0 (jA base) := ⟨_, rfl⟩
  rw [← hQ]
  have hl := lv_entry ([.ref r0, .int a1, .int a2]) (n := 8) (Nat.le_of_ble_eq_true rfl)
  rw [lg_entry_eq]
  generalize (lg_sl ([.ref r0, .int a1, .int a2]) ++ List.replicate (8 - (lg_sl ([.ref r0, .int a1, .int a2])).length) Slot.unset).toArray = ls at hl ⊢
  have hl : lv_has ls 8 [(0, .ref r0), (1, .int a1), (2, .int a2)] := hl
  generalize hR : (headSpec (jw yX0_decoded cX0_decoded 8 (some .int)) ({ frames := 0, cells := 0, slots := 0, locals := 0 })).room = R
  subst hH0
  have hh : jSt (dC, dI) B base G0 G0 EX0_decodedT s.heap 0 0 [] [] [] s.heap [] := jSt.start hX hP0 jMc.nil jIs.nil
  clear hX hP0
  have hkm1 : ((-1) : Int32).toInt = (-1) := by decide
  have hk0 : (0 : Int32).toInt = 0 := by decide
  have hk1 : (1 : Int32).toInt = 1 := by decide
  have hk2 : (2 : Int32).toInt = 2 := by decide
  have hk3 : (3 : Int32).toInt = 3 := by decide
  have hk6 : (6 : Int32).toInt = 6 := by decide
  have hk63 : (63 : Int32).toInt = 63 := by decide
  have hk128 : (128 : Int32).toInt = 128 := by decide
  have hk192 : (192 : Int32).toInt = 192 := by decide
  have hk194 : (194 : Int32).toInt = 194 := by decide
  have hk224 : (224 : Int32).toInt = 224 := by decide
  have hk240 : (240 : Int32).toInt = 240 := by decide
  have hk244 : (244 : Int32).toInt = 244 := by decide
  have hk255 : (255 : Int32).toInt = 255 := by decide
  have hk2048 : (2048 : Int32).toInt = 2048 := by decide
  have hk55296 : (55296 : Int32).toInt = 55296 := by decide
  have hk57344 : (57344 : Int32).toInt = 57344 := by decide
  have hk65536 : (65536 : Int32).toInt = 65536 := by decide
  have hk1114111 : (1114111 : Int32).toInt = 1114111 := by decide
  have hcs_60 := htw (.constant RX0 60 65536) (jWr_20 _ (List.mem_of_getElem? (i := 15) rfl))
  have hcs_74 := htw (.constant RX0 74 1114111) (jWr_20 _ (List.mem_of_getElem? (i := 16) rfl))
  have hcs_61 := htw (.constant RX0 61 55296) (jWr_20 _ (List.mem_of_getElem? (i := 17) rfl))
  have hcs_73 := htw (.constant RX0 73 57344) (jWr_20 _ (List.mem_of_getElem? (i := 18) rfl))
  have hrg_a1 := jb_rng a1
  have hrg_a2 := jb_rng a2
  refine lv_iload_n hx hb dX0_decoded_0 rfl (lv_at hl 1 rfl) ?_
  refine lv_if_lt (tgt := 15) hx hb dX0_decoded_1 (by decide) (fun c_1 => ?_) (fun c_1 => ?_)
  · skip
    have c_1' : a1.toInt < 0 := jb_lt (rfl) ((by decide)) c_1
    refine lv_iconst (v := (-1)) hx hb dX0_decoded_15 (by decide) ?_
    rw [hQ]
    exact W.iret (v := (-1)) hx hb hr (fun t ht hW => ⟨⟨(-1), (), rfl, trivial, hh.rt (M1 := []) [] rfl ht⟩, by rw [ht]; try exact hh.1.1, fun q h9 hq => by rw [ht]; try exact hh.1.2.1 q h9 hq⟩) hh.1.2.2 dX0_decoded_16
  · skip
    have c_1' : a1.toInt ≥ 0 := jb_lt_n (rfl) ((by decide)) c_1
    refine lv_iload_n hx hb dX0_decoded_4 rfl (lv_at hl 1 rfl) ?_
    refine lv_iload_n hx hb dX0_decoded_5 rfl (lv_at hl 2 rfl) ?_
    refine lv_icmp_ge (tgt := 15) hx hb dX0_decoded_6 (by decide) (fun c_2 => ?_) (fun c_2 => ?_)
    · skip
      have c_2' : a1.toInt ≥ a2.toInt := jb_ge (rfl) (rfl) c_2
      refine lv_iconst (v := (-1)) hx hb dX0_decoded_15 (by decide) ?_
      rw [hQ]
      exact W.iret (v := (-1)) hx hb hr (fun t ht hW => ⟨⟨(-1), (), rfl, trivial, hh.rt (M1 := []) [] rfl ht⟩, by rw [ht]; try exact hh.1.1, fun q h9 hq => by rw [ht]; try exact hh.1.2.1 q h9 hq⟩) hh.1.2.2 dX0_decoded_16
    · skip
      have c_2' : a1.toInt < a2.toInt := jb_ge_n (rfl) (rfl) c_2
      refine lv_iload_n hx hb dX0_decoded_9 rfl (lv_at hl 2 rfl) ?_
      refine lv_aload_n hx hb dX0_decoded_10 rfl (lv_at hl 0 rfl) ?_
      refine j7_len hx hb hK hh hB196 0 rfl (by decide) hg_r0 (by omega) dX0_decoded_11 (fun z_3 hz_3 => ?_)
      refine lv_icmp_le (tgt := 17) hx hb dX0_decoded_12 (by decide) (fun c_4 => ?_) (fun c_4 => ?_)
      · skip
        have c_4' : a2.toInt ≤ z_3.toInt := jb_le (rfl) (rfl) c_4
        refine lv_aload_n hx hb dX0_decoded_17 rfl (lv_at hl 0 rfl) ?_
        refine lv_iload_n hx hb dX0_decoded_18 rfl (lv_at hl 1 rfl) ?_
        refine j7_bald hx hb hK hh hB196 0 rfl (by decide) hg_r0 (x := a1.toInt) (rfl) (by omega) dX0_decoded_19 (fun z_5 (hz_5 : jBf (a1.toInt).toNat z_5) => ?_)
        refine lv_sipush (v := 255) hx hb dX0_decoded_20 (by decide) ?_
        refine lv_iand hx hb dX0_decoded_23 ?_
        refine lv_topi (fun z_6 ez_6 => ?_)
        have hz_6 : 0 ≤ z_6.toInt ∧ z_6.toInt ≤ 255 := by rw [ez_6]; exact jb_and z_5 (m := 255) (k := 8) (by decide) (by decide)
        refine lv_istore_n (lv' := [(3, .int z_6), (0, .ref r0), (1, .int a1), (2, .int a2)]) hx hb dX0_decoded_24 rfl hl (by decide) rfl (fun ls hl => ?_)
        refine lv_iload_n hx hb dX0_decoded_25 rfl (lv_at hl 0 rfl) ?_
        refine lv_sipush (v := 128) hx hb dX0_decoded_26 (by decide) ?_
        refine lv_icmp_ge (tgt := 34) hx hb dX0_decoded_29 (by decide) (fun c_7 => ?_) (fun c_7 => ?_)
        · skip
          have c_7' : z_6.toInt ≥ 128 := jb_ge (rfl) ((by decide)) c_7
          refine lv_iload_n hx hb dX0_decoded_34 rfl (lv_at hl 0 rfl) ?_
          refine lv_sipush (v := 240) hx hb dX0_decoded_35 (by decide) ?_
          have C57 : ∀ (w0_8 : Int32) (H_8 : Heap) (locs_8 : List Loc), jSt (dC, dI) B base G0 G0 EX0_decodedT s.heap 0 0 [] [] [] H_8 locs_8 → (1 ≤ w0_8.toInt ∧ w0_8.toInt ≤ 3) → ∀ ls : Array Slot, lv_has ls 8 [(0, .ref r0), (1, .int a1), (2, .int a2), (3, .int z_6)] → W p l e R s m ([.ref r0, .int a1, .int a2] : List Value).toArray below meth c H_8 locs_8 0 0 Q (F0 m 57 ls [.int w0_8]) := by
            intro w0_8 H_8 locs_8 hh_8  hi_8 ls hl
            obtain ⟨hi_8_0, hi_8_1⟩ := hi_8
            refine lv_istore (lv' := [(4, .int w0_8), (0, .ref r0), (1, .int a1), (2, .int a2), (3, .int z_6)]) hx hb dX0_decoded_57 hl (by decide) rfl (fun ls hl => ?_)
            refine lv_iload_n hx hb dX0_decoded_59 rfl (lv_at hl 4 rfl) ?_
            refine lv_sipush (v := 194) hx hb dX0_decoded_60 (by decide) ?_
            refine lv_icmp_lt (tgt := 81) hx hb dX0_decoded_63 (by decide) (fun c_9 => ?_) (fun c_9 => ?_)
            · skip
              have c_9' : z_6.toInt < 194 := jb_lt (rfl) ((by decide)) c_9
              refine lv_iconst (v := (-1)) hx hb dX0_decoded_81 (by decide) ?_
              rw [hQ]
              exact W.iret (v := (-1)) hx hb hr (fun t ht hW => ⟨⟨(-1), (), rfl, trivial, hh_8.rt (M1 := []) [] rfl ht⟩, by rw [ht]; try exact hh_8.1.1, fun q h9 hq => by rw [ht]; try exact hh_8.1.2.1 q h9 hq⟩) hh_8.1.2.2 dX0_decoded_82
            · skip
              have c_9' : z_6.toInt ≥ 194 := jb_lt_n (rfl) ((by decide)) c_9
              refine lv_iload_n hx hb dX0_decoded_66 rfl (lv_at hl 4 rfl) ?_
              refine lv_sipush (v := 244) hx hb dX0_decoded_67 (by decide) ?_
              refine lv_icmp_gt (tgt := 81) hx hb dX0_decoded_70 (by decide) (fun c_10 => ?_) (fun c_10 => ?_)
              · skip
                have c_10' : z_6.toInt > 244 := jb_gt (rfl) ((by decide)) c_10
                refine lv_iconst (v := (-1)) hx hb dX0_decoded_81 (by decide) ?_
                rw [hQ]
                exact W.iret (v := (-1)) hx hb hr (fun t ht hW => ⟨⟨(-1), (), rfl, trivial, hh_8.rt (M1 := []) [] rfl ht⟩, by rw [ht]; try exact hh_8.1.1, fun q h9 hq => by rw [ht]; try exact hh_8.1.2.1 q h9 hq⟩) hh_8.1.2.2 dX0_decoded_82
              · skip
                have c_10' : z_6.toInt ≤ 244 := jb_gt_n (rfl) ((by decide)) c_10
                refine lv_iload hx hb dX0_decoded_73 (lv_at hl 0 rfl) ?_
                refine lv_iload_n hx hb dX0_decoded_75 rfl (lv_at hl 3 rfl) ?_
                refine lv_iload_n hx hb dX0_decoded_76 rfl (lv_at hl 2 rfl) ?_
                refine lv_isub hx hb dX0_decoded_77 ?_
                refine lv_topi (fun z_11 ez_11 => ?_)
                have hz_11 : z_11.toInt = a2.toInt - a1.toInt := by rw [ez_11]; exact jb_isub2 (rfl) (rfl) (by omega)
                refine lv_icmp_lt (tgt := 83) hx hb dX0_decoded_78 (by decide) (fun c_12 => ?_) (fun c_12 => ?_)
                · skip
                  have c_12' : w0_8.toInt < z_11.toInt := jb_lt (rfl) (rfl) c_12
                  refine lv_iload_n hx hb dX0_decoded_83 rfl (lv_at hl 4 rfl) ?_
                  refine lv_bipush (v := 63) hx hb dX0_decoded_84 (by decide) ?_
                  refine lv_iload hx hb dX0_decoded_86 (lv_at hl 0 rfl) ?_
                  refine lv_ishr hx hb dX0_decoded_88 ?_
                  refine lv_topi (fun z_13 ez_13 => ?_)
                  refine lv_iand hx hb dX0_decoded_89 ?_
                  refine lv_topi (fun z_14 ez_14 => ?_)
                  refine lv_istore (lv' := [(5, .int z_14), (4, .int w0_8), (0, .ref r0), (1, .int a1), (2, .int a2), (3, .int z_6)]) hx hb dX0_decoded_90 hl (by decide) rfl (fun ls hl => ?_)
                  refine lv_iconst (v := 1) hx hb dX0_decoded_92 (by decide) ?_
                  refine lv_istore (lv' := [(6, .int 1), (5, .int z_14), (4, .int w0_8), (0, .ref r0), (1, .int a1), (2, .int a2), (3, .int z_6)]) hx hb dX0_decoded_93 hl (by decide) rfl (fun ls hl => ?_)
                  have L95 : ∀ (N : Nat) (v5_15 : Int32) (v6_15 : Int32) (H_15 : Heap) (locs_15 : List Loc), jSt (dC, dI) B base G0 G0 EX0_decodedT s.heap 0 0 [] [] [] H_15 locs_15 → (1 ≤ v6_15.toInt ∧ v6_15.toInt ≤ w0_8.toInt + 1) → (w0_8.toInt + 1 - v6_15.toInt : Int) < N → ∀ ls : Array Slot, lv_has ls 8 [(0, .ref r0), (1, .int a1), (2, .int a2), (3, .int z_6), (4, .int w0_8), (5, .int v5_15), (6, .int v6_15)] → W p l e R s m ([.ref r0, .int a1, .int a2] : List Value).toArray below meth c H_15 locs_15 0 0 Q (F0 m 95 ls []) := by
                    intro N
                    induction N with
                    | zero => intro v5_15 v6_15 H_15 locs_15 hh_15  hi_15 hm; exact absurd hm (by omega)
                    | succ N L95 =>
                      intro v5_15 v6_15 H_15 locs_15 hh_15  hi_15 hm_15 ls hl
                      obtain ⟨hi_15_0, hi_15_1⟩ := hi_15
                      refine lv_iload hx hb dX0_decoded_95 (lv_at hl 6 rfl) ?_
                      refine lv_iload hx hb dX0_decoded_97 (lv_at hl 4 rfl) ?_
                      refine lv_icmp_gt (tgt := 147) hx hb dX0_decoded_99 (by decide) (fun c_16 => ?_) (fun c_16 => ?_)
                      · skip
                        have c_16' : v6_15.toInt > w0_8.toInt := jb_gt (rfl) (rfl) c_16
                        refine lv_iload hx hb dX0_decoded_147 (lv_at hl 4 rfl) ?_
                        refine lv_iconst (v := 2) hx hb dX0_decoded_149 (by decide) ?_
                        refine lv_icmp_ne (tgt := 161) hx hb dX0_decoded_150 (by decide) (fun c_17 => ?_) (fun c_17 => ?_)
                        · skip
                          have c_17' : w0_8.toInt ≠ 2 := jb_ne (rfl) ((by decide)) c_17
                          refine lv_iload hx hb dX0_decoded_161 (lv_at hl 4 rfl) ?_
                          refine lv_iconst (v := 3) hx hb dX0_decoded_163 (by decide) ?_
                          refine lv_icmp_ne (tgt := 178) hx hb dX0_decoded_164 (by decide) (fun c_18 => ?_) (fun c_18 => ?_)
                          · skip
                            have c_18' : w0_8.toInt ≠ 3 := jb_ne (rfl) ((by decide)) c_18
                            refine lv_iconst (v := 0) hx hb dX0_decoded_178 (by decide) ?_
                            refine lv_istore (lv' := [(6, .int 0), (0, .ref r0), (1, .int a1), (2, .int a2), (3, .int z_6), (4, .int w0_8), (5, .int v5_15)]) hx hb dX0_decoded_179 hl (by decide) rfl (fun ls hl => ?_)
                            refine lv_iload hx hb dX0_decoded_181 (lv_at hl 0 rfl) ?_
                            refine lv_if_ne (tgt := 207) hx hb dX0_decoded_183 (by decide) (fun c_19 => ?_) (fun c_19 => ?_)
                            · skip
                              exact absurd c_19 (by decide)
                            · skip
                              refine lv_iload hx hb dX0_decoded_186 (lv_at hl 6 rfl) ?_
                              refine lv_ldc hx hb hown hcs_74 dX0_decoded_188 ?_
                              refine lv_icmp_gt (tgt := 207) hx hb dX0_decoded_190 (by decide) (fun c_20 => ?_) (fun c_20 => ?_)
                              · skip
                                have c_20' : v5_15.toInt > 1114111 := jb_gt (rfl) ((by decide)) c_20
                                refine lv_iconst (v := (-1)) hx hb dX0_decoded_207 (by decide) ?_
                                refine lv_goto (tgt := 213) hx hb dX0_decoded_208 (by decide) ?_
                                rw [hQ]
                                exact W.iret (v := (-1)) hx hb hr (fun t ht hW => ⟨⟨(-1), (), rfl, trivial, hh_15.rt (M1 := []) [] rfl ht⟩, by rw [ht]; try exact hh_15.1.1, fun q h9 hq => by rw [ht]; try exact hh_15.1.2.1 q h9 hq⟩) hh_15.1.2.2 dX0_decoded_213
                              · skip
                                have c_20' : v5_15.toInt ≤ 1114111 := jb_gt_n (rfl) ((by decide)) c_20
                                refine lv_iload hx hb dX0_decoded_193 (lv_at hl 6 rfl) ?_
                                refine lv_ldc hx hb hown hcs_61 dX0_decoded_195 ?_
                                refine lv_icmp_lt (tgt := 211) hx hb dX0_decoded_197 (by decide) (fun c_21 => ?_) (fun c_21 => ?_)
                                · skip
                                  have c_21' : v5_15.toInt < 55296 := jb_lt (rfl) ((by decide)) c_21
                                  refine lv_iload hx hb dX0_decoded_211 (lv_at hl 6 rfl) ?_
                                  rw [hQ]
                                  exact W.iret (v := v5_15) hx hb hr (fun t ht hW => ⟨⟨v5_15, (), rfl, trivial, hh_15.rt (M1 := []) [] rfl ht⟩, by rw [ht]; try exact hh_15.1.1, fun q h9 hq => by rw [ht]; try exact hh_15.1.2.1 q h9 hq⟩) hh_15.1.2.2 dX0_decoded_213
                                · skip
                                  have c_21' : v5_15.toInt ≥ 55296 := jb_lt_n (rfl) ((by decide)) c_21
                                  refine lv_iload hx hb dX0_decoded_200 (lv_at hl 6 rfl) ?_
                                  refine lv_ldc hx hb hown hcs_73 dX0_decoded_202 ?_
                                  refine lv_icmp_ge (tgt := 211) hx hb dX0_decoded_204 (by decide) (fun c_22 => ?_) (fun c_22 => ?_)
                                  · skip
                                    have c_22' : v5_15.toInt ≥ 57344 := jb_ge (rfl) ((by decide)) c_22
                                    refine lv_iload hx hb dX0_decoded_211 (lv_at hl 6 rfl) ?_
                                    rw [hQ]
                                    exact W.iret (v := v5_15) hx hb hr (fun t ht hW => ⟨⟨v5_15, (), rfl, trivial, hh_15.rt (M1 := []) [] rfl ht⟩, by rw [ht]; try exact hh_15.1.1, fun q h9 hq => by rw [ht]; try exact hh_15.1.2.1 q h9 hq⟩) hh_15.1.2.2 dX0_decoded_213
                                  · skip
                                    have c_22' : v5_15.toInt < 57344 := jb_ge_n (rfl) ((by decide)) c_22
                                    refine lv_iconst (v := (-1)) hx hb dX0_decoded_207 (by decide) ?_
                                    refine lv_goto (tgt := 213) hx hb dX0_decoded_208 (by decide) ?_
                                    rw [hQ]
                                    exact W.iret (v := (-1)) hx hb hr (fun t ht hW => ⟨⟨(-1), (), rfl, trivial, hh_15.rt (M1 := []) [] rfl ht⟩, by rw [ht]; try exact hh_15.1.1, fun q h9 hq => by rw [ht]; try exact hh_15.1.2.1 q h9 hq⟩) hh_15.1.2.2 dX0_decoded_213
                          · skip
                            have c_18' : w0_8.toInt = 3 := jb_ne_n (rfl) ((by decide)) c_18
                            refine lv_iload hx hb dX0_decoded_167 (lv_at hl 5 rfl) ?_
                            refine lv_ldc hx hb hown hcs_60 dX0_decoded_169 ?_
                            refine lv_icmp_ge (tgt := 178) hx hb dX0_decoded_171 (by decide) (fun c_23 => ?_) (fun c_23 => ?_)
                            · skip
                              have c_23' : v5_15.toInt ≥ 65536 := jb_ge (rfl) ((by decide)) c_23
                              refine lv_iconst (v := 0) hx hb dX0_decoded_178 (by decide) ?_
                              refine lv_istore (lv' := [(6, .int 0), (0, .ref r0), (1, .int a1), (2, .int a2), (3, .int z_6), (4, .int w0_8), (5, .int v5_15)]) hx hb dX0_decoded_179 hl (by decide) rfl (fun ls hl => ?_)
                              refine lv_iload hx hb dX0_decoded_181 (lv_at hl 0 rfl) ?_
                              refine lv_if_ne (tgt := 207) hx hb dX0_decoded_183 (by decide) (fun c_24 => ?_) (fun c_24 => ?_)
                              · skip
                                exact absurd c_24 (by decide)
                              · skip
                                refine lv_iload hx hb dX0_decoded_186 (lv_at hl 6 rfl) ?_
                                refine lv_ldc hx hb hown hcs_74 dX0_decoded_188 ?_
                                refine lv_icmp_gt (tgt := 207) hx hb dX0_decoded_190 (by decide) (fun c_25 => ?_) (fun c_25 => ?_)
                                · skip
                                  have c_25' : v5_15.toInt > 1114111 := jb_gt (rfl) ((by decide)) c_25
                                  refine lv_iconst (v := (-1)) hx hb dX0_decoded_207 (by decide) ?_
                                  refine lv_goto (tgt := 213) hx hb dX0_decoded_208 (by decide) ?_
                                  rw [hQ]
                                  exact W.iret (v := (-1)) hx hb hr (fun t ht hW => ⟨⟨(-1), (), rfl, trivial, hh_15.rt (M1 := []) [] rfl ht⟩, by rw [ht]; try exact hh_15.1.1, fun q h9 hq => by rw [ht]; try exact hh_15.1.2.1 q h9 hq⟩) hh_15.1.2.2 dX0_decoded_213
                                · skip
                                  have c_25' : v5_15.toInt ≤ 1114111 := jb_gt_n (rfl) ((by decide)) c_25
                                  refine lv_iload hx hb dX0_decoded_193 (lv_at hl 6 rfl) ?_
                                  refine lv_ldc hx hb hown hcs_61 dX0_decoded_195 ?_
                                  refine lv_icmp_lt (tgt := 211) hx hb dX0_decoded_197 (by decide) (fun c_26 => ?_) (fun c_26 => ?_)
                                  · skip
                                    have c_26' : v5_15.toInt < 55296 := jb_lt (rfl) ((by decide)) c_26
                                    refine lv_iload hx hb dX0_decoded_211 (lv_at hl 6 rfl) ?_
                                    rw [hQ]
                                    exact W.iret (v := v5_15) hx hb hr (fun t ht hW => ⟨⟨v5_15, (), rfl, trivial, hh_15.rt (M1 := []) [] rfl ht⟩, by rw [ht]; try exact hh_15.1.1, fun q h9 hq => by rw [ht]; try exact hh_15.1.2.1 q h9 hq⟩) hh_15.1.2.2 dX0_decoded_213
                                  · skip
                                    have c_26' : v5_15.toInt ≥ 55296 := jb_lt_n (rfl) ((by decide)) c_26
                                    refine lv_iload hx hb dX0_decoded_200 (lv_at hl 6 rfl) ?_
                                    refine lv_ldc hx hb hown hcs_73 dX0_decoded_202 ?_
                                    refine lv_icmp_ge (tgt := 211) hx hb dX0_decoded_204 (by decide) (fun c_27 => ?_) (fun c_27 => ?_)
                                    · skip
                                      have c_27' : v5_15.toInt ≥ 57344 := jb_ge (rfl) ((by decide)) c_27
                                      refine lv_iload hx hb dX0_decoded_211 (lv_at hl 6 rfl) ?_
                                      rw [hQ]
                                      exact W.iret (v := v5_15) hx hb hr (fun t ht hW => ⟨⟨v5_15, (), rfl, trivial, hh_15.rt (M1 := []) [] rfl ht⟩, by rw [ht]; try exact hh_15.1.1, fun q h9 hq => by rw [ht]; try exact hh_15.1.2.1 q h9 hq⟩) hh_15.1.2.2 dX0_decoded_213
                                    · skip
                                      have c_27' : v5_15.toInt < 57344 := jb_ge_n (rfl) ((by decide)) c_27
                                      refine lv_iconst (v := (-1)) hx hb dX0_decoded_207 (by decide) ?_
                                      refine lv_goto (tgt := 213) hx hb dX0_decoded_208 (by decide) ?_
                                      rw [hQ]
                                      exact W.iret (v := (-1)) hx hb hr (fun t ht hW => ⟨⟨(-1), (), rfl, trivial, hh_15.rt (M1 := []) [] rfl ht⟩, by rw [ht]; try exact hh_15.1.1, fun q h9 hq => by rw [ht]; try exact hh_15.1.2.1 q h9 hq⟩) hh_15.1.2.2 dX0_decoded_213
                            · skip
                              have c_23' : v5_15.toInt < 65536 := jb_ge_n (rfl) ((by decide)) c_23
                              refine lv_iconst (v := 1) hx hb dX0_decoded_174 (by decide) ?_
                              refine lv_goto (tgt := 179) hx hb dX0_decoded_175 (by decide) ?_
                              refine lv_istore (lv' := [(6, .int 1), (0, .ref r0), (1, .int a1), (2, .int a2), (3, .int z_6), (4, .int w0_8), (5, .int v5_15)]) hx hb dX0_decoded_179 hl (by decide) rfl (fun ls hl => ?_)
                              refine lv_iload hx hb dX0_decoded_181 (lv_at hl 0 rfl) ?_
                              refine lv_if_ne (tgt := 207) hx hb dX0_decoded_183 (by decide) (fun c_28 => ?_) (fun c_28 => ?_)
                              · skip
                                refine lv_iconst (v := (-1)) hx hb dX0_decoded_207 (by decide) ?_
                                refine lv_goto (tgt := 213) hx hb dX0_decoded_208 (by decide) ?_
                                rw [hQ]
                                exact W.iret (v := (-1)) hx hb hr (fun t ht hW => ⟨⟨(-1), (), rfl, trivial, hh_15.rt (M1 := []) [] rfl ht⟩, by rw [ht]; try exact hh_15.1.1, fun q h9 hq => by rw [ht]; try exact hh_15.1.2.1 q h9 hq⟩) hh_15.1.2.2 dX0_decoded_213
                              · skip
                                exact absurd c_28 (by decide)
                        · skip
                          have c_17' : w0_8.toInt = 2 := jb_ne_n (rfl) ((by decide)) c_17
                          refine lv_iload hx hb dX0_decoded_153 (lv_at hl 5 rfl) ?_
                          refine lv_sipush (v := 2048) hx hb dX0_decoded_155 (by decide) ?_
                          refine lv_icmp_lt (tgt := 174) hx hb dX0_decoded_158 (by decide) (fun c_29 => ?_) (fun c_29 => ?_)
                          · skip
                            have c_29' : v5_15.toInt < 2048 := jb_lt (rfl) ((by decide)) c_29
                            refine lv_iconst (v := 1) hx hb dX0_decoded_174 (by decide) ?_
                            refine lv_goto (tgt := 179) hx hb dX0_decoded_175 (by decide) ?_
                            refine lv_istore (lv' := [(6, .int 1), (0, .ref r0), (1, .int a1), (2, .int a2), (3, .int z_6), (4, .int w0_8), (5, .int v5_15)]) hx hb dX0_decoded_179 hl (by decide) rfl (fun ls hl => ?_)
                            refine lv_iload hx hb dX0_decoded_181 (lv_at hl 0 rfl) ?_
                            refine lv_if_ne (tgt := 207) hx hb dX0_decoded_183 (by decide) (fun c_30 => ?_) (fun c_30 => ?_)
                            · skip
                              refine lv_iconst (v := (-1)) hx hb dX0_decoded_207 (by decide) ?_
                              refine lv_goto (tgt := 213) hx hb dX0_decoded_208 (by decide) ?_
                              rw [hQ]
                              exact W.iret (v := (-1)) hx hb hr (fun t ht hW => ⟨⟨(-1), (), rfl, trivial, hh_15.rt (M1 := []) [] rfl ht⟩, by rw [ht]; try exact hh_15.1.1, fun q h9 hq => by rw [ht]; try exact hh_15.1.2.1 q h9 hq⟩) hh_15.1.2.2 dX0_decoded_213
                            · skip
                              exact absurd c_30 (by decide)
                          · skip
                            have c_29' : v5_15.toInt ≥ 2048 := jb_lt_n (rfl) ((by decide)) c_29
                            refine lv_iload hx hb dX0_decoded_161 (lv_at hl 4 rfl) ?_
                            refine lv_iconst (v := 3) hx hb dX0_decoded_163 (by decide) ?_
                            refine lv_icmp_ne (tgt := 178) hx hb dX0_decoded_164 (by decide) (fun c_31 => ?_) (fun c_31 => ?_)
                            · skip
                              have c_31' : w0_8.toInt ≠ 3 := jb_ne (rfl) ((by decide)) c_31
                              refine lv_iconst (v := 0) hx hb dX0_decoded_178 (by decide) ?_
                              refine lv_istore (lv' := [(6, .int 0), (0, .ref r0), (1, .int a1), (2, .int a2), (3, .int z_6), (4, .int w0_8), (5, .int v5_15)]) hx hb dX0_decoded_179 hl (by decide) rfl (fun ls hl => ?_)
                              refine lv_iload hx hb dX0_decoded_181 (lv_at hl 0 rfl) ?_
                              refine lv_if_ne (tgt := 207) hx hb dX0_decoded_183 (by decide) (fun c_32 => ?_) (fun c_32 => ?_)
                              · skip
                                exact absurd c_32 (by decide)
                              · skip
                                refine lv_iload hx hb dX0_decoded_186 (lv_at hl 6 rfl) ?_
                                refine lv_ldc hx hb hown hcs_74 dX0_decoded_188 ?_
                                refine lv_icmp_gt (tgt := 207) hx hb dX0_decoded_190 (by decide) (fun c_33 => ?_) (fun c_33 => ?_)
                                · skip
                                  have c_33' : v5_15.toInt > 1114111 := jb_gt (rfl) ((by decide)) c_33
                                  refine lv_iconst (v := (-1)) hx hb dX0_decoded_207 (by decide) ?_
                                  refine lv_goto (tgt := 213) hx hb dX0_decoded_208 (by decide) ?_
                                  rw [hQ]
                                  exact W.iret (v := (-1)) hx hb hr (fun t ht hW => ⟨⟨(-1), (), rfl, trivial, hh_15.rt (M1 := []) [] rfl ht⟩, by rw [ht]; try exact hh_15.1.1, fun q h9 hq => by rw [ht]; try exact hh_15.1.2.1 q h9 hq⟩) hh_15.1.2.2 dX0_decoded_213
                                · skip
                                  have c_33' : v5_15.toInt ≤ 1114111 := jb_gt_n (rfl) ((by decide)) c_33
                                  refine lv_iload hx hb dX0_decoded_193 (lv_at hl 6 rfl) ?_
                                  refine lv_ldc hx hb hown hcs_61 dX0_decoded_195 ?_
                                  refine lv_icmp_lt (tgt := 211) hx hb dX0_decoded_197 (by decide) (fun c_34 => ?_) (fun c_34 => ?_)
                                  · skip
                                    have c_34' : v5_15.toInt < 55296 := jb_lt (rfl) ((by decide)) c_34
                                    refine lv_iload hx hb dX0_decoded_211 (lv_at hl 6 rfl) ?_
                                    rw [hQ]
                                    exact W.iret (v := v5_15) hx hb hr (fun t ht hW => ⟨⟨v5_15, (), rfl, trivial, hh_15.rt (M1 := []) [] rfl ht⟩, by rw [ht]; try exact hh_15.1.1, fun q h9 hq => by rw [ht]; try exact hh_15.1.2.1 q h9 hq⟩) hh_15.1.2.2 dX0_decoded_213
                                  · skip
                                    have c_34' : v5_15.toInt ≥ 55296 := jb_lt_n (rfl) ((by decide)) c_34
                                    refine lv_iload hx hb dX0_decoded_200 (lv_at hl 6 rfl) ?_
                                    refine lv_ldc hx hb hown hcs_73 dX0_decoded_202 ?_
                                    refine lv_icmp_ge (tgt := 211) hx hb dX0_decoded_204 (by decide) (fun c_35 => ?_) (fun c_35 => ?_)
                                    · skip
                                      have c_35' : v5_15.toInt ≥ 57344 := jb_ge (rfl) ((by decide)) c_35
                                      refine lv_iload hx hb dX0_decoded_211 (lv_at hl 6 rfl) ?_
                                      rw [hQ]
                                      exact W.iret (v := v5_15) hx hb hr (fun t ht hW => ⟨⟨v5_15, (), rfl, trivial, hh_15.rt (M1 := []) [] rfl ht⟩, by rw [ht]; try exact hh_15.1.1, fun q h9 hq => by rw [ht]; try exact hh_15.1.2.1 q h9 hq⟩) hh_15.1.2.2 dX0_decoded_213
                                    · skip
                                      have c_35' : v5_15.toInt < 57344 := jb_ge_n (rfl) ((by decide)) c_35
                                      refine lv_iconst (v := (-1)) hx hb dX0_decoded_207 (by decide) ?_
                                      refine lv_goto (tgt := 213) hx hb dX0_decoded_208 (by decide) ?_
                                      rw [hQ]
                                      exact W.iret (v := (-1)) hx hb hr (fun t ht hW => ⟨⟨(-1), (), rfl, trivial, hh_15.rt (M1 := []) [] rfl ht⟩, by rw [ht]; try exact hh_15.1.1, fun q h9 hq => by rw [ht]; try exact hh_15.1.2.1 q h9 hq⟩) hh_15.1.2.2 dX0_decoded_213
                            · skip
                              have c_31' : w0_8.toInt = 3 := jb_ne_n (rfl) ((by decide)) c_31
                              refine lv_iload hx hb dX0_decoded_167 (lv_at hl 5 rfl) ?_
                              refine lv_ldc hx hb hown hcs_60 dX0_decoded_169 ?_
                              refine lv_icmp_ge (tgt := 178) hx hb dX0_decoded_171 (by decide) (fun c_36 => ?_) (fun c_36 => ?_)
                              · skip
                                have c_36' : v5_15.toInt ≥ 65536 := jb_ge (rfl) ((by decide)) c_36
                                refine lv_iconst (v := 0) hx hb dX0_decoded_178 (by decide) ?_
                                refine lv_istore (lv' := [(6, .int 0), (0, .ref r0), (1, .int a1), (2, .int a2), (3, .int z_6), (4, .int w0_8), (5, .int v5_15)]) hx hb dX0_decoded_179 hl (by decide) rfl (fun ls hl => ?_)
                                refine lv_iload hx hb dX0_decoded_181 (lv_at hl 0 rfl) ?_
                                refine lv_if_ne (tgt := 207) hx hb dX0_decoded_183 (by decide) (fun c_37 => ?_) (fun c_37 => ?_)
                                · skip
                                  exact absurd c_37 (by decide)
                                · skip
                                  refine lv_iload hx hb dX0_decoded_186 (lv_at hl 6 rfl) ?_
                                  refine lv_ldc hx hb hown hcs_74 dX0_decoded_188 ?_
                                  refine lv_icmp_gt (tgt := 207) hx hb dX0_decoded_190 (by decide) (fun c_38 => ?_) (fun c_38 => ?_)
                                  · skip
                                    have c_38' : v5_15.toInt > 1114111 := jb_gt (rfl) ((by decide)) c_38
                                    refine lv_iconst (v := (-1)) hx hb dX0_decoded_207 (by decide) ?_
                                    refine lv_goto (tgt := 213) hx hb dX0_decoded_208 (by decide) ?_
                                    rw [hQ]
                                    exact W.iret (v := (-1)) hx hb hr (fun t ht hW => ⟨⟨(-1), (), rfl, trivial, hh_15.rt (M1 := []) [] rfl ht⟩, by rw [ht]; try exact hh_15.1.1, fun q h9 hq => by rw [ht]; try exact hh_15.1.2.1 q h9 hq⟩) hh_15.1.2.2 dX0_decoded_213
                                  · skip
                                    have c_38' : v5_15.toInt ≤ 1114111 := jb_gt_n (rfl) ((by decide)) c_38
                                    refine lv_iload hx hb dX0_decoded_193 (lv_at hl 6 rfl) ?_
                                    refine lv_ldc hx hb hown hcs_61 dX0_decoded_195 ?_
                                    refine lv_icmp_lt (tgt := 211) hx hb dX0_decoded_197 (by decide) (fun c_39 => ?_) (fun c_39 => ?_)
                                    · skip
                                      have c_39' : v5_15.toInt < 55296 := jb_lt (rfl) ((by decide)) c_39
                                      refine lv_iload hx hb dX0_decoded_211 (lv_at hl 6 rfl) ?_
                                      rw [hQ]
                                      exact W.iret (v := v5_15) hx hb hr (fun t ht hW => ⟨⟨v5_15, (), rfl, trivial, hh_15.rt (M1 := []) [] rfl ht⟩, by rw [ht]; try exact hh_15.1.1, fun q h9 hq => by rw [ht]; try exact hh_15.1.2.1 q h9 hq⟩) hh_15.1.2.2 dX0_decoded_213
                                    · skip
                                      have c_39' : v5_15.toInt ≥ 55296 := jb_lt_n (rfl) ((by decide)) c_39
                                      refine lv_iload hx hb dX0_decoded_200 (lv_at hl 6 rfl) ?_
                                      refine lv_ldc hx hb hown hcs_73 dX0_decoded_202 ?_
                                      refine lv_icmp_ge (tgt := 211) hx hb dX0_decoded_204 (by decide) (fun c_40 => ?_) (fun c_40 => ?_)
                                      · skip
                                        have c_40' : v5_15.toInt ≥ 57344 := jb_ge (rfl) ((by decide)) c_40
                                        refine lv_iload hx hb dX0_decoded_211 (lv_at hl 6 rfl) ?_
                                        rw [hQ]
                                        exact W.iret (v := v5_15) hx hb hr (fun t ht hW => ⟨⟨v5_15, (), rfl, trivial, hh_15.rt (M1 := []) [] rfl ht⟩, by rw [ht]; try exact hh_15.1.1, fun q h9 hq => by rw [ht]; try exact hh_15.1.2.1 q h9 hq⟩) hh_15.1.2.2 dX0_decoded_213
                                      · skip
                                        have c_40' : v5_15.toInt < 57344 := jb_ge_n (rfl) ((by decide)) c_40
                                        refine lv_iconst (v := (-1)) hx hb dX0_decoded_207 (by decide) ?_
                                        refine lv_goto (tgt := 213) hx hb dX0_decoded_208 (by decide) ?_
                                        rw [hQ]
                                        exact W.iret (v := (-1)) hx hb hr (fun t ht hW => ⟨⟨(-1), (), rfl, trivial, hh_15.rt (M1 := []) [] rfl ht⟩, by rw [ht]; try exact hh_15.1.1, fun q h9 hq => by rw [ht]; try exact hh_15.1.2.1 q h9 hq⟩) hh_15.1.2.2 dX0_decoded_213
                              · skip
                                have c_36' : v5_15.toInt < 65536 := jb_ge_n (rfl) ((by decide)) c_36
                                refine lv_iconst (v := 1) hx hb dX0_decoded_174 (by decide) ?_
                                refine lv_goto (tgt := 179) hx hb dX0_decoded_175 (by decide) ?_
                                refine lv_istore (lv' := [(6, .int 1), (0, .ref r0), (1, .int a1), (2, .int a2), (3, .int z_6), (4, .int w0_8), (5, .int v5_15)]) hx hb dX0_decoded_179 hl (by decide) rfl (fun ls hl => ?_)
                                refine lv_iload hx hb dX0_decoded_181 (lv_at hl 0 rfl) ?_
                                refine lv_if_ne (tgt := 207) hx hb dX0_decoded_183 (by decide) (fun c_41 => ?_) (fun c_41 => ?_)
                                · skip
                                  refine lv_iconst (v := (-1)) hx hb dX0_decoded_207 (by decide) ?_
                                  refine lv_goto (tgt := 213) hx hb dX0_decoded_208 (by decide) ?_
                                  rw [hQ]
                                  exact W.iret (v := (-1)) hx hb hr (fun t ht hW => ⟨⟨(-1), (), rfl, trivial, hh_15.rt (M1 := []) [] rfl ht⟩, by rw [ht]; try exact hh_15.1.1, fun q h9 hq => by rw [ht]; try exact hh_15.1.2.1 q h9 hq⟩) hh_15.1.2.2 dX0_decoded_213
                                · skip
                                  exact absurd c_41 (by decide)
                      · skip
                        have c_16' : v6_15.toInt ≤ w0_8.toInt := jb_gt_n (rfl) (rfl) c_16
                        refine lv_aload_n hx hb dX0_decoded_102 rfl (lv_at hl 0 rfl) ?_
                        refine lv_iload_n hx hb dX0_decoded_103 rfl (lv_at hl 1 rfl) ?_
                        refine lv_iload hx hb dX0_decoded_104 (lv_at hl 6 rfl) ?_
                        refine lv_iadd hx hb dX0_decoded_106 ?_
                        refine lv_topi (fun z_42 ez_42 => ?_)
                        have hz_42 : z_42.toInt = a1.toInt + v6_15.toInt := by rw [ez_42]; exact jb_iadd2 (rfl) (rfl) (by omega)
                        refine j7_bald hx hb hK hh_15 hB196 0 rfl (by decide) hg_r0 (x := z_42.toInt) (rfl) (by omega) dX0_decoded_107 (fun z_43 (hz_43 : jBf (z_42.toInt).toNat z_43) => ?_)
                        refine lv_sipush (v := 255) hx hb dX0_decoded_108 (by decide) ?_
                        refine lv_iand hx hb dX0_decoded_111 ?_
                        refine lv_topi (fun z_44 ez_44 => ?_)
                        have hz_44 : 0 ≤ z_44.toInt ∧ z_44.toInt ≤ 255 := by rw [ez_44]; exact jb_and z_43 (m := 255) (k := 8) (by decide) (by decide)
                        refine lv_istore (lv' := [(7, .int z_44), (0, .ref r0), (1, .int a1), (2, .int a2), (3, .int z_6), (4, .int w0_8), (5, .int v5_15), (6, .int v6_15)]) hx hb dX0_decoded_112 hl (by decide) rfl (fun ls hl => ?_)
                        refine lv_iload hx hb dX0_decoded_114 (lv_at hl 0 rfl) ?_
                        refine lv_sipush (v := 192) hx hb dX0_decoded_116 (by decide) ?_
                        refine lv_iand hx hb dX0_decoded_119 ?_
                        refine lv_topi (fun z_45 ez_45 => ?_)
                        refine lv_sipush (v := 128) hx hb dX0_decoded_120 (by decide) ?_
                        refine lv_icmp_eq (tgt := 128) hx hb dX0_decoded_123 (by decide) (fun c_46 => ?_) (fun c_46 => ?_)
                        · skip
                          have c_46' : z_45.toInt = 128 := jb_eq (rfl) ((by decide)) c_46
                          refine lv_iload hx hb dX0_decoded_128 (lv_at hl 6 rfl) ?_
                          refine lv_bipush (v := 6) hx hb dX0_decoded_130 (by decide) ?_
                          refine lv_ishl hx hb dX0_decoded_132 ?_
                          refine lv_topi (fun z_47 ez_47 => ?_)
                          refine lv_iload hx hb dX0_decoded_133 (lv_at hl 0 rfl) ?_
                          refine lv_bipush (v := 63) hx hb dX0_decoded_135 (by decide) ?_
                          refine lv_iand hx hb dX0_decoded_137 ?_
                          refine lv_topi (fun z_48 ez_48 => ?_)
                          have hz_48 : 0 ≤ z_48.toInt ∧ z_48.toInt ≤ 63 := by rw [ez_48]; exact jb_and z_44 (m := 63) (k := 6) (by decide) (by decide)
                          refine lv_ior hx hb dX0_decoded_138 ?_
                          refine lv_topi (fun z_49 ez_49 => ?_)
                          refine lv_istore (lv' := [(5, .int z_49), (7, .int z_44), (0, .ref r0), (1, .int a1), (2, .int a2), (3, .int z_6), (4, .int w0_8), (6, .int v6_15)]) hx hb dX0_decoded_139 hl (by decide) rfl (fun ls hl => ?_)
                          obtain ⟨z_50, ez_50⟩ : ∃ y : Int32, y = v6_15 + 1 := ⟨_, rfl⟩
                          refine lv_iinc (v := z_50) (lv' := [(6, .int z_50), (5, .int z_49), (7, .int z_44), (0, .ref r0), (1, .int a1), (2, .int a2), (3, .int z_6), (4, .int w0_8)]) hx hb dX0_decoded_141 hl (k := 7) rfl (by rw [ez_50]; rfl) (by decide) rfl (fun ls hl => ?_)
                          have hz_50 : z_50.toInt = v6_15.toInt + 1 := by rw [ez_50]; exact jb_iadd2 (rfl) (by decide) (by omega)
                          refine lv_goto (tgt := 95) hx hb dX0_decoded_144 (by decide) ?_
                          exact L95 z_49 z_50 _ _ hh_15 (by first | omega | (refine ⟨?_, ?_⟩ <;> (first | omega | rfl | assumption | decide | exact Or.inl rfl | exact Or.inr rfl | (simp only; omega)))) (by omega) _ (lv_sub hl [3, 4, 5, 6, 7, 1, 0] rfl)
                        · skip
                          have c_46' : z_45.toInt ≠ 128 := jb_eq_n (rfl) ((by decide)) c_46
                          refine lv_iconst (v := (-1)) hx hb dX0_decoded_126 (by decide) ?_
                          rw [hQ]
                          exact W.iret (v := (-1)) hx hb hr (fun t ht hW => ⟨⟨(-1), (), rfl, trivial, hh_15.rt (M1 := []) [] rfl ht⟩, by rw [ht]; try exact hh_15.1.1, fun q h9 hq => by rw [ht]; try exact hh_15.1.2.1 q h9 hq⟩) hh_15.1.2.2 dX0_decoded_127
                  exact L95 (w0_8.toInt + 1 - (1 : Int32).toInt : Int).toNat.succ z_14 1 _ _ hh_8 (by first | omega | (refine ⟨?_, ?_⟩ <;> (first | omega | rfl | assumption | decide | exact Or.inl rfl | exact Or.inr rfl | (simp only; omega)))) (by omega) _ (lv_sub hl [3, 4, 5, 6, 2, 1, 0] rfl)
                · skip
                  have c_12' : w0_8.toInt ≥ z_11.toInt := jb_lt_n (rfl) (rfl) c_12
                  refine lv_iconst (v := (-1)) hx hb dX0_decoded_81 (by decide) ?_
                  rw [hQ]
                  exact W.iret (v := (-1)) hx hb hr (fun t ht hW => ⟨⟨(-1), (), rfl, trivial, hh_8.rt (M1 := []) [] rfl ht⟩, by rw [ht]; try exact hh_8.1.1, fun q h9 hq => by rw [ht]; try exact hh_8.1.2.1 q h9 hq⟩) hh_8.1.2.2 dX0_decoded_82
          refine lv_icmp_lt (tgt := 45) hx hb dX0_decoded_38 (by decide) (fun c_51 => ?_) (fun c_51 => ?_)
          · skip
            have c_51' : z_6.toInt < 240 := jb_lt (rfl) ((by decide)) c_51
            refine lv_iload_n hx hb dX0_decoded_45 rfl (lv_at hl 0 rfl) ?_
            refine lv_sipush (v := 224) hx hb dX0_decoded_46 (by decide) ?_
            refine lv_icmp_lt (tgt := 56) hx hb dX0_decoded_49 (by decide) (fun c_52 => ?_) (fun c_52 => ?_)
            · skip
              have c_52' : z_6.toInt < 224 := jb_lt (rfl) ((by decide)) c_52
              refine lv_iconst (v := 1) hx hb dX0_decoded_56 (by decide) ?_
              exact C57 1 _ _ hh (by first | omega | (refine ⟨?_, ?_⟩ <;> (first | omega | rfl | assumption | decide | exact Or.inl rfl | exact Or.inr rfl | (simp only; omega)))) _ (lv_sub hl [1, 2, 3, 0] rfl)
            · skip
              have c_52' : z_6.toInt ≥ 224 := jb_lt_n (rfl) ((by decide)) c_52
              refine lv_iconst (v := 2) hx hb dX0_decoded_52 (by decide) ?_
              refine lv_goto (tgt := 57) hx hb dX0_decoded_53 (by decide) ?_
              exact C57 2 _ _ hh (by first | omega | (refine ⟨?_, ?_⟩ <;> (first | omega | rfl | assumption | decide | exact Or.inl rfl | exact Or.inr rfl | (simp only; omega)))) _ (lv_sub hl [1, 2, 3, 0] rfl)
          · skip
            have c_51' : z_6.toInt ≥ 240 := jb_lt_n (rfl) ((by decide)) c_51
            refine lv_iconst (v := 3) hx hb dX0_decoded_41 (by decide) ?_
            refine lv_goto (tgt := 57) hx hb dX0_decoded_42 (by decide) ?_
            exact C57 3 _ _ hh (by first | omega | (refine ⟨?_, ?_⟩ <;> (first | omega | rfl | assumption | decide | exact Or.inl rfl | exact Or.inr rfl | (simp only; omega)))) _ (lv_sub hl [1, 2, 3, 0] rfl)
        · skip
          have c_7' : z_6.toInt < 128 := jb_ge_n (rfl) ((by decide)) c_7
          refine lv_iload_n hx hb dX0_decoded_32 rfl (lv_at hl 0 rfl) ?_
          rw [hQ]
          exact W.iret (v := z_6) hx hb hr (fun t ht hW => ⟨⟨z_6, (), rfl, trivial, hh.rt (M1 := []) [] rfl ht⟩, by rw [ht]; try exact hh.1.1, fun q h9 hq => by rw [ht]; try exact hh.1.2.1 q h9 hq⟩) hh.1.2.2 dX0_decoded_33
      · skip
        have c_4' : a2.toInt > z_3.toInt := jb_le_n (rfl) (rfl) c_4
        refine lv_iconst (v := (-1)) hx hb dX0_decoded_15 (by decide) ?_
        rw [hQ]
        exact W.iret (v := (-1)) hx hb hr (fun t ht hW => ⟨⟨(-1), (), rfl, trivial, hh.rt (M1 := []) [] rfl ht⟩, by rw [ht]; try exact hh.1.1, fun q h9 hq => by rw [ht]; try exact hh.1.2.1 q h9 hq⟩) hh.1.2.2 dX0_decoded_16
set_option maxHeartbeats 4000000 in
set_option maxRecDepth 20000 in
theorem uX1_decodeT (l : Launch) (dC : Nat → ClassId) (dI : Nat → Nat → Nat) (ca : Nat → ClassId) (base : Nat) (B : jF) (hB : jBok B) (hAp : jAp (dC, dI)) (hB3 : ∀ n G a H, B 3 n G a H ↔ jOb (dC, dI) 3 17 (F3 n G) a H) (hB100 : ∀ n G a H, B 100 n G a H ↔ jAr (dC, dI) (ca 0) (fun j z => True) n a H) (hB101 : ∀ n G a H, B 101 n G a H ↔ jAr (dC, dI) (ca 1) (fun j z => True) n a H) (hB196 : ∀ n G a H, B 196 n G a H ↔ jAr (dC, dI) (ca 0) (fun j z => jBf j z) n a H) (G0 : jT) (H0 : Heap) (r0 : Nat) (r1 : Nat) (a2 : Int32) (n0 : Nat) (n1 : Nat) : Met l yX1_decode (jw yX1_decode cX1_decode 7 (some .boolean)) ({ frames := 1, cells := 0, slots := 0, locals := 27 }) (va_Pc [.ref r0, .ref r1, .int a2] (fun U => U.heap = H0 ∧ jX B base G0 [] H0 ∧ jG dC dI ca base U ∧ G0 r0 = some (3, n0) ∧ G0 r1 = some (196, n1) ∧ jP (dC, dI) G0 H0 [] ∧ n1 < 1000000 ∧ 0 ≤ a2.toInt ∧ a2.toInt ≤ 1000000)) (va_Qi (S := Int32) (fun r u => (r = 0 ∨ r = 1) ∧ (0 ≤ u.toInt ∧ u.toInt ≤ 1500 ∧ u.toInt ≤ a2.toInt + 3)) (fun u t => jRt (dC, dI) B base G0 EX1_decodeT H0 [(r0, 3, 3, .int u)] t.heap) (jA base)) 0 0 (jA base) := by
  refine Met.ofW (cc := cX1_decode) (maxL := 7) (ret := (some .boolean)) (by decide) rfl ?_
  intro p e s m args below meth c s₁ Bd hml hv
  obtain ⟨rfl, hH0, hX, hG, hg_r0, hg_r1, hP0, hp0, hp1, hp2⟩ := hv
  have hK := hG.1
  have hx := Bd.exec
  have hb := Bd.bytes
  have hr := Bd.returns
  have hts := atoms_spec (ws := (jw yX1_decode cX1_decode 7 (some .boolean))) Bd.pre
  have htw : ∀ w ∈ jWl, w.before _ s = true := fun w h => hts w (List.mem_cons_of_mem _ h)
  have hown : s.vm.findClass RX1 = some m.cls := findClass_of_methodNamed Bd.named
  have hlocks := Bd.notSynchronized
  obtain ⟨Q, hQ⟩ : ∃ Q, Q = MQ below (va_Qi (S := Int32) (fun r u => (r = 0 ∨ r = 1) ∧ (0 ≤ u.toInt ∧ u.toInt ≤ 1500 ∧ u.toInt ≤ a2.toInt + 3)) (fun u t => jRt (dC, dI) B base G0 EX1_decodeT H0 [(r0, 3, 3, .int u)] t.heap) (jA base)) ([.ref r0, .ref r1, .int a2] : List Value).toArray s 0 0 (jA base) := ⟨_, rfl⟩
  rw [← hQ]
  have hl := lv_entry ([.ref r0, .ref r1, .int a2]) (n := 7) (Nat.le_of_ble_eq_true rfl)
  rw [lg_entry_eq]
  generalize (lg_sl ([.ref r0, .ref r1, .int a2]) ++ List.replicate (7 - (lg_sl ([.ref r0, .ref r1, .int a2])).length) Slot.unset).toArray = ls at hl ⊢
  have hl : lv_has ls 7 [(0, .ref r0), (1, .ref r1), (2, .int a2)] := hl
  generalize hR : (headSpec (jw yX1_decode cX1_decode 7 (some .boolean)) ({ frames := 1, cells := 0, slots := 0, locals := 27 })).room = R
  subst hH0
  have hh : jSt (dC, dI) B base G0 G0 EX1_decodeT s.heap 0 0 [] [] [] s.heap [] := jSt.start hX hP0 jMc.nil jIs.nil
  clear hX hP0
  have hk0 : (0 : Int32).toInt = 0 := by decide
  have hk1 : (1 : Int32).toInt = 1 := by decide
  have hk2 : (2 : Int32).toInt = 2 := by decide
  have hk10 : (10 : Int32).toInt = 10 := by decide
  have hk1023 : (1023 : Int32).toInt = 1023 := by decide
  have hk1500 : (1500 : Int32).toInt = 1500 := by decide
  have hk55296 : (55296 : Int32).toInt = 55296 := by decide
  have hk56320 : (56320 : Int32).toInt = 56320 := by decide
  have hk65533 : (65533 : Int32).toInt = 65533 := by decide
  have hk65536 : (65536 : Int32).toInt = 65536 := by decide
  have hly_3_2 := htw (u_lay RX1 TX1 2) (jWc_wsX10 _ (u_in_lay (by decide)))
  have hly_3_3 := htw (u_lay RX1 TX1 3) (jWc_wsX10 _ (u_in_lay (by decide)))
  have hlk_42 := (htw (.fieldLink RX1 42 "ProofServer$Document" "length" "I") (jWr_29 _ (List.mem_of_getElem? (i := 5) rfl)))
  have hcs_65 := htw (.constant RX1 65 65536) (jWr_93 _ (List.mem_of_getElem? (i := 20) rfl))
  have hlk_15 := (htw (.fieldLink RX1 15 "ProofServer$Document" "text" "[I") (jWr_10 _ (List.mem_of_getElem? (i := 6) rfl)))
  have hcs_66 := htw (.constant RX1 66 55296) (jWr_93 _ (List.mem_of_getElem? (i := 21) rfl))
  have hcs_67 := htw (.constant RX1 67 56320) (jWr_93 _ (List.mem_of_getElem? (i := 22) rfl))
  have hcs_68 := htw (.constant RX1 68 65533) (jWr_93 _ (List.mem_of_getElem? (i := 23) rfl))
  have hrg_a2 := jb_rng a2
  refine lv_aload_n hx hb dX1_decode_0 rfl (lv_at hl 0 rfl) ?_
  refine lv_iconst (v := 0) hx hb dX1_decode_1 (by decide) ?_
  refine j7_put hx hb hown hK hh hB hAp hB3 (C := RX1) (T := TX1) (N := 17) rfl (by decide) hg_r0 (i := 3) (by decide) hly_3_3 rfl hlk_42 rfl (ty := .int) (v := .int 0) (by decide +kernel) rfl rfl (⟨_, rfl, by omega, by omega⟩) rfl (L1 := []) [] rfl rfl rfl dX1_decode_2 (fun H_1 locs_1 hh_1 => ?_)
  clear hh
  refine lv_iconst (v := 0) hx hb dX1_decode_5 (by decide) ?_
  refine lv_istore_n (lv' := [(3, .int 0), (0, .ref r0), (1, .ref r1), (2, .int a2)]) hx hb dX1_decode_6 rfl hl (by decide) rfl (fun ls hl => ?_)
  refine lv_iconst (v := 0) hx hb dX1_decode_7 (by decide) ?_
  refine lv_istore (lv' := [(4, .int 0), (3, .int 0), (0, .ref r0), (1, .ref r1), (2, .int a2)]) hx hb dX1_decode_8 hl (by decide) rfl (fun ls hl => ?_)
  have L10 : ∀ (N : Nat) (v3_2 : Int32) (v4_2 : Int32) (wl_2 : Int32) (H_2 : Heap) (locs_2 : List Loc), jSt (dC, dI) B base G0 G0 EX1_decodeT s.heap 0 0 [(r0, 3, 3, .int wl_2)] [] [] H_2 locs_2 → (0 ≤ v4_2.toInt ∧ 0 ≤ v3_2.toInt ∧ v3_2.toInt ≤ a2.toInt + 3 ∧ 0 ≤ wl_2.toInt ∧ wl_2.toInt ≤ 1500 ∧ wl_2.toInt ≤ v3_2.toInt) → (((a2.toInt - v4_2.toInt).toNat : Int) : Int) < N → ∀ ls : Array Slot, lv_has ls 7 [(0, .ref r0), (1, .ref r1), (2, .int a2), (3, .int v3_2), (4, .int v4_2)] → W p l e R s m ([.ref r0, .ref r1, .int a2] : List Value).toArray below meth c H_2 locs_2 0 0 Q (F0 m 10 ls []) := by
    intro N
    induction N with
    | zero => intro v3_2 v4_2 wl_2 H_2 locs_2 hh_2  hi_2 hm; exact absurd hm (by omega)
    | succ N L10 =>
      intro v3_2 v4_2 wl_2 H_2 locs_2 hh_2  hi_2 hm_2 ls hl
      obtain ⟨hi_2_0, hi_2_1, hi_2_2, hi_2_3, hi_2_4, hi_2_5⟩ := hi_2
      refine lv_iload hx hb dX1_decode_10 (lv_at hl 4 rfl) ?_
      refine lv_iload_n hx hb dX1_decode_12 rfl (lv_at hl 2 rfl) ?_
      refine lv_icmp_ge (tgt := 165) hx hb dX1_decode_13 (by decide) (fun c_3 => ?_) (fun c_3 => ?_)
      · skip
        have c_3' : v4_2.toInt ≥ a2.toInt := jb_ge (rfl) (rfl) c_3
        refine lv_iconst (v := 1) hx hb dX1_decode_165 (by decide) ?_
        rw [hQ]
        exact W.zret (v := 1) hx hb hr (jb_nz (Or.inr rfl)) (fun t ht hW => ⟨⟨1, wl_2, rfl, ⟨(Or.inr rfl), by first | omega | (refine ⟨?_, ?_, ?_⟩ <;> (first | omega | rfl | assumption | decide | exact Or.inl rfl | exact Or.inr rfl | (simp only; omega)))⟩, hh_2.rt (M1 := [(r0, 3, 3, .int wl_2)]) [0] rfl ht⟩, by rw [ht]; try exact hh_2.1.1, fun q h9 hq => by rw [ht]; try exact hh_2.1.2.1 q h9 hq⟩) hh_2.1.2.2 dX1_decode_166
      · skip
        have c_3' : v4_2.toInt < a2.toInt := jb_ge_n (rfl) (rfl) c_3
        refine lv_iload_n hx hb dX1_decode_16 rfl (lv_at hl 3 rfl) ?_
        refine lv_iload_n hx hb dX1_decode_17 rfl (lv_at hl 2 rfl) ?_
        refine lv_icmp_ge (tgt := 165) hx hb dX1_decode_18 (by decide) (fun c_4 => ?_) (fun c_4 => ?_)
        · skip
          have c_4' : v3_2.toInt ≥ a2.toInt := jb_ge (rfl) (rfl) c_4
          refine lv_iconst (v := 1) hx hb dX1_decode_165 (by decide) ?_
          rw [hQ]
          exact W.zret (v := 1) hx hb hr (jb_nz (Or.inr rfl)) (fun t ht hW => ⟨⟨1, wl_2, rfl, ⟨(Or.inr rfl), by first | omega | (refine ⟨?_, ?_, ?_⟩ <;> (first | omega | rfl | assumption | decide | exact Or.inl rfl | exact Or.inr rfl | (simp only; omega)))⟩, hh_2.rt (M1 := [(r0, 3, 3, .int wl_2)]) [0] rfl ht⟩, by rw [ht]; try exact hh_2.1.1, fun q h9 hq => by rw [ht]; try exact hh_2.1.2.1 q h9 hq⟩) hh_2.1.2.2 dX1_decode_166
        · skip
          have c_4' : v3_2.toInt < a2.toInt := jb_ge_n (rfl) (rfl) c_4
          refine lv_aload_n hx hb dX1_decode_21 rfl (lv_at hl 1 rfl) ?_
          refine lv_iload_n hx hb dX1_decode_22 rfl (lv_at hl 3 rfl) ?_
          refine lv_iload_n hx hb dX1_decode_23 rfl (lv_at hl 2 rfl) ?_
          refine va_calli (A0 := jA base) (H0 := s.heap) (va_runS (As := [.ref r1, .int v3_2, .int a2]) (rest := []) ⟨hx, hb, hml, hown, hts⟩ (uX0_decodedT l dC dI ca base B hB hAp hB196 G0 H_2 r1 v3_2 a2 n1) (va_cwS 3 hts (jgS (jWr_94 _ (List.mem_of_getElem? (i := 0) rfl)) (jWr_20 _ (List.mem_of_getElem? (i := 13) rfl)) (jWr_1 _ (List.mem_of_getElem? (i := 14) rfl)) (jWr_20 _ (List.mem_of_getElem? (i := 14) rfl))) rfl rfl rfl (by decide +kernel) ⟨by rw [← hR]; exact Nat.le_of_ble_eq_true rfl, by rw [← hR]; exact Nat.le_of_ble_eq_true rfl⟩) ⟨fun a U g mk q => by obtain ⟨q0, q1, q2, qK, q10, q11, q12⟩ := q; exact ⟨q0, q1, q2, jG.calling g mk a qK, q10, q11, q12⟩, fun U hU hW => ⟨rfl, hU, hh_2.2.1, hG.step hW hU hh_2.1, hg_r1, jP.nil, by first | omega | (refine ⟨?_, ?_⟩ <;> (first | omega | rfl | assumption | decide | exact Or.inl rfl | exact Or.inr rfl | (simp only; omega)))⟩⟩ rfl rfl hl.1 rfl (lv_room (Nat.le_of_ble_eq_true rfl)) dX1_decode_24 ⟨Nat.zero_le _, Nat.zero_le _⟩) hh_2.1 (fun q _ h => h) (fun q h => h) (fun r_6 u_5 t_5 H_5 locs_5 ht_5 hvm_5 hr_6 hb_5 hz_5 hk_5 hS_5 => ?_)
          rw [ht_5] at hb_5
          obtain ⟨hb_51, hb_52, hb_53, hb_54, hb_55⟩ := hb_5
          have hh_5 : jSt (dC, dI) B base G0 G0 EX1_decodeT s.heap 0 0 [(r0, 3, 3, .int wl_2)] [] [] H_5 locs_5 := ((hh_2.call hb_51 hb_52 hb_53 hb_54 hS_5 rfl (L1 := [(r0, 3, 3, .int wl_2)]) [0] rfl rfl (M1 := []) [] rfl rfl (I1 := []) [] rfl rfl).more hb_55)
          clear hh_2 ht_5 hvm_5 hz_5 hk_5 hS_5 hb_51 hb_52 hb_53 hb_54 hb_55
          refine lv_istore (lv' := [(5, .int r_6), (0, .ref r0), (1, .ref r1), (2, .int a2), (3, .int v3_2), (4, .int v4_2)]) hx hb dX1_decode_27 hl (by decide) rfl (fun ls hl => ?_)
          refine lv_iload_n hx hb dX1_decode_29 rfl (lv_at hl 4 rfl) ?_
          refine lv_iload hx hb dX1_decode_30 (lv_at hl 0 rfl) ?_
          have C44 : ∀ (w0_7 : Int32) (H_7 : Heap) (locs_7 : List Loc), jSt (dC, dI) B base G0 G0 EX1_decodeT s.heap 0 0 [(r0, 3, 3, .int wl_2)] [] [] H_7 locs_7 → (1 ≤ w0_7.toInt ∧ w0_7.toInt ≤ 4 ∧ (r_6.toInt < 65536 ∨ 2 ≤ w0_7.toInt)) → ∀ ls : Array Slot, lv_has ls 7 [(0, .ref r0), (1, .ref r1), (2, .int a2), (3, .int v3_2), (4, .int v4_2), (5, .int r_6)] → W p l e R s m ([.ref r0, .ref r1, .int a2] : List Value).toArray below meth c H_7 locs_7 0 0 Q (F0 m 44 ls [.int w0_7, .int v3_2]) := by
            intro w0_7 H_7 locs_7 hh_7  hi_7 ls hl
            obtain ⟨hi_7_0, hi_7_1, hi_7_2⟩ := hi_7
            refine lv_iadd hx hb dX1_decode_44 ?_
            refine lv_topi (fun z_8 ez_8 => ?_)
            have hz_8 : z_8.toInt = v3_2.toInt + w0_7.toInt := by rw [ez_8]; exact jb_iadd2 (rfl) (rfl) (by omega)
            refine lv_istore_n (lv' := [(3, .int z_8), (0, .ref r0), (1, .ref r1), (2, .int a2), (4, .int v4_2), (5, .int r_6)]) hx hb dX1_decode_45 rfl hl (by decide) rfl (fun ls hl => ?_)
            refine lv_iload hx hb dX1_decode_46 (lv_at hl 5 rfl) ?_
            refine lv_ldc hx hb hown hcs_65 dX1_decode_48 ?_
            have C58 : ∀ (w0_9 : Int32) (H_9 : Heap) (locs_9 : List Loc), jSt (dC, dI) B base G0 G0 EX1_decodeT s.heap 0 0 [(r0, 3, 3, .int wl_2)] [] [] H_9 locs_9 → (1 ≤ w0_9.toInt ∧ w0_9.toInt ≤ 2 ∧ (w0_9.toInt = 1 ∨ 65536 ≤ r_6.toInt)) → ∀ ls : Array Slot, lv_has ls 7 [(0, .ref r0), (1, .ref r1), (2, .int a2), (3, .int z_8), (4, .int v4_2), (5, .int r_6)] → W p l e R s m ([.ref r0, .ref r1, .int a2] : List Value).toArray below meth c H_9 locs_9 0 0 Q (F0 m 58 ls [.int w0_9]) := by
              intro w0_9 H_9 locs_9 hh_9  hi_9 ls hl
              obtain ⟨hi_9_0, hi_9_1, hi_9_2⟩ := hi_9
              refine lv_istore (lv' := [(6, .int w0_9), (0, .ref r0), (1, .ref r1), (2, .int a2), (3, .int z_8), (4, .int v4_2), (5, .int r_6)]) hx hb dX1_decode_58 hl (by decide) rfl (fun ls hl => ?_)
              refine lv_aload_n hx hb dX1_decode_60 rfl (lv_at hl 1 rfl) ?_
              refine j7_read hx hb hown hK (C := RX1) (T := TX1) (N := 17) rfl hly_3_3 hlk_42 (hh_9.at 0 rfl) dX1_decode_61 ?_
              refine lv_iload hx hb dX1_decode_64 (lv_at hl 0 rfl) ?_
              refine lv_iadd hx hb dX1_decode_66 ?_
              refine lv_topi (fun z_10 ez_10 => ?_)
              have hz_10 : z_10.toInt = wl_2.toInt + w0_9.toInt := by rw [ez_10]; exact jb_iadd2 (rfl) (rfl) (by omega)
              refine lv_sipush (v := 1500) hx hb dX1_decode_67 (by decide) ?_
              refine lv_icmp_le (tgt := 75) hx hb dX1_decode_70 (by decide) (fun c_11 => ?_) (fun c_11 => ?_)
              · skip
                have c_11' : z_10.toInt ≤ 1500 := jb_le (rfl) ((by decide)) c_11
                refine lv_iload hx hb dX1_decode_75 (lv_at hl 0 rfl) ?_
                refine lv_iconst (v := 2) hx hb dX1_decode_77 (by decide) ?_
                refine lv_icmp_ne (tgt := 127) hx hb dX1_decode_78 (by decide) (fun c_12 => ?_) (fun c_12 => ?_)
                · skip
                  have c_12' : w0_9.toInt ≠ 2 := jb_ne (rfl) ((by decide)) c_12
                  refine lv_aload_n hx hb dX1_decode_127 rfl (lv_at hl 1 rfl) ?_
                  obtain ⟨v_13, hv_13, hh_14⟩ := hh_9.pin (C := RX1) (T := TX1) (N := 17) hB3 rfl (by decide) hg_r0 (i := 2) (by decide) rfl
                  clear hh_9
                  obtain ⟨text_15, rfl, hg_text_15⟩ := hv_13
                  refine j7_read hx hb hown hK (C := RX1) (T := TX1) (N := 17) rfl hly_3_2 hlk_15 (hh_14.at 0 rfl) dX1_decode_128 ?_
                  refine lv_aload_n hx hb dX1_decode_131 rfl (lv_at hl 1 rfl) ?_
                  refine j7_read hx hb hown hK (C := RX1) (T := TX1) (N := 17) rfl hly_3_3 hlk_42 (hh_14.at 1 rfl) dX1_decode_132 ?_
                  refine lv_iload hx hb dX1_decode_135 (lv_at hl 6 rfl) ?_
                  refine lv_if_ge (tgt := 145) hx hb dX1_decode_137 (by decide) (fun c_16 => ?_) (fun c_16 => ?_)
                  · skip
                    have c_16' : r_6.toInt ≥ 0 := jb_ge (rfl) ((by decide)) c_16
                    refine lv_iload hx hb dX1_decode_145 (lv_at hl 6 rfl) ?_
                    refine j7_iast hx hb hK hh_14 hB hB101 1 rfl (by decide) (by decide) rfl rfl rfl hg_text_15 (x := wl_2.toInt) (rfl) (by omega) (trivial) dX1_decode_147 (fun H_17 locs_17 hh_17 => ?_)
                    clear hh_14
                    refine lv_aload_n hx hb dX1_decode_148 rfl (lv_at hl 1 rfl) ?_
                    refine lv_dup hx hb dX1_decode_149 rfl ?_
                    refine j7_read hx hb hown hK (C := RX1) (T := TX1) (N := 17) rfl hly_3_3 hlk_42 (hh_17.at 1 rfl) dX1_decode_150 ?_
                    refine lv_iload hx hb dX1_decode_153 (lv_at hl 0 rfl) ?_
                    refine lv_iadd hx hb dX1_decode_155 ?_
                    refine lv_topi (fun z_18 ez_18 => ?_)
                    have hz_18 : z_18.toInt = wl_2.toInt + w0_9.toInt := by rw [ez_18]; exact jb_iadd2 (rfl) (rfl) (by omega)
                    refine j7_put hx hb hown hK hh_17 hB hAp hB3 (C := RX1) (T := TX1) (N := 17) rfl (by decide) hg_r0 (i := 3) (by decide) hly_3_3 rfl hlk_42 rfl (ty := .int) (v := .int z_18) (by decide +kernel) rfl rfl (⟨_, rfl, by omega, by omega⟩) rfl (L1 := [(r0, 3, 2, .ref text_15)]) [0] rfl rfl rfl dX1_decode_156 (fun H_19 locs_19 hh_19 => ?_)
                    clear hh_17
                    obtain ⟨z_20, ez_20⟩ : ∃ y : Int32, y = v4_2 + 1 := ⟨_, rfl⟩
                    refine lv_iinc (v := z_20) (lv' := [(4, .int z_20), (6, .int w0_9), (0, .ref r0), (1, .ref r1), (2, .int a2), (3, .int z_8), (5, .int r_6)]) hx hb dX1_decode_159 hl (k := 5) rfl (by rw [ez_20]; rfl) (by decide) rfl (fun ls hl => ?_)
                    have hz_20 : z_20.toInt = v4_2.toInt + 1 := by rw [ez_20]; exact jb_iadd2 (rfl) (by decide) (by omega)
                    refine lv_goto (tgt := 10) hx hb dX1_decode_162 (by decide) ?_
                    exact L10 z_8 z_20 z_18 _ _ (hh_19.sub (L1 := [(r0, 3, 3, .int z_18)]) [0] rfl (M1 := []) [] rfl (I1 := []) [] rfl) (by first | omega | (refine ⟨?_, ?_, ?_, ?_, ?_, ?_⟩ <;> (first | omega | rfl | assumption | decide | exact Or.inl rfl | exact Or.inr rfl | (simp only; omega)))) (by omega) _ (lv_sub hl [2, 3, 4, 5, 0] rfl)
                  · skip
                    have c_16' : r_6.toInt < 0 := jb_ge_n (rfl) ((by decide)) c_16
                    refine lv_ldc hx hb hown hcs_68 dX1_decode_140 ?_
                    refine lv_goto (tgt := 147) hx hb dX1_decode_142 (by decide) ?_
                    refine j7_iast hx hb hK hh_14 hB hB101 1 rfl (by decide) (by decide) rfl rfl rfl hg_text_15 (x := wl_2.toInt) (rfl) (by omega) (trivial) dX1_decode_147 (fun H_21 locs_21 hh_21 => ?_)
                    clear hh_14
                    refine lv_aload_n hx hb dX1_decode_148 rfl (lv_at hl 1 rfl) ?_
                    refine lv_dup hx hb dX1_decode_149 rfl ?_
                    refine j7_read hx hb hown hK (C := RX1) (T := TX1) (N := 17) rfl hly_3_3 hlk_42 (hh_21.at 1 rfl) dX1_decode_150 ?_
                    refine lv_iload hx hb dX1_decode_153 (lv_at hl 0 rfl) ?_
                    refine lv_iadd hx hb dX1_decode_155 ?_
                    refine lv_topi (fun z_22 ez_22 => ?_)
                    have hz_22 : z_22.toInt = wl_2.toInt + w0_9.toInt := by rw [ez_22]; exact jb_iadd2 (rfl) (rfl) (by omega)
                    refine j7_put hx hb hown hK hh_21 hB hAp hB3 (C := RX1) (T := TX1) (N := 17) rfl (by decide) hg_r0 (i := 3) (by decide) hly_3_3 rfl hlk_42 rfl (ty := .int) (v := .int z_22) (by decide +kernel) rfl rfl (⟨_, rfl, by omega, by omega⟩) rfl (L1 := [(r0, 3, 2, .ref text_15)]) [0] rfl rfl rfl dX1_decode_156 (fun H_23 locs_23 hh_23 => ?_)
                    clear hh_21
                    obtain ⟨z_24, ez_24⟩ : ∃ y : Int32, y = v4_2 + 1 := ⟨_, rfl⟩
                    refine lv_iinc (v := z_24) (lv' := [(4, .int z_24), (6, .int w0_9), (0, .ref r0), (1, .ref r1), (2, .int a2), (3, .int z_8), (5, .int r_6)]) hx hb dX1_decode_159 hl (k := 5) rfl (by rw [ez_24]; rfl) (by decide) rfl (fun ls hl => ?_)
                    have hz_24 : z_24.toInt = v4_2.toInt + 1 := by rw [ez_24]; exact jb_iadd2 (rfl) (by decide) (by omega)
                    refine lv_goto (tgt := 10) hx hb dX1_decode_162 (by decide) ?_
                    exact L10 z_8 z_24 z_22 _ _ (hh_23.sub (L1 := [(r0, 3, 3, .int z_22)]) [0] rfl (M1 := []) [] rfl (I1 := []) [] rfl) (by first | omega | (refine ⟨?_, ?_, ?_, ?_, ?_, ?_⟩ <;> (first | omega | rfl | assumption | decide | exact Or.inl rfl | exact Or.inr rfl | (simp only; omega)))) (by omega) _ (lv_sub hl [2, 3, 4, 5, 0] rfl)
                · skip
                  have c_12' : w0_9.toInt = 2 := jb_ne_n (rfl) ((by decide)) c_12
                  refine lv_aload_n hx hb dX1_decode_81 rfl (lv_at hl 1 rfl) ?_
                  obtain ⟨v_25, hv_25, hh_26⟩ := hh_9.pin (C := RX1) (T := TX1) (N := 17) hB3 rfl (by decide) hg_r0 (i := 2) (by decide) rfl
                  clear hh_9
                  obtain ⟨text_27, rfl, hg_text_27⟩ := hv_25
                  refine j7_read hx hb hown hK (C := RX1) (T := TX1) (N := 17) rfl hly_3_2 hlk_15 (hh_26.at 0 rfl) dX1_decode_82 ?_
                  refine lv_aload_n hx hb dX1_decode_85 rfl (lv_at hl 1 rfl) ?_
                  refine j7_read hx hb hown hK (C := RX1) (T := TX1) (N := 17) rfl hly_3_3 hlk_42 (hh_26.at 1 rfl) dX1_decode_86 ?_
                  refine lv_ldc hx hb hown hcs_66 dX1_decode_89 ?_
                  refine lv_iload hx hb dX1_decode_91 (lv_at hl 6 rfl) ?_
                  refine lv_ldc hx hb hown hcs_65 dX1_decode_93 ?_
                  refine lv_isub hx hb dX1_decode_95 ?_
                  refine lv_topi (fun z_28 ez_28 => ?_)
                  refine lv_bipush (v := 10) hx hb dX1_decode_96 (by decide) ?_
                  refine lv_ishr hx hb dX1_decode_98 ?_
                  refine lv_topi (fun z_29 ez_29 => ?_)
                  have hz_29 : z_29.toInt = z_28.toInt / 2 ^ 10 := by rw [ez_29]; exact jb_ishr 10 (rfl) (by decide)
                  refine lv_iadd hx hb dX1_decode_99 ?_
                  refine lv_topi (fun z_30 ez_30 => ?_)
                  refine j7_iast hx hb hK hh_26 hB hB101 1 rfl (by decide) (by decide) rfl rfl rfl hg_text_27 (x := wl_2.toInt) (rfl) (by omega) (trivial) dX1_decode_100 (fun H_31 locs_31 hh_31 => ?_)
                  clear hh_26
                  refine lv_aload_n hx hb dX1_decode_101 rfl (lv_at hl 1 rfl) ?_
                  refine j7_read hx hb hown hK (C := RX1) (T := TX1) (N := 17) rfl hly_3_2 hlk_15 (hh_31.at 0 rfl) dX1_decode_102 ?_
                  refine lv_aload_n hx hb dX1_decode_105 rfl (lv_at hl 1 rfl) ?_
                  refine j7_read hx hb hown hK (C := RX1) (T := TX1) (N := 17) rfl hly_3_3 hlk_42 (hh_31.at 1 rfl) dX1_decode_106 ?_
                  refine lv_iconst (v := 1) hx hb dX1_decode_109 (by decide) ?_
                  refine lv_iadd hx hb dX1_decode_110 ?_
                  refine lv_topi (fun z_32 ez_32 => ?_)
                  have hz_32 : z_32.toInt = wl_2.toInt + 1 := by rw [ez_32]; exact jb_iadd2 (rfl) ((by decide)) (by omega)
                  refine lv_ldc hx hb hown hcs_67 dX1_decode_111 ?_
                  refine lv_iload hx hb dX1_decode_113 (lv_at hl 6 rfl) ?_
                  refine lv_ldc hx hb hown hcs_65 dX1_decode_115 ?_
                  refine lv_isub hx hb dX1_decode_117 ?_
                  refine lv_topi (fun z_33 ez_33 => ?_)
                  refine lv_sipush (v := 1023) hx hb dX1_decode_118 (by decide) ?_
                  refine lv_iand hx hb dX1_decode_121 ?_
                  refine lv_topi (fun z_34 ez_34 => ?_)
                  have hz_34 : 0 ≤ z_34.toInt ∧ z_34.toInt ≤ 1023 := by rw [ez_34]; exact jb_and z_33 (m := 1023) (k := 10) (by decide) (by decide)
                  refine lv_iadd hx hb dX1_decode_122 ?_
                  refine lv_topi (fun z_35 ez_35 => ?_)
                  refine j7_iast hx hb hK hh_31 hB hB101 1 rfl (by decide) (by decide) rfl rfl rfl hg_text_27 (x := z_32.toInt) (rfl) (by omega) (trivial) dX1_decode_123 (fun H_36 locs_36 hh_36 => ?_)
                  clear hh_31
                  refine lv_goto (tgt := 148) hx hb dX1_decode_124 (by decide) ?_
                  refine lv_aload_n hx hb dX1_decode_148 rfl (lv_at hl 1 rfl) ?_
                  refine lv_dup hx hb dX1_decode_149 rfl ?_
                  refine j7_read hx hb hown hK (C := RX1) (T := TX1) (N := 17) rfl hly_3_3 hlk_42 (hh_36.at 1 rfl) dX1_decode_150 ?_
                  refine lv_iload hx hb dX1_decode_153 (lv_at hl 0 rfl) ?_
                  refine lv_iadd hx hb dX1_decode_155 ?_
                  refine lv_topi (fun z_37 ez_37 => ?_)
                  have hz_37 : z_37.toInt = wl_2.toInt + w0_9.toInt := by rw [ez_37]; exact jb_iadd2 (rfl) (rfl) (by omega)
                  refine j7_put hx hb hown hK hh_36 hB hAp hB3 (C := RX1) (T := TX1) (N := 17) rfl (by decide) hg_r0 (i := 3) (by decide) hly_3_3 rfl hlk_42 rfl (ty := .int) (v := .int z_37) (by decide +kernel) rfl rfl (⟨_, rfl, by omega, by omega⟩) rfl (L1 := [(r0, 3, 2, .ref text_27)]) [0] rfl rfl rfl dX1_decode_156 (fun H_38 locs_38 hh_38 => ?_)
                  clear hh_36
                  obtain ⟨z_39, ez_39⟩ : ∃ y : Int32, y = v4_2 + 1 := ⟨_, rfl⟩
                  refine lv_iinc (v := z_39) (lv' := [(4, .int z_39), (6, .int w0_9), (0, .ref r0), (1, .ref r1), (2, .int a2), (3, .int z_8), (5, .int r_6)]) hx hb dX1_decode_159 hl (k := 5) rfl (by rw [ez_39]; rfl) (by decide) rfl (fun ls hl => ?_)
                  have hz_39 : z_39.toInt = v4_2.toInt + 1 := by rw [ez_39]; exact jb_iadd2 (rfl) (by decide) (by omega)
                  refine lv_goto (tgt := 10) hx hb dX1_decode_162 (by decide) ?_
                  exact L10 z_8 z_39 z_37 _ _ (hh_38.sub (L1 := [(r0, 3, 3, .int z_37)]) [0] rfl (M1 := []) [] rfl (I1 := []) [] rfl) (by first | omega | (refine ⟨?_, ?_, ?_, ?_, ?_, ?_⟩ <;> (first | omega | rfl | assumption | decide | exact Or.inl rfl | exact Or.inr rfl | (simp only; omega)))) (by omega) _ (lv_sub hl [2, 3, 4, 5, 0] rfl)
              · skip
                have c_11' : z_10.toInt > 1500 := jb_le_n (rfl) ((by decide)) c_11
                refine lv_iconst (v := 0) hx hb dX1_decode_73 (by decide) ?_
                rw [hQ]
                exact W.zret (v := 0) hx hb hr (jb_nz (Or.inl rfl)) (fun t ht hW => ⟨⟨0, wl_2, rfl, ⟨(Or.inl rfl), by first | omega | (refine ⟨?_, ?_, ?_⟩ <;> (first | omega | rfl | assumption | decide | exact Or.inl rfl | exact Or.inr rfl | (simp only; omega)))⟩, hh_9.rt (M1 := [(r0, 3, 3, .int wl_2)]) [0] rfl ht⟩, by rw [ht]; try exact hh_9.1.1, fun q h9 hq => by rw [ht]; try exact hh_9.1.2.1 q h9 hq⟩) hh_9.1.2.2 dX1_decode_74
            refine lv_icmp_lt (tgt := 57) hx hb dX1_decode_50 (by decide) (fun c_40 => ?_) (fun c_40 => ?_)
            · skip
              have c_40' : r_6.toInt < 65536 := jb_lt (rfl) ((by decide)) c_40
              refine lv_iconst (v := 1) hx hb dX1_decode_57 (by decide) ?_
              exact C58 1 _ _ hh_7 (by first | omega | (refine ⟨?_, ?_, ?_⟩ <;> (first | omega | rfl | assumption | decide | exact Or.inl rfl | exact Or.inr rfl | (simp only; omega)))) _ (lv_sub hl [1, 2, 3, 0, 4, 5] rfl)
            · skip
              have c_40' : r_6.toInt ≥ 65536 := jb_lt_n (rfl) ((by decide)) c_40
              refine lv_iconst (v := 2) hx hb dX1_decode_53 (by decide) ?_
              refine lv_goto (tgt := 58) hx hb dX1_decode_54 (by decide) ?_
              exact C58 2 _ _ hh_7 (by first | omega | (refine ⟨?_, ?_, ?_⟩ <;> (first | omega | rfl | assumption | decide | exact Or.inl rfl | exact Or.inr rfl | (simp only; omega)))) _ (lv_sub hl [1, 2, 3, 0, 4, 5] rfl)
          refine lv_if_ge (tgt := 39) hx hb dX1_decode_32 (by decide) (fun c_41 => ?_) (fun c_41 => ?_)
          · skip
            have c_41' : r_6.toInt ≥ 0 := jb_ge (rfl) ((by decide)) c_41
            refine lv_iload hx hb dX1_decode_39 (lv_at hl 0 rfl) ?_
            refine va_calli (A0 := jA base) (H0 := s.heap) (va_runS (As := [.int r_6]) (rest := [.int v3_2]) ⟨hx, hb, hml, hown, hts⟩ (uX0_decodedSizeD l dC dI ca base B hB hAp G0 H_5 r_6) (va_cwS 1 hts (jgS (jWr_94 _ (List.mem_of_getElem? (i := 1) rfl)) (jWr_22 _ (List.mem_of_getElem? (i := 1) rfl)) (jWr_1 _ (List.mem_of_getElem? (i := 14) rfl)) (jWr_22 _ (List.mem_of_getElem? (i := 2) rfl))) rfl rfl rfl (by decide +kernel) ⟨by rw [← hR]; exact Nat.le_of_ble_eq_true rfl, by rw [← hR]; exact Nat.le_of_ble_eq_true rfl⟩) ⟨fun a U g mk q => by obtain ⟨q0, q1, q2, qK, q10, q11⟩ := q; exact ⟨q0, q1, q2, jG.calling g mk a qK, q10, q11⟩, fun U hU hW => ⟨rfl, hU, hh_5.2.1, hG.step hW hU hh_5.1, jP.nil, trivial⟩⟩ rfl rfl hl.1 rfl (lv_room (Nat.le_of_ble_eq_true rfl)) dX1_decode_41 ⟨Nat.zero_le _, Nat.zero_le _⟩) hh_5.1 (fun q _ h => h) (fun q h => h) (fun r_43 u_42 t_42 H_42 locs_42 ht_42 hvm_42 hr_43 hb_42 hz_42 hk_42 hS_42 => ?_)
            rw [ht_42] at hb_42
            obtain ⟨hb_421, hb_422, hb_423, hb_424, hb_425⟩ := hb_42
            have hh_42 : jSt (dC, dI) B base G0 G0 EX1_decodeT s.heap 0 0 [(r0, 3, 3, .int wl_2)] [] [] H_42 locs_42 := ((hh_5.call hb_421 hb_422 hb_423 hb_424 hS_42 rfl (L1 := [(r0, 3, 3, .int wl_2)]) [0] rfl rfl (M1 := []) [] rfl rfl (I1 := []) [] rfl rfl).more hb_425)
            clear hh_5 ht_42 hvm_42 hz_42 hk_42 hS_42 hb_421 hb_422 hb_423 hb_424 hb_425
            obtain ⟨hr_43_0, hr_43_1, hr_43_2⟩ := hr_43
            exact C44 r_43 _ _ hh_42 (by first | omega | (refine ⟨?_, ?_, ?_⟩ <;> (first | omega | rfl | assumption | decide | exact Or.inl rfl | exact Or.inr rfl | (simp only; omega)))) _ (lv_sub hl [1, 2, 3, 4, 5, 0] rfl)
          · skip
            have c_41' : r_6.toInt < 0 := jb_ge_n (rfl) ((by decide)) c_41
            refine lv_iconst (v := 1) hx hb dX1_decode_35 (by decide) ?_
            refine lv_goto (tgt := 44) hx hb dX1_decode_36 (by decide) ?_
            exact C44 1 _ _ hh_5 (by first | omega | (refine ⟨?_, ?_, ?_⟩ <;> (first | omega | rfl | assumption | decide | exact Or.inl rfl | exact Or.inr rfl | (simp only; omega)))) _ (lv_sub hl [1, 2, 3, 4, 5, 0] rfl)
  exact L10 (((a2.toInt - (0 : Int32).toInt).toNat : Int) : Int).toNat.succ 0 0 0 _ _ hh_1 (by first | omega | (refine ⟨?_, ?_, ?_, ?_, ?_, ?_⟩ <;> (first | omega | rfl | assumption | decide | exact Or.inl rfl | exact Or.inr rfl | (simp only; omega)))) (by omega) _ (lv_sub hl [2, 3, 4, 1, 0] rfl)
set_option maxHeartbeats 4000000 in
set_option maxRecDepth 20000 in
theorem uX11_batch (l : Launch) (dC : Nat → ClassId) (dI : Nat → Nat → Nat) (ca : Nat → ClassId) (base : Nat) (B : jF) (hB : jBok B) (hAp : jAp (dC, dI)) (hB2 : ∀ n G a H, B 2 n G a H ↔ jOb (dC, dI) 2 2 (F2 n G) a H) (hB3 : ∀ n G a H, B 3 n G a H ↔ jOb (dC, dI) 3 17 (F3 n G) a H) (hB5 : ∀ n G a H, B 5 n G a H ↔ jOb (dC, dI) 5 4 (F5 n G) a H) (hB7 : ∀ n G a H, B 7 n G a H ↔ jOb (dC, dI) 7 11 (F7 n G) a H) (hB8 : ∀ n G a H, B 8 n G a H ↔ jOb (dC, dI) 8 4 (F8 n G) a H) (hB11 : ∀ n G a H, B 11 n G a H ↔ jOb (dC, dI) 11 9 (F11 n G) a H) (hB12 : ∀ n G a H, B 12 n G a H ↔ jOb (dC, dI) 12 11 (F12b n G) a H) (hB13 : ∀ n G a H, B 13 n G a H ↔ jOb (dC, dI) 13 19 (F13 n G) a H) (hB100 : ∀ n G a H, B 100 n G a H ↔ jAr (dC, dI) (ca 0) (fun j z => True) n a H) (hB101 : ∀ n G a H, B 101 n G a H ↔ jAr (dC, dI) (ca 1) (fun j z => True) n a H) (hB102 : ∀ n G a H, B 102 n G a H ↔ jAl (dC, dI) (ca 2) n a H) (hB132 : ∀ n G a H, B 132 n G a H ↔ jAr (dC, dI) (ca 1) (fun j z => 0 ≤ z.toInt ∧ z.toInt ≤ 10) n a H) (hB133 : ∀ n G a H, B 133 n G a H ↔ jAr (dC, dI) (ca 1) (fun j z => 0 ≤ z.toInt ∧ z.toInt ≤ 8192) n a H) (hB171 : ∀ n G a H, B 171 n G a H ↔ jAr (dC, dI) (ca 1) (fun j z => 0 ≤ z.toInt ∧ z.toInt ≤ 1500) n a H) (hB172 : ∀ n G a H, B 172 n G a H ↔ jAr (dC, dI) (ca 1) (fun j z => 0 ≤ z.toInt ∧ z.toInt ≤ 1500) n a H) (hB196 : ∀ n G a H, B 196 n G a H ↔ jAr (dC, dI) (ca 0) (fun j z => jBf j z) n a H) (hB210 : ∀ n G a H, B 210 n G a H ↔ jAq (dC, dI) (ca 6) (jQn 11 0) n G a H) (hB211 : ∀ n G a H, B 211 n G a H ↔ jAq (dC, dI) (ca 7) (jQh) n G a H) (hB214 : ∀ n G a H, B 214 n G a H ↔ jAq (dC, dI) (ca 7) (jQg) n G a H) (hB280 : ∀ n G a H, B 280 n G a H ↔ jAr (dC, dI) (ca 1) (fun j z => -1 ≤ z.toInt) n a H) (hB290 : ∀ n G a H, B 290 n G a H ↔ jAr (dC, dI) (ca 1) (fun j z => 0 ≤ z.toInt ∧ z.toInt ≤ 3000) n a H) (hB291 : ∀ n G a H, B 291 n G a H ↔ jAr (dC, dI) (ca 1) (fun j z => 0 ≤ z.toInt ∧ z.toInt ≤ 3000) n a H) (hB292 : ∀ n G a H, B 292 n G a H ↔ jAr (dC, dI) (ca 1) (fun j z => 0 ≤ z.toInt ∧ z.toInt ≤ 8191) n a H) (hB293 : ∀ n G a H, B 293 n G a H ↔ jAr (dC, dI) (ca 1) (fun j z => -1 ≤ z.toInt ∧ z.toInt ≤ 8191) n a H) (hB313 : ∀ n G a H, B 313 n G a H ↔ jAq (dC, dI) (ca 8) (jQk 280 80) n G a H) (hB315 : ∀ n G a H, B 315 n G a H ↔ jAqZ (dC, dI) (ca 8) n a H) (G0 : jT) (H0 : Heap) (r0 : Nat) (a1 : Int32) (ta : Nat) (pt : Int32) (pr : Nat) (n_pr : Nat) (ph : Nat) (LC LS : Nat) : Met l yX11_batch (jw yX11_batch cX11_batch 5 (some .int)) ({ frames := 71, cells := LC - H0.size, slots := LS - jTot H0, locals := 2283 }) (va_Pc [.ref r0, .int a1] (fun U => U.heap = H0 ∧ jX B base G0 [] H0 ∧ jG dC dI ca base U ∧ jK2 dC dI ca U ∧ jK5 dC dI ca U ∧ jK6 U ∧ jK8 U ∧ G0 r0 = some (13, 0) ∧ G0 ta = some (2, 4000) ∧ G0 pr = some (196, n_pr) ∧ jP (dC, dI) G0 H0 [(r0, 13, 0, .ref ta), (ta, 2, 1, .int pt), (ta, 2, 0, .ref pr)] ∧ jIs (dC, dI) G0 H0 [(jFy, jYb dC dI G0), (jFs11, jSef dC dI G0), (jFdo, jDcc dC dI ca G0 none ph)] ∧ H0.size + 1100 ≤ LC ∧ jTot H0 + 35000 ≤ LS ∧ 0 ≤ pt.toInt ∧ pt.toInt ≤ 4000 ∧ n_pr = 4000)) (va_Qi (S := Int32 × Nat × jT) (fun r u => (((a1.toInt < 0 ∨ pt.toInt < a1.toInt) ∧ u.1.toInt = pt.toInt ∨ 0 ≤ a1.toInt ∧ a1.toInt ≤ pt.toInt ∧ u.1.toInt = 0) ∧ u.2.1 ≤ ph + 1500)) (fun u t => jRa (dC, dI) B base G0 u.2.2 EX11_batch H0 (8 + 24 * (pt.toInt.toNat + 3)) (1720 + 185 * (pt.toInt.toNat + 3)) [(ta, 2, 1, .int u.1)] t.heap ∧ (jNk [0, 1, 2, 4, 6, 7, 8, 9, 10, 12, 13, 14, 15, 16]) G0 u.2.2 ∧ jOl (dC, dI) G0 2 [ta] H0 t.heap ∧ jIs (dC, dI) u.2.2 t.heap [(jFy, jYb dC dI u.2.2), (jFs11, jSef dC dI u.2.2), (jFdo, jDcc dC dI ca u.2.2 none (u.2.1))]) (jA base)) (LC - H0.size) (LS - jTot H0) (jA base) := by
  refine Met.ofW (cc := cX11_batch) (maxL := 5) (ret := (some .int)) (by decide) rfl ?_
  intro p e s m args below meth c s₁ Bd hml hv
  obtain ⟨rfl, hH0, hX, hG, hK2, hK5, hK6, hK8, hg_r0, hg_ta, hg_pr, hP0, hI0, hLC0, hLS0, hp0, hp1, hp2⟩ := hv
  have hK := hG.1
  have hx := Bd.exec
  have hb := Bd.bytes
  have hr := Bd.returns
  have hts := atoms_spec (ws := (jw yX11_batch cX11_batch 5 (some .int))) Bd.pre
  have htw : ∀ w ∈ jWl, w.before _ s = true := fun w h => hts w (List.mem_cons_of_mem _ h)
  have hown : s.vm.findClass RX11 = some m.cls := findClass_of_methodNamed Bd.named
  have hlocks := Bd.notSynchronized
  obtain ⟨Q, hQ⟩ : ∃ Q, Q = MQ below (va_Qi (S := Int32 × Nat × jT) (fun r u => (((a1.toInt < 0 ∨ pt.toInt < a1.toInt) ∧ u.1.toInt = pt.toInt ∨ 0 ≤ a1.toInt ∧ a1.toInt ≤ pt.toInt ∧ u.1.toInt = 0) ∧ u.2.1 ≤ ph + 1500)) (fun u t => jRa (dC, dI) B base G0 u.2.2 EX11_batch H0 (8 + 24 * (pt.toInt.toNat + 3)) (1720 + 185 * (pt.toInt.toNat + 3)) [(ta, 2, 1, .int u.1)] t.heap ∧ (jNk [0, 1, 2, 4, 6, 7, 8, 9, 10, 12, 13, 14, 15, 16]) G0 u.2.2 ∧ jOl (dC, dI) G0 2 [ta] H0 t.heap ∧ jIs (dC, dI) u.2.2 t.heap [(jFy, jYb dC dI u.2.2), (jFs11, jSef dC dI u.2.2), (jFdo, jDcc dC dI ca u.2.2 none (u.2.1))]) (jA base)) ([.ref r0, .int a1] : List Value).toArray s (LC - H0.size) (LS - jTot H0) (jA base) := ⟨_, rfl⟩
  rw [← hQ]
  have hl := lv_entry ([.ref r0, .int a1]) (n := 5) (Nat.le_of_ble_eq_true rfl)
  rw [lg_entry_eq]
  generalize (lg_sl ([.ref r0, .int a1]) ++ List.replicate (5 - (lg_sl ([.ref r0, .int a1])).length) Slot.unset).toArray = ls at hl ⊢
  have hl : lv_has ls 5 [(0, .ref r0), (1, .int a1)] := hl
  generalize hR : (headSpec (jw yX11_batch cX11_batch 5 (some .int)) ({ frames := 71, cells := LC - H0.size, slots := LS - jTot H0, locals := 2283 })).room = R
  subst hH0
  have hh : jSt (dC, dI) B base G0 G0 EX11_batch s.heap 0 0 [(r0, 13, 0, .ref ta), (ta, 2, 1, .int pt), (ta, 2, 0, .ref pr)] [] [(jFy, jYb dC dI G0), (jFs11, jSef dC dI G0), (jFdo, jDcc dC dI ca G0 none ph)] s.heap [] := jSt.start hX hP0 jMc.nil hI0
  clear hX hP0
  have hkm2 : ((-2) : Int32).toInt = (-2) := by decide
  have hkm1 : ((-1) : Int32).toInt = (-1) := by decide
  have hk0 : (0 : Int32).toInt = 0 := by decide
  have hk1 : (1 : Int32).toInt = 1 := by decide
  have hly_2_0 := htw (u_lay RX0 TX0 0) (jWc_wsX00 _ (u_in_lay (by decide)))
  have hly_2_1 := htw (u_lay RX0 TX0 1) (jWc_wsX00 _ (u_in_lay (by decide)))
  have hly_3_2 := htw (u_lay RX1 TX1 2) (jWc_wsX10 _ (u_in_lay (by decide)))
  have hly_3_4 := htw (u_lay RX1 TX1 4) (jWc_wsX10 _ (u_in_lay (by decide)))
  have hly_3_5 := htw (u_lay RX1 TX1 5) (jWc_wsX10 _ (u_in_lay (by decide)))
  have hly_3_6 := htw (u_lay RX1 TX1 6) (jWc_wsX10 _ (u_in_lay (by decide)))
  have hly_3_8 := htw (u_lay RX1 TX1 8) (jWc_wsX10 _ (u_in_lay (by decide)))
  have hly_3_9 := htw (u_lay RX1 TX1 9) (jWc_wsX10 _ (u_in_lay (by decide)))
  have hly_7_1 := htw (u_lay RX5 TX5 1) (jWc_wsX50 _ (u_in_lay (by decide)))
  have hly_7_2 := htw (u_lay RX5 TX5 2) (jWc_wsX50 _ (u_in_lay (by decide)))
  have hly_13_0 := htw (u_lay RX11 TX11 0) (jWc_wsX110 _ (u_in_lay (by decide)))
  have hly_13_5 := htw (u_lay RX11 TX11 5) (jWc_wsX110 _ (u_in_lay (by decide)))
  have hly_13_15 := htw (u_lay RX11 TX11 15) (jWc_wsX110 _ (u_in_lay (by decide)))
  have hly_13_16 := htw (u_lay RX11 TX11 16) (jWc_wsX110 _ (u_in_lay (by decide)))
  have hly_13_18 := htw (u_lay RX11 TX11 18) (jWc_wsX110 _ (u_in_lay (by decide)))
  have hlk_14 := (htw (.fieldLink RX11 14 "ProofServer" "tape" "LProofServer$Bytes;") (jWr_1 _ (List.mem_of_getElem? (i := 15) rfl)))
  have hlk_92 := (htw (.fieldLink RX11 92 "ProofServer$Bytes" "count" "I") (jWr_15 _ (List.mem_of_getElem? (i := 18) rfl)))
  have hlk_82 := (htw (.fieldLink RX11 82 "ProofServer" "spare" "LProofServer$Document;") (jWr_2 _ (List.mem_of_getElem? (i := 22) rfl)))
  have hlk_98 := (htw (.fieldLink RX11 98 "ProofServer$Bytes" "row" "[B") (jWr_17 _ (List.mem_of_getElem? (i := 7) rfl)))
  have hlk_200 := (htw (.fieldLink RX11 200 "ProofServer" "latest" "LProofServer$Document;") (jWr_93 _ (List.mem_of_getElem? (i := 14) rfl)))
  have hlk_89 := (htw (.fieldLink RX11 89 "ProofServer" "shownOf" "I") (jWr_3 _ (List.mem_of_getElem? (i := 0) rfl)))
  have hlk_41 := (htw (.fieldLink RX11 41 "ProofServer" "kernel" "LProofServer$Kernel;") (jWr_2 _ (List.mem_of_getElem? (i := 5) rfl)))
  have hlk_203 := (htw (.fieldLink RX11 203 "ProofServer$Kernel" "syntax" "LProofServer$Syntax;") (jWr_35 _ (List.mem_of_getElem? (i := 16) rfl)))
  have hlk_168 := (htw (.fieldLink RX11 168 "ProofServer$Document" "sentences" "I") (jWr_35 _ (List.mem_of_getElem? (i := 4) rfl)))
  have hlk_174 := (htw (.fieldLink RX11 174 "ProofServer$Document" "text" "[I") (jWr_77 _ (List.mem_of_getElem? (i := 15) rfl)))
  have hlk_182 := (htw (.fieldLink RX11 182 "ProofServer$Document" "starts" "[I") (jWr_40 _ (List.mem_of_getElem? (i := 13) rfl)))
  have hlk_185 := (htw (.fieldLink RX11 185 "ProofServer$Document" "ends" "[I") (jWr_40 _ (List.mem_of_getElem? (i := 14) rfl)))
  have hlk_178 := (htw (.fieldLink RX11 178 "ProofServer$Document" "behind" "[LProofServer$State;") (jWr_39 _ (List.mem_of_getElem? (i := 23) rfl)))
  have hlk_217 := (htw (.fieldLink RX11 217 "ProofServer$Kernel" "start" "LProofServer$State;") (jWr_30 _ (List.mem_of_getElem? (i := 6) rfl)))
  have hlk_225 := (htw (.fieldLink RX11 225 "ProofServer$Document" "early" "[I") (jWr_93 _ (List.mem_of_getElem? (i := 15) rfl)))
  have hrg_a1 := jb_rng a1
  have hbs : base ≤ s.heap.size := Nat.le_of_lt (Nat.lt_of_le_of_lt (hh.ab hg_r0).1 (hh.ab hg_r0).2)
  have hRc : R.cells = LC - s.heap.size := by rw [← hR]; rfl
  have hRs : R.slots = LS - jTot s.heap := by rw [← hR]; rfl
  have hh_1 := hh.addI (jOl.ie (dC := dC) (dI := dI) (G0 := G0) (k := 2) (rs := [ta]) (H0 := s.heap) (F := [(2, 0), (2, 1)]) (C := RX0) (T := TX0) (N := 2) rfl (by decide) hh.2.2.2.2.1 (jOl.rf))
  clear hh
  refine lv_iload_n hx hb dX11_batch_0 rfl (lv_at hl 1 rfl) ?_
  refine lv_if_lt (tgt := 15) hx hb dX11_batch_1 (by decide) (fun c_2 => ?_) (fun c_2 => ?_)
  · skip
    have c_2' : a1.toInt < 0 := jb_lt (rfl) ((by decide)) c_2
    refine lv_iconst (v := (-1)) hx hb dX11_batch_15 (by decide) ?_
    have hsz_3 := hh_1.2.2.2.2.2.1
    have htt_3 := hh_1.2.2.2.2.2.2.1
    refine W.room (fun hrc_3 hrs_3 => ?_)
    refine W.widen (k := LC - s.heap.size) (n := LS - jTot s.heap) (by omega) (by omega) ?_
    rw [hQ]
    exact W.iret (v := (-1)) hx hb hr (fun t ht hW => ⟨⟨(-1), (pt, ph, G0), rfl, by (try dsimp only); exact ⟨(by first | omega | rfl | assumption | fail), (by first | omega | rfl | assumption | fail)⟩, ⟨hh_1.ra (by first | omega | (simp only; omega)) (by first | omega | (simp only; omega)) (M1 := [(ta, 2, 1, .int pt)]) [1] rfl ht, jNk.rf, by rw [ht]; exact hh_1.iv 0 rfl, by rw [ht]; exact hh_1.2.2.2.2.2.2.2.2.sub (L1 := [(jFy, jYb dC dI G0), (jFs11, jSef dC dI G0), (jFdo, jDcc dC dI ca G0 none ph)]) [1, 2, 3] rfl⟩⟩, by rw [ht]; try exact hh_1.1.1, fun q h9 hq => by rw [ht]; try exact hh_1.1.2.1 q h9 hq⟩) hh_1.1.2.2 dX11_batch_16
  · skip
    have c_2' : a1.toInt ≥ 0 := jb_lt_n (rfl) ((by decide)) c_2
    refine lv_iload_n hx hb dX11_batch_4 rfl (lv_at hl 1 rfl) ?_
    refine lv_aload_n hx hb dX11_batch_5 rfl (lv_at hl 0 rfl) ?_
    refine j7_read hx hb hown hK (C := RX11) (T := TX11) (N := 19) rfl hly_13_0 hlk_14 (hh_1.at 0 rfl) dX11_batch_6 ?_
    refine j7_read hx hb hown hK (C := RX0) (T := TX0) (N := 2) rfl hly_2_1 hlk_92 (hh_1.at 1 rfl) dX11_batch_9 ?_
    refine lv_icmp_le (tgt := 17) hx hb dX11_batch_12 (by decide) (fun c_4 => ?_) (fun c_4 => ?_)
    · skip
      have c_4' : a1.toInt ≤ pt.toInt := jb_le (rfl) (rfl) c_4
      refine lv_aload_n hx hb dX11_batch_17 rfl (lv_at hl 0 rfl) ?_
      refine j7_read hx hb hown hK (C := RX11) (T := TX11) (N := 19) rfl hly_13_0 hlk_14 (hh_1.at 0 rfl) dX11_batch_18 ?_
      refine lv_iconst (v := 0) hx hb dX11_batch_21 (by decide) ?_
      have hd_6 := hh_1.iv 0 rfl
      have hd_7 := hh_1.iv 1 rfl
      have hh_8 := hh_1.sub (L1 := [(r0, 13, 0, .ref ta), (ta, 2, 1, .int pt), (ta, 2, 0, .ref pr)]) [0, 1, 2] rfl (M1 := []) [] rfl (I1 := [(jFs11, jSef dC dI G0), (jFdo, jDcc dC dI ca G0 none ph)]) [2, 3] rfl
      clear hh_1
      refine j7_putX hx hb hown hK hh_8 hB hAp hB2 (C := RX0) (T := TX0) (N := 2) rfl (by decide) hg_ta (i := 1) (by decide) hly_2_1 rfl hlk_92 rfl (ty := .int) (v := .int 0) (by decide +kernel) rfl rfl (⟨_, rfl, by omega, by omega, by omega⟩) rfl (L1 := [(r0, 13, 0, .ref ta), (ta, 2, 0, .ref pr)]) [0, 2] rfl rfl rfl dX11_batch_22 (fun H_5 locs_5 hr_5 hh_5 => ?_)
      clear hh_8
      have hd_7n := jYb.put hd_7 hr_5 hg_ta (fun h9 => by cases h9)
      have hd_6n := jOl.put hd_6 hr_5 (by simp)
      have hh_9 := hh_5.addI (jYb.ie hd_7n)
      clear hh_5
      have hh_10 := hh_9.addI (jOl.ie (dC := dC) (dI := dI) (G0 := G0) (k := 2) (rs := [ta]) (H0 := s.heap) (F := [(2, 0), (2, 1)]) (C := RX0) (T := TX0) (N := 2) rfl (by decide) hh_9.2.2.2.2.1 (hd_6n))
      clear hh_9
      clear hd_6 hd_6n hd_7 hd_7n hr_5
      refine lv_aload_n hx hb dX11_batch_25 rfl (lv_at hl 0 rfl) ?_
      obtain ⟨v_11, hv_11, hh_12⟩ := hh_10.pin (C := RX11) (T := TX11) (N := 19) hB13 rfl (by decide) hg_r0 (i := 15) (by decide) rfl
      clear hh_10
      obtain ⟨spare_13, rfl, hg_spare_13⟩ := hv_11
      refine j7_read hx hb hown hK (C := RX11) (T := TX11) (N := 19) rfl hly_13_15 hlk_82 (hh_12.at 0 rfl) dX11_batch_26 ?_
      refine lv_astore_n (lv' := [(2, .ref spare_13), (0, .ref r0), (1, .int a1)]) hx hb dX11_batch_29 rfl hl (by decide) rfl (fun ls hl => ?_)
      refine lv_aload_n hx hb dX11_batch_30 rfl (lv_at hl 0 rfl) ?_
      refine lv_aload_n hx hb dX11_batch_31 rfl (lv_at hl 1 rfl) ?_
      refine j7_read hx hb hown hK (C := RX11) (T := TX11) (N := 19) rfl hly_13_0 hlk_14 (hh_12.at 2 rfl) dX11_batch_32 ?_
      refine j7_read hx hb hown hK (C := RX0) (T := TX0) (N := 2) rfl hly_2_0 hlk_98 (hh_12.at 3 rfl) dX11_batch_35 ?_
      refine lv_iload_n hx hb dX11_batch_38 rfl (lv_at hl 2 rfl) ?_
      have hsz_14 := hh_12.2.2.2.2.2.1
      have htt_14 := hh_12.2.2.2.2.2.2.1
      refine W.room (fun hrc_14 hrs_14 => ?_)
      refine va_calli (A0 := jA base) (H0 := s.heap) (va_runV (As := [.ref pr, .int a1]) (rest := []) ⟨hx, hb, hml, hown, hts⟩ (uX1_decodeT l dC dI ca base B hB hAp hB3 hB100 hB101 hB196 G0 H_5 spare_13 pr a1 1 n_pr) (cwV 2 hts (jgV (jWr_93 _ (List.mem_of_getElem? (i := 16) rfl)) (jWr_93 _ (List.mem_of_getElem? (i := 17) rfl)) (jWr_93 _ (List.mem_of_getElem? (i := 18) rfl)) (jWr_2 _ (List.mem_of_getElem? (i := 21) rfl)) (jWr_93 _ (List.mem_of_getElem? (i := 19) rfl))) rfl rfl rfl (by decide +kernel) ⟨by rw [← hR]; exact Nat.le_of_ble_eq_true rfl, by rw [← hR]; exact Nat.le_of_ble_eq_true rfl⟩) ⟨fun a U g mk q => by obtain ⟨q0, q1, q2, qK, q10, q11, q12, q13⟩ := q; exact ⟨q0, q1, q2, jG.calling g mk a qK, q10, q11, q12, q13⟩, hh_12.recv (C := RX1) (T := TX1) (N := 17) hB3 rfl (by decide) hg_spare_13 hK, fun U hU hW => ⟨rfl, hU, hh_12.2.1, hG.step hW hU hh_12.1, hg_spare_13, hg_pr, jP.nil, by first | omega | (refine ⟨?_, ?_, ?_⟩ <;> (first | omega | rfl | assumption | decide | exact Or.inl rfl | exact Or.inr rfl | (simp only; omega)))⟩⟩ rfl rfl hl.1 rfl (lv_room (Nat.le_of_ble_eq_true rfl)) dX11_batch_39 ⟨by rw [hRc]; show _ + 0 ≤ _; omega, by rw [hRs]; show _ + 0 ≤ _; omega⟩) hh_12.1 (fun q _ h => h) (fun q h => h) (fun r_15 u_14 t_14 H_14 locs_14 ht_14 hvm_14 hr_15 hb_14 hz_14 hk_14 hS_14 => ?_)
      obtain ⟨ql_14, rfl⟩ : ∃ z, z = u_14 := ⟨_, rfl⟩
      rw [ht_14] at hb_14
      obtain ⟨hb_141, hb_142, hb_143, hb_144, hb_145⟩ := hb_14
      have hh_14 : jSt (dC, dI) B base G0 G0 EX11_batch s.heap 0 0 [(spare_13, 3, 3, .int ql_14), (r0, 13, 15, .ref spare_13), (ta, 2, 1, .int 0), (r0, 13, 0, .ref ta), (ta, 2, 0, .ref pr)] [] [([(2, 0), (2, 1)], jOl (dC, dI) G0 2 [ta] s.heap), (jFy, jYb dC dI G0), (jFs11, jSef dC dI G0), (jFdo, jDcc dC dI ca G0 none ph)] H_14 locs_14 := ((hh_12.call hb_141 hb_142 hb_143 hb_144 hS_14 rfl (L1 := [(r0, 13, 15, .ref spare_13), (ta, 2, 1, .int 0), (r0, 13, 0, .ref ta), (ta, 2, 0, .ref pr)]) [0, 1, 2, 3] rfl rfl (M1 := []) [] rfl rfl (I1 := [([(2, 0), (2, 1)], jOl (dC, dI) G0 2 [ta] s.heap), (jFy, jYb dC dI G0), (jFs11, jSef dC dI G0), (jFdo, jDcc dC dI ca G0 none ph)]) [0, 1, 2, 3] rfl rfl).more hb_145)
      clear hh_12 ht_14 hvm_14 hz_14 hk_14 hS_14 hb_141 hb_142 hb_143 hb_144 hb_145
      obtain ⟨hr_15b, hr_15p⟩ := hr_15
      obtain ⟨hr_15p_0, hr_15p_1, hr_15p_2⟩ := hr_15p
      have hr_15' := jb_01 hr_15b
      refine lv_if_ne (tgt := 48) hx hb dX11_batch_42 (by decide) (fun c_16 => ?_) (fun c_16 => ?_)
      · skip
        have c_16' : r_15.toInt ≠ 0 := jb_ne (rfl) ((by decide)) c_16
        refine lv_aload_n hx hb dX11_batch_48 rfl (lv_at hl 1 rfl) ?_
        refine lv_aload_n hx hb dX11_batch_49 rfl (lv_at hl 1 rfl) ?_
        obtain ⟨v_17, hv_17, hh_18⟩ := hh_14.pin (C := RX11) (T := TX11) (N := 19) hB13 rfl (by decide) hg_r0 (i := 16) (by decide) rfl
        clear hh_14
        rcases hv_17 with rfl | ⟨latest_19, rfl, hg_latest_19⟩
        · refine j7_read hx hb hown hK (C := RX11) (T := TX11) (N := 19) rfl hly_13_16 hlk_200 (hh_18.at 0 rfl) dX11_batch_50 ?_
          refine lv_ifnonnullN hx hb dX11_batch_53 ?_
          have hsz_20 := hh_18.2.2.2.2.2.1
          have htt_20 := hh_18.2.2.2.2.2.2.1
          refine j7_newo (k := 3) (C := RX1) (T := TX1) (N := 17) (fs := [.null, .int 0, .null, .int 0, .int 0, .null, .null, .null, .null, .null, .int 0, .null, .null, .int 0, .int 0, .int 0, .int 0]) hx hb htw jWc_wsX10 (fun k => ([(.array .int), .int, (.array .int), .int, .int, (.array .int), (.array .int), (.array .int), (.array .int), (.array (.object "ProofServer$State")), .int, (.array .int), (.object "ProofServer$State"), .int, .int, .int, .int] : List FieldType).getD k .int) (by decide +kernel) hown (htw (.classLink RX11 71 RX1) (jWr_2 _ (List.mem_of_getElem? (i := 17) rfl))) (htw (.instantiable RX1 17) (jWr_2 _ (List.mem_of_getElem? (i := 20) rfl))) (htw (.initialized RX1) (jWr_2 _ (List.mem_of_getElem? (i := 21) rfl))) hK rfl (fun j hj => by rcases (by omega : j = 0 ∨ j = 1 ∨ j = 2 ∨ j = 3 ∨ j = 4 ∨ j = 5 ∨ j = 6 ∨ j = 7 ∨ j = 8 ∨ j = 9 ∨ j = 10 ∨ j = 11 ∨ j = 12 ∨ j = 13 ∨ j = 14 ∨ j = 15 ∨ j = 16) with rfl | rfl | rfl | rfl | rfl | rfl | rfl | rfl | rfl | rfl | rfl | rfl | rfl | rfl | rfl | rfl | rfl <;> rfl) hh_18 hB (by rw [hRc]; omega) (by rw [hRs]; omega) dX11_batch_56 (fun H_20 hraw_20 hfr_20 hnr_20 hh_20 => ?_)
          have hke_20 : jKe G0 G0 H_14 H_20 := jKe.raw hfr_20
          have hbr_20 : base ≤ H_14.size := Nat.le_trans hbs hh_18.1.1
          have hsy_20 : s.heap.size ≤ H_14.size := hh_18.1.1
          clear hh_18
          refine lv_dup hx hb dX11_batch_59 rfl ?_
          have hsz_21 := hh_20.2.2.2.2.2.1
          have htt_21 := hh_20.2.2.2.2.2.2.1
          refine W.room (fun hrc_21 hrs_21 => ?_)
          refine va_callv (A0 := jA base) (H0 := s.heap) (va_runIN (As := []) (rest := [.ref H_14.size, .ref r0]) ⟨hx, hb, hml, hown, hts⟩ (uX1_initE l dC dI ca base B hB hAp hB3 hB11 hB101 hB171 hB172 hB210 G0 H_20 H_14.size 1 (ph) LC LS) ⟨va_cnB 0 hts (jgW (jWr_10 _ (List.mem_of_getElem? (i := 3) rfl))) rfl rfl rfl (hG.2.2.1 RX11 81 yX1_init "ProofServer" (List.mem_of_getElem? (i := 434) (by decide +kernel))) (htw (.initialized RX1) (jWr_2 _ (List.mem_of_getElem? (i := 21) rfl))) (by decide +kernel) ⟨by rw [← hR]; exact Nat.le_of_ble_eq_true rfl, by rw [← hR]; exact Nat.le_of_ble_eq_true rfl⟩, rfl, htw (.instanceMethod yX1_init) (jWr_10 _ (List.mem_of_getElem? (i := 2) rfl))⟩ ⟨fun a U g mk q => by obtain ⟨q0, q1, q2, qK, q10, q11, q12, q13, q14, q15, q16, q17⟩ := q; exact ⟨q0, q1, q2, jG.calling g mk a qK, (va_K.moved (Vm.Alike.refl U.vm) q10), (jK6.moved (Vm.Alike.refl U.vm) q11), q12, q13, q14, q15, q16, q17⟩, fun U hU hW => ⟨rfl, hU, hh_20.2.1, hG.step hW hU hh_20.1, va_K.moved hW.alike hK2, jK6.moved hW.alike hK6, hraw_20, hnr_20, hbr_20, jP.nil, (hh_20.2.2.2.2.2.2.2.2.sub (L1 := [(jFdo, jDcc dC dI ca G0 none ph)]) [3] rfl), (by omega), (by omega), trivial⟩⟩ rfl rfl hl.1 rfl (lv_room (Nat.le_of_ble_eq_true rfl)) dX11_batch_60 ⟨by rw [hRc]; omega, by rw [hRs]; omega⟩) hh_20.1 (fun q _ h => h) (fun q h => h) (fun u_21 t_21 H_21 locs_21 ht_21 hvm_21 hr_22 hb_21 hz_21 hk_21 hS_21 => ?_)
          rw [ht_21] at hb_21
          obtain ⟨G_21, rfl⟩ : ∃ z, z = u_21 := ⟨_, rfl⟩
          try simp only at hb_21
          obtain ⟨⟨hb_211, hb_212, hb_213, hb_214, hb_215, hb_216⟩, hN_21, hgc_21, hbX_21, hbE_21⟩ := hb_21
          have hM_21 := hN_21
          have hN_21 : (jNk [0, 1, 2, 4, 6, 7, 8, 9, 10, 12, 13, 14, 15, 16]) G0 G_21 := hN_21.sub (by decide)
          have hh_21 : jSt (dC, dI) B base G0 G_21 EX11_batch s.heap ((0 + 1) + (7)) ((0 + 17) + (1700)) [(r0, 13, 16, .null), (spare_13, 3, 3, .int ql_14), (r0, 13, 15, .ref spare_13), (ta, 2, 1, .int 0), (r0, 13, 0, .ref ta), (ta, 2, 0, .ref pr)] [] [([(2, 0), (2, 1)], jOl (dC, dI) G0 2 [ta] s.heap), (jFy, jYb dC dI G0), (jFs11, jSef dC dI G0)] H_21 locs_21 := (hh_20.callG hb_211 hb_212 hb_213 hb_214 hb_215 hS_21 rfl (L1 := [(r0, 13, 16, .null), (spare_13, 3, 3, .int ql_14), (r0, 13, 15, .ref spare_13), (ta, 2, 1, .int 0), (r0, 13, 0, .ref ta), (ta, 2, 0, .ref pr)]) [0, 1, 2, 3, 4, 5] rfl rfl (M1 := []) [] rfl rfl (I1 := [([(2, 0), (2, 1)], jOl (dC, dI) G0 2 [ta] s.heap), (jFy, jYb dC dI G0), (jFs11, jSef dC dI G0)]) [0, 1, 2] rfl rfl).more hb_216
          have hNn_21 : (jNk [0, 1, 2, 4, 6, 7, 8, 9, 10, 12, 13, 14, 15, 16]) G0 G_21 := (jNk.rf).tr hN_21
          have hg_23 := hb_212 _ _ hg_spare_13
          have hg_24 := hb_212 _ _ hg_r0
          have hg_25 := hb_212 _ _ hg_ta
          have hg_26 := hb_212 _ _ hg_pr
          have hd_27 := jYb.grow (hh_21.iv 1 rfl) hb_212 hN_21 (by decide)
          have hh_28 := hh_21.sub (L1 := [(r0, 13, 16, .null), (spare_13, 3, 3, .int ql_14), (r0, 13, 15, .ref spare_13), (ta, 2, 1, .int 0), (r0, 13, 0, .ref ta), (ta, 2, 0, .ref pr)]) [0, 1, 2, 3, 4, 5] rfl (M1 := []) [] rfl (I1 := [([(2, 0), (2, 1)], jOl (dC, dI) G0 2 [ta] s.heap), (jFs11, jSef dC dI G0)]) [0, 2] rfl
          clear hh_21
          have hh_29 := hh_28.addI (jYb.ie hd_27)
          clear hh_28
          have hd_30 := jSef.grow (hh_29.iv 2 rfl) hb_212 hM_21 (by decide)
          have hh_31 := hh_29.sub (L1 := [(r0, 13, 16, .null), (spare_13, 3, 3, .int ql_14), (r0, 13, 15, .ref spare_13), (ta, 2, 1, .int 0), (r0, 13, 0, .ref ta), (ta, 2, 0, .ref pr)]) [0, 1, 2, 3, 4, 5] rfl (M1 := []) [] rfl (I1 := [(jFy, jYb dC dI G_21), ([(2, 0), (2, 1)], jOl (dC, dI) G0 2 [ta] s.heap)]) [0, 1] rfl
          clear hh_29
          have hh_32 := hh_31.addI (jSef.ie hd_30)
          clear hh_31
          have hh_33 := hh_32.addIs hbE_21
          try simp only at hr_22
          refine lv_goto (tgt := 70) hx hb dX11_batch_63 (by decide) ?_
          refine j7_put hx hb hown hK hh_33 hB hAp hB13 (C := RX11) (T := TX11) (N := 19) rfl (by decide) hg_24 (i := 15) (by decide) hly_13_15 rfl hlk_82 rfl (ty := (.object "ProofServer$Document")) (v := .ref H_14.size) (by decide +kernel) rfl rfl (⟨_, rfl, hgc_21⟩) rfl (L1 := [(r0, 13, 16, .null), (spare_13, 3, 3, .int ql_14), (ta, 2, 1, .int 0), (r0, 13, 0, .ref ta), (ta, 2, 0, .ref pr)]) [0, 1, 3, 4, 5] rfl rfl rfl dX11_batch_70 (fun H_34 locs_34 hh_34 => ?_)
          clear hh_33
          refine lv_aload_n hx hb dX11_batch_73 rfl (lv_at hl 1 rfl) ?_
          refine lv_aload_n hx hb dX11_batch_74 rfl (lv_at hl 0 rfl) ?_
          refine j7_put hx hb hown hK hh_34 hB hAp hB13 (C := RX11) (T := TX11) (N := 19) rfl (by decide) hg_24 (i := 16) (by decide) hly_13_16 rfl hlk_200 rfl (ty := (.object "ProofServer$Document")) (v := .ref spare_13) (by decide +kernel) rfl rfl (Or.inr ⟨_, rfl, hg_23⟩) rfl (L1 := [(r0, 13, 15, .ref H_14.size), (spare_13, 3, 3, .int ql_14), (ta, 2, 1, .int 0), (r0, 13, 0, .ref ta), (ta, 2, 0, .ref pr)]) [0, 2, 3, 4, 5] rfl rfl rfl dX11_batch_75 (fun H_35 locs_35 hh_35 => ?_)
          clear hh_34
          refine lv_aload_n hx hb dX11_batch_78 rfl (lv_at hl 1 rfl) ?_
          refine lv_bipush (v := (-2)) hx hb dX11_batch_79 (by decide) ?_
          refine j7_put hx hb hown hK hh_35 hB hAp hB13 (C := RX11) (T := TX11) (N := 19) rfl (by decide) hg_24 (i := 18) (by decide) hly_13_18 rfl hlk_89 rfl (ty := .int) (v := .int (-2)) (by decide +kernel) rfl rfl (⟨_, rfl⟩) rfl (L1 := [(r0, 13, 16, .ref spare_13), (r0, 13, 15, .ref H_14.size), (spare_13, 3, 3, .int ql_14), (ta, 2, 1, .int 0), (r0, 13, 0, .ref ta), (ta, 2, 0, .ref pr)]) [0, 1, 2, 3, 4, 5] rfl rfl rfl dX11_batch_81 (fun H_36 locs_36 hh_36 => ?_)
          clear hh_35
          obtain ⟨yb_37, ye_37, w_37, pho_37, fb_37, fe_37, ps_37, pk_37, vc_37, hgb_37, hge_37, h5_37, h6_37, hd_37, hpq_37, hE_37, hpl_37, hpw_37⟩ := jDcc.opn (hh_36.iv 0 rfl) hg_23
          have hh_39 := hh_36.sub (L1 := [(r0, 13, 18, .int (-2)), (r0, 13, 16, .ref spare_13), (r0, 13, 15, .ref H_14.size), (spare_13, 3, 3, .int ql_14), (ta, 2, 1, .int 0), (r0, 13, 0, .ref ta), (ta, 2, 0, .ref pr)]) [0, 1, 2, 3, 4, 5, 6] rfl (M1 := []) [] rfl (I1 := [(jFs11, jSef dC dI G_21), (jFy, jYb dC dI G_21), ([(2, 0), (2, 1)], jOl (dC, dI) G0 2 [ta] s.heap)]) [1, 2, 3] rfl
          clear hh_36
          have hh_40 := (hh_39.more (P1 := [(spare_13, 3, 4, .int ps_37), (spare_13, 3, 10, .int pk_37), (spare_13, 3, 5, .ref yb_37), (spare_13, 3, 6, .ref ye_37)]) (jP.cons hg_23 (hd_37.1 _ (List.mem_of_getElem? (i := 0) rfl)).2 (jP.cons hg_23 (hd_37.1 _ (List.mem_of_getElem? (i := 1) rfl)).2 (jP.cons hg_23 h5_37 (jP.cons hg_23 h6_37 jP.nil))))).moreM hd_37.2.1
          have hh_41 := hh_40.addI (jDcc.ie hE_37)
          clear hh_40
          have hps_37 := hd_37.2.2.2
          have hsn_37 := hd_37.2.2.1
          obtain ⟨v_42, hv_42, hh_37⟩ := hh_41.pin (C := RX1) (T := TX1) (N := 17) hB3 rfl (by decide) hg_23 (i := 11) (by decide) rfl
          have hvq_37 : vc_37 = v_42 := jf.uniq (hd_37.1 _ (List.mem_of_getElem? (i := 2) rfl)).2 (hh_37.at 0 rfl)
          subst hvq_37
          clear hh_41
          rcases hv_42 with rfl | ⟨chk_43, nchk_43, rfl, hg_chk_43, hlen_chk_43⟩
          · skip
            refine lv_aload_n hx hb dX11_batch_84 rfl (lv_at hl 0 rfl) ?_
            refine lv_aload_n hx hb dX11_batch_85 rfl (lv_at hl 1 rfl) ?_
            obtain ⟨v_45, hv_45, hh_46⟩ := hh_37.pin (C := RX11) (T := TX11) (N := 19) hB13 rfl (by decide) hg_24 (i := 5) (by decide) rfl
            clear hh_37
            obtain ⟨kernel_47, rfl, hg_kernel_47⟩ := hv_45
            refine j7_read hx hb hown hK (C := RX11) (T := TX11) (N := 19) rfl hly_13_5 hlk_41 (hh_46.at 0 rfl) dX11_batch_86 ?_
            obtain ⟨v_48, hv_48, hh_49⟩ := hh_46.pin (C := RX5) (T := TX5) (N := 11) hB7 rfl (by decide) hg_kernel_47 (i := 1) (by decide) rfl
            clear hh_46
            obtain ⟨syntax_50, rfl, hg_syntax_50⟩ := hv_48
            refine j7_read hx hb hown hK (C := RX5) (T := TX5) (N := 11) rfl hly_7_1 hlk_203 (hh_49.at 0 rfl) dX11_batch_89 ?_
            have hsz_51 := hh_49.2.2.2.2.2.1
            have htt_51 := hh_49.2.2.2.2.2.2.1
            refine W.room (fun hrc_51 hrs_51 => ?_)
            refine va_callv (A0 := jA base) (H0 := s.heap) (va_runV (As := [.ref syntax_50]) (rest := []) ⟨hx, hb, hml, hown, hts⟩ (uX1_partE l dC dI ca base B hB hAp hB3 hB8 hB12 hB101 hB102 hB132 hB133 hB171 hB172 hB293 G_21 H_36 spare_13 syntax_50 1 ql_14 yb_37 ye_37 (pho_37) fb_37 fe_37) (cwV 1 hts (jgV (jWr_36 _ (List.mem_of_getElem? (i := 2) rfl)) (jWr_36 _ (List.mem_of_getElem? (i := 3) rfl)) (jWr_36 _ (List.mem_of_getElem? (i := 4) rfl)) (jWr_2 _ (List.mem_of_getElem? (i := 21) rfl)) (jWr_36 _ (List.mem_of_getElem? (i := 5) rfl))) rfl rfl rfl (by decide +kernel) ⟨by rw [← hR]; exact Nat.le_of_ble_eq_true rfl, by rw [← hR]; exact Nat.le_of_ble_eq_true rfl⟩) ⟨fun a U g mk q => by obtain ⟨q0, q1, q2, qK, q10, q11, q12, q13, q14, q15, q16, q17⟩ := q; exact ⟨q0, q1, q2, jG.calling g mk a qK, q10, q11, q12, q13, q14, q15, q16, q17⟩, hh_49.recv (C := RX1) (T := TX1) (N := 17) hB3 rfl (by decide) hg_23 hK, fun U hU hW => ⟨rfl, hU, hh_49.2.1, hG.step hW hU hh_49.1, hg_23, hg_syntax_50, hgb_37, hge_37, (hh_49.2.2.1.sub (L1 := [(spare_13, 3, 3, .int ql_14), (spare_13, 3, 5, .ref yb_37), (spare_13, 3, 6, .ref ye_37)]) [10, 5, 6] rfl), (hh_49.2.2.2.2.2.2.2.1.sub (L1 := [(yb_37, 171, 40, ca 1, fb_37), (ye_37, 172, 40, ca 1, fe_37)]) [0, 1] rfl), (hh_49.2.2.2.2.2.2.2.2.sub (L1 := [(jFdo, jDcc dC dI ca G_21 (some spare_13) pho_37)]) [0] rfl), by first | omega | (refine ⟨?_, ?_⟩ <;> (first | omega | rfl | assumption | decide | exact Or.inl rfl | exact Or.inr rfl | (simp only; omega)))⟩⟩ rfl rfl hl.1 rfl (lv_room (Nat.le_of_ble_eq_true rfl)) dX11_batch_92 ⟨by rw [hRc]; show _ + 0 ≤ _; omega, by rw [hRs]; show _ + 0 ≤ _; omega⟩) hh_49.1 (fun q _ h => h) (fun q h => h) (fun u_51 t_51 H_51 locs_51 ht_51 hvm_51 hr_52 hb_51 hz_51 hk_51 hS_51 => ?_)
            obtain ⟨qs_51, gb_51, ge_51⟩ := u_51
            rw [ht_51] at hb_51
            obtain ⟨hb_51, hbE_51⟩ := hb_51
            obtain ⟨hb_51, hbO_51⟩ := hb_51
            obtain ⟨⟨hb_511, hb_512, hb_513, hb_514, hb_515⟩, hb_516⟩ := hb_51
            have hh_51 : jSt (dC, dI) B base G0 G_21 EX11_batch s.heap ((0 + 1) + (7)) ((0 + 17) + (1700)) [(spare_13, 3, 4, .int qs_51), (kernel_47, 7, 1, .ref syntax_50), (r0, 13, 5, .ref kernel_47), (spare_13, 3, 11, .null), (spare_13, 3, 10, .int pk_37), (spare_13, 3, 5, .ref yb_37), (spare_13, 3, 6, .ref ye_37), (r0, 13, 18, .int (-2)), (r0, 13, 16, .ref spare_13), (r0, 13, 15, .ref H_14.size), (spare_13, 3, 3, .int ql_14), (ta, 2, 1, .int 0), (r0, 13, 0, .ref ta), (ta, 2, 0, .ref pr)] [(yb_37, 171, 40, ca 1, gb_51), (ye_37, 172, 40, ca 1, ge_51)] [(jFdo, jDcc dC dI ca G_21 (some spare_13) pho_37), (jFs11, jSef dC dI G_21), (jFy, jYb dC dI G_21), ([(2, 0), (2, 1)], jOl (dC, dI) G0 2 [ta] s.heap)] H_51 locs_51 := (((hh_49.call hb_511 hb_512 hb_513 hb_514 hS_51 rfl (L1 := [(kernel_47, 7, 1, .ref syntax_50), (r0, 13, 5, .ref kernel_47), (spare_13, 3, 11, .null), (spare_13, 3, 10, .int pk_37), (spare_13, 3, 5, .ref yb_37), (spare_13, 3, 6, .ref ye_37), (r0, 13, 18, .int (-2)), (r0, 13, 16, .ref spare_13), (r0, 13, 15, .ref H_14.size), (spare_13, 3, 3, .int ql_14), (ta, 2, 1, .int 0), (r0, 13, 0, .ref ta), (ta, 2, 0, .ref pr)]) [0, 1, 2, 4, 5, 6, 7, 8, 9, 10, 11, 12, 13] rfl rfl (M1 := []) [] rfl rfl (I1 := [(jFs11, jSef dC dI G_21), (jFy, jYb dC dI G_21), ([(2, 0), (2, 1)], jOl (dC, dI) G0 2 [ta] s.heap)]) [1, 2, 3] rfl rfl).more hb_515).moreM hb_516).addIs hbE_51
            clear hh_49 ht_51 hvm_51 hz_51 hk_51 hS_51 hb_511 hb_512 hb_513 hb_514 hb_515
            clear hb_516
            clear  hbE_51
            try simp only at hr_52
            obtain ⟨hr_52_0, hr_52_1, hr_52_2⟩ := hr_52
            obtain ⟨phn_53, hphn_53⟩ : ∃ q : Nat, q = pho_37 := ⟨_, rfl⟩
            have hF_53 := jDcc.full (ph1 := phn_53) (hh_51.iv 0 rfl) hg_23 (hh_51.at 5 rfl) (hh_51.at 6 rfl) ⟨(hh_51.2.2.1.sub (L1 := [(spare_13, 3, 4, .int qs_51), (spare_13, 3, 10, .int pk_37), (spare_13, 3, 11, .null)]) [0, 4, 3] rfl), (hh_51.2.2.2.2.2.2.2.1.sub (L1 := [(yb_37, 171, 40, ca 1, gb_51), (ye_37, 172, 40, ca 1, ge_51)]) [0, 1] rfl), (hr_52_2.mono (by omega)), by omega⟩ (w := (575 * (qs_51.toInt - pk_37.toInt) + (1500 - jEd ge_51 pk_37.toInt)).toNat) (fun h9 => absurd h9 (by decide)) (by omega) (fun h9 => absurd h9 (by decide))
            have hh_54 := hh_51.sub (L1 := [(spare_13, 3, 4, .int qs_51), (kernel_47, 7, 1, .ref syntax_50), (r0, 13, 5, .ref kernel_47), (spare_13, 3, 11, .null), (spare_13, 3, 10, .int pk_37), (spare_13, 3, 5, .ref yb_37), (spare_13, 3, 6, .ref ye_37), (r0, 13, 18, .int (-2)), (r0, 13, 16, .ref spare_13), (r0, 13, 15, .ref H_14.size), (spare_13, 3, 3, .int ql_14), (ta, 2, 1, .int 0), (r0, 13, 0, .ref ta), (ta, 2, 0, .ref pr)]) [0, 1, 2, 3, 4, 5, 6, 7, 8, 9, 10, 11, 12, 13] rfl (M1 := [(yb_37, 171, 40, ca 1, gb_51), (ye_37, 172, 40, ca 1, ge_51)]) [0, 1] rfl (I1 := [(jFs11, jSef dC dI G_21), (jFy, jYb dC dI G_21), ([(2, 0), (2, 1)], jOl (dC, dI) G0 2 [ta] s.heap)]) [1, 2, 3] rfl
            clear hh_51
            have hh_55 := hh_54.addI (jDcc.ie hF_53)
            clear hh_54
            refine lv_iconst (v := 0) hx hb dX11_batch_95 (by decide) ?_
            refine lv_istore_n (lv' := [(3, .int 0), (2, .ref spare_13), (0, .ref r0), (1, .int a1)]) hx hb dX11_batch_96 rfl hl (by decide) rfl (fun ls hl => ?_)
            have L97 : ∀ (N : Nat) (Gx_56 : jT) (zcx_56 : Nat) (zsx_56 : Nat) (v3_56 : Int32) (H_56 : Heap) (locs_56 : List Loc), jSt (dC, dI) B base G0 Gx_56 EX11_batch s.heap zcx_56 zsx_56 [(spare_13, 3, 4, .int qs_51), (kernel_47, 7, 1, .ref syntax_50), (r0, 13, 5, .ref kernel_47), (spare_13, 3, 11, .null), (spare_13, 3, 10, .int pk_37), (spare_13, 3, 5, .ref yb_37), (spare_13, 3, 6, .ref ye_37), (r0, 13, 18, .int (-2)), (r0, 13, 16, .ref spare_13), (r0, 13, 15, .ref H_14.size), (spare_13, 3, 3, .int ql_14), (ta, 2, 1, .int 0), (r0, 13, 0, .ref ta), (ta, 2, 0, .ref pr)] [(yb_37, 171, 40, ca 1, gb_51), (ye_37, 172, 40, ca 1, ge_51)] [(jFdo, jDcc dC dI ca Gx_56 none phn_53), (jFs11, jSef dC dI Gx_56), (jFy, jYb dC dI Gx_56), ([(2, 0), (2, 1)], jOl (dC, dI) G0 2 [ta] s.heap)] H_56 locs_56 → (jNk [0, 1, 2, 4, 6, 7, 8, 9, 10, 12, 13, 14, 15, 16]) G0 Gx_56 → jLe G_21 Gx_56 → (0 ≤ v3_56.toInt ∧ v3_56.toInt ≤ qs_51.toInt ∧ zcx_56 ≤ 8 + 24 * v3_56.toInt ∧ zsx_56 ≤ 1720 + 185 * jEd ge_51 v3_56.toInt) → (qs_51.toInt - v3_56.toInt : Int) < N → ∀ ls : Array Slot, lv_has ls 5 [(0, .ref r0), (1, .int a1), (2, .ref spare_13), (3, .int v3_56)] → W p l e R s m ([.ref r0, .int a1] : List Value).toArray below meth c H_56 locs_56 zcx_56 zsx_56 Q (F0 m 97 ls []) := by
              intro N
              induction N with
              | zero => intro Gx_56 zcx_56 zsx_56 v3_56 H_56 locs_56 hh_56 hN_56 hle_56 hi_56 hm; exact absurd hm (by omega)
              | succ N L97 =>
                intro Gx_56 zcx_56 zsx_56 v3_56 H_56 locs_56 hh_56 hN_56 hle_56 hi_56 hm_56 ls hl
                have hg_57 := hle_56 _ _ hg_24
                have hg_58 := hle_56 _ _ hg_23
                have hg_59 := hle_56 _ _ hg_syntax_50
                have hg_60 := hle_56 _ _ hg_kernel_47
                have hg_61 := hle_56 _ _ hgb_37
                have hg_62 := hle_56 _ _ hge_37
                have hg_63 := hle_56 _ _ hgc_21
                have hg_64 := hle_56 _ _ hg_25
                have hg_65 := hle_56 _ _ hg_26
                obtain ⟨hi_56_0, hi_56_1, hi_56_2, hi_56_3⟩ := hi_56
                have hql := jSn.le hr_52_2 (by omega)
                refine lv_iload_n hx hb dX11_batch_97 rfl (lv_at hl 3 rfl) ?_
                refine lv_aload_n hx hb dX11_batch_98 rfl (lv_at hl 2 rfl) ?_
                refine j7_read hx hb hown hK (C := RX1) (T := TX1) (N := 17) rfl hly_3_4 hlk_168 (hh_56.at 0 rfl) dX11_batch_99 ?_
                refine lv_icmp_ge (tgt := 165) hx hb dX11_batch_102 (by decide) (fun c_66 => ?_) (fun c_66 => ?_)
                · skip
                  have c_66' : v3_56.toInt ≥ qs_51.toInt := jb_ge (rfl) (rfl) c_66
                  have hjl := jEd.le hr_52_2 (k := v3_56.toInt) (by omega) (by omega) (by omega)
                  refine lv_aload_n hx hb dX11_batch_165 rfl (lv_at hl 2 rfl) ?_
                  refine j7_read hx hb hown hK (C := RX1) (T := TX1) (N := 17) rfl hly_3_4 hlk_168 (hh_56.at 0 rfl) dX11_batch_166 ?_
                  have hsz_67 := hh_56.2.2.2.2.2.1
                  have htt_67 := hh_56.2.2.2.2.2.2.1
                  refine W.room (fun hrc_67 hrs_67 => ?_)
                  refine W.widen (k := LC - s.heap.size) (n := LS - jTot s.heap) (by omega) (by omega) ?_
                  rw [hQ]
                  exact W.iret (v := qs_51) hx hb hr (fun t ht hW => ⟨⟨qs_51, (0, phn_53, Gx_56), rfl, by (try dsimp only); exact ⟨(by first | omega | rfl | assumption | fail), (by first | omega | rfl | assumption | fail)⟩, ⟨hh_56.ra (by first | omega | (simp only; omega)) (by first | omega | (simp only; omega)) (M1 := [(ta, 2, 1, .int 0)]) [11] rfl ht, hN_56, by rw [ht]; exact hh_56.iv 3 rfl, by rw [ht]; exact hh_56.2.2.2.2.2.2.2.2.sub (L1 := [(jFy, jYb dC dI Gx_56), (jFs11, jSef dC dI Gx_56), (jFdo, jDcc dC dI ca Gx_56 none phn_53)]) [2, 1, 0] rfl⟩⟩, by rw [ht]; try exact hh_56.1.1, fun q h9 hq => by rw [ht]; try exact hh_56.1.2.1 q h9 hq⟩) hh_56.1.2.2 dX11_batch_169
                · skip
                  have c_66' : v3_56.toInt < qs_51.toInt := jb_ge_n (rfl) (rfl) c_66
                  have hnb := jEd.nx (hr_52_2.mono (by omega) : jSn _ _ _ 1500) (k := v3_56.toInt) (by omega) (by omega)
                  refine lv_aload_n hx hb dX11_batch_105 rfl (lv_at hl 2 rfl) ?_
                  obtain ⟨v_68, hv_68, hh_69⟩ := hh_56.pin (C := RX1) (T := TX1) (N := 17) hB3 rfl (by decide) hg_58 (i := 2) (by decide) rfl
                  clear hh_56
                  obtain ⟨text_70, rfl, hg_text_70⟩ := hv_68
                  refine j7_read hx hb hown hK (C := RX1) (T := TX1) (N := 17) rfl hly_3_2 hlk_174 (hh_69.at 0 rfl) dX11_batch_106 ?_
                  refine lv_aload_n hx hb dX11_batch_109 rfl (lv_at hl 2 rfl) ?_
                  refine j7_read hx hb hown hK (C := RX1) (T := TX1) (N := 17) rfl hly_3_5 hlk_182 (hh_69.at 6 rfl) dX11_batch_110 ?_
                  refine lv_iload_n hx hb dX11_batch_113 rfl (lv_at hl 3 rfl) ?_
                  refine j7_ialdM hx hb hK hh_69 hB171 1 rfl (by decide) hg_61 (x := v3_56.toInt) (rfl) (by omega) (j := 0) rfl dX11_batch_114 (fun z_71 ez_71 (hz_71 : 0 ≤ z_71.toInt ∧ z_71.toInt ≤ 1500) => ?_)
                  have hqz_71 : z_71.toInt = jSo gb_51 (v3_56.toInt) := by unfold jSo; rw [ez_71]
                  refine lv_aload_n hx hb dX11_batch_115 rfl (lv_at hl 2 rfl) ?_
                  refine j7_read hx hb hown hK (C := RX1) (T := TX1) (N := 17) rfl hly_3_6 hlk_185 (hh_69.at 7 rfl) dX11_batch_116 ?_
                  refine lv_iload_n hx hb dX11_batch_119 rfl (lv_at hl 3 rfl) ?_
                  refine j7_ialdM hx hb hK hh_69 hB172 1 rfl (by decide) hg_62 (x := v3_56.toInt) (rfl) (by omega) (j := 1) rfl dX11_batch_120 (fun z_72 ez_72 (hz_72 : 0 ≤ z_72.toInt ∧ z_72.toInt ≤ 1500) => ?_)
                  have hqz_72 : z_72.toInt = jSo ge_51 (v3_56.toInt) := by unfold jSo; rw [ez_72]
                  have hsz_73 := hh_69.2.2.2.2.2.1
                  have htt_73 := hh_69.2.2.2.2.2.2.1
                  refine W.room (fun hrc_73 hrs_73 => ?_)
                  refine j_callx (A0 := jA base) (H0 := s.heap) (va_runS (As := [.ref text_70, .int z_71, .int z_72]) (rest := []) ⟨hx, hb, hml, hown, hts⟩ (uJ7_copyOfRange_feeccU l dC dI ca base B hB hAp hB101 hB280 Gx_56 H_56 text_70 z_71 z_72 1500 LC LS) (va_cwS 3 hts (jgS (jWr_77 _ (List.mem_of_getElem? (i := 21) rfl)) (jWr_77 _ (List.mem_of_getElem? (i := 22) rfl)) (jWr_16 _ (List.mem_of_getElem? (i := 7) rfl)) (jWr_77 _ (List.mem_of_getElem? (i := 23) rfl))) rfl rfl rfl (by decide +kernel) ⟨by rw [← hR]; exact Nat.le_of_ble_eq_true rfl, by rw [← hR]; exact Nat.le_of_ble_eq_true rfl⟩) ⟨fun a U g mk q => by obtain ⟨q0, q1, q2, qK, q10, q11, q12, q13⟩ := q; exact ⟨q0, q1, q2, jG.calling g mk a qK, (jK8.calling g mk a q10), q11, q12, q13⟩, fun U hU hW => ⟨rfl, hU, hh_69.2.1, hG.step hW hU hh_69.1, (jK8.warm hW hK8), hg_text_70, jP.nil, by first | omega | (refine ⟨?_, ?_, ?_, ?_⟩ <;> (first | omega | rfl | assumption | decide | exact Or.inl rfl | exact Or.inr rfl | (simp only; omega)))⟩⟩ rfl rfl hl.1 rfl (lv_room (Nat.le_of_ble_eq_true rfl)) dX11_batch_121 ⟨by rw [hRc]; omega, by rw [hRs]; omega⟩) hh_69.1 (fun q _ h => h) (fun q h => h) (fun r_74 u_73 t_73 H_73 locs_73 ht_73 hvm_73 hr_74 hb_73 hz_73 hk_73 hS_73 => ?_)
                  rw [ht_73] at hb_73
                  obtain ⟨m_ret_73, G_73⟩ := u_73
                  simp only at hb_73
                  obtain ⟨⟨hb_731, hb_732, hb_733, hb_734, hb_735, hb_736⟩, hN_73, hbK_73⟩ := hb_73
                  have hE9_73 := hN_73
                  have hM_73 := hN_73
                  have hN_73 : (jNk [0, 1, 2, 4, 6, 7, 8, 9, 10, 12, 13, 14, 15, 16]) Gx_56 G_73 := hN_73.sub (by decide)
                  have hh_73 : jSt (dC, dI) B base G0 G_73 EX11_batch s.heap (zcx_56 + (1)) (zsx_56 + (m_ret_73)) [(spare_13, 3, 2, .ref text_70), (spare_13, 3, 4, .int qs_51), (kernel_47, 7, 1, .ref syntax_50), (r0, 13, 5, .ref kernel_47), (spare_13, 3, 11, .null), (spare_13, 3, 10, .int pk_37), (spare_13, 3, 5, .ref yb_37), (spare_13, 3, 6, .ref ye_37), (r0, 13, 18, .int (-2)), (r0, 13, 16, .ref spare_13), (r0, 13, 15, .ref H_14.size), (spare_13, 3, 3, .int ql_14), (ta, 2, 1, .int 0), (r0, 13, 0, .ref ta), (ta, 2, 0, .ref pr)] [(yb_37, 171, 40, ca 1, gb_51), (ye_37, 172, 40, ca 1, ge_51)] [(jFdo, jDcc dC dI ca Gx_56 none phn_53), (jFs11, jSef dC dI Gx_56), (jFy, jYb dC dI Gx_56), ([(2, 0), (2, 1)], jOl (dC, dI) G0 2 [ta] s.heap)] H_73 locs_73 := (hh_69.callG hb_731 hb_732 hb_733 hb_734 hb_735 hS_73 rfl (L1 := [(spare_13, 3, 2, .ref text_70), (spare_13, 3, 4, .int qs_51), (kernel_47, 7, 1, .ref syntax_50), (r0, 13, 5, .ref kernel_47), (spare_13, 3, 11, .null), (spare_13, 3, 10, .int pk_37), (spare_13, 3, 5, .ref yb_37), (spare_13, 3, 6, .ref ye_37), (r0, 13, 18, .int (-2)), (r0, 13, 16, .ref spare_13), (r0, 13, 15, .ref H_14.size), (spare_13, 3, 3, .int ql_14), (ta, 2, 1, .int 0), (r0, 13, 0, .ref ta), (ta, 2, 0, .ref pr)]) [0, 1, 2, 3, 4, 5, 6, 7, 8, 9, 10, 11, 12, 13, 14] rfl rfl (M1 := [(yb_37, 171, 40, ca 1, gb_51), (ye_37, 172, 40, ca 1, ge_51)]) [0, 1] rfl rfl (I1 := [(jFdo, jDcc dC dI ca Gx_56 none phn_53), (jFs11, jSef dC dI Gx_56), (jFy, jYb dC dI Gx_56), ([(2, 0), (2, 1)], jOl (dC, dI) G0 2 [ta] s.heap)]) [0, 1, 2, 3] rfl rfl).more hb_736
                  have hNn_73 : (jNk [0, 1, 2, 4, 6, 7, 8, 9, 10, 12, 13, 14, 15, 16]) G0 G_73 := (hN_56).tr hN_73
                  have hg_75 := hb_732 _ _ hg_57
                  have hg_76 := hb_732 _ _ hg_58
                  have hg_77 := hb_732 _ _ hg_text_70
                  have hg_78 := hb_732 _ _ hg_59
                  have hg_79 := hb_732 _ _ hg_60
                  have hg_80 := hb_732 _ _ hg_61
                  have hg_81 := hb_732 _ _ hg_62
                  have hg_82 := hb_732 _ _ hg_63
                  have hg_83 := hb_732 _ _ hg_64
                  have hg_84 := hb_732 _ _ hg_65
                  have hd_85 := jDcc.grow (hh_73.iv 0 rfl) hb_732 hE9_73 (by decide)
                  have hh_86 := hh_73.sub (L1 := [(spare_13, 3, 2, .ref text_70), (spare_13, 3, 4, .int qs_51), (kernel_47, 7, 1, .ref syntax_50), (r0, 13, 5, .ref kernel_47), (spare_13, 3, 11, .null), (spare_13, 3, 10, .int pk_37), (spare_13, 3, 5, .ref yb_37), (spare_13, 3, 6, .ref ye_37), (r0, 13, 18, .int (-2)), (r0, 13, 16, .ref spare_13), (r0, 13, 15, .ref H_14.size), (spare_13, 3, 3, .int ql_14), (ta, 2, 1, .int 0), (r0, 13, 0, .ref ta), (ta, 2, 0, .ref pr)]) [0, 1, 2, 3, 4, 5, 6, 7, 8, 9, 10, 11, 12, 13, 14] rfl (M1 := [(yb_37, 171, 40, ca 1, gb_51), (ye_37, 172, 40, ca 1, ge_51)]) [0, 1] rfl (I1 := [(jFs11, jSef dC dI Gx_56), (jFy, jYb dC dI Gx_56), ([(2, 0), (2, 1)], jOl (dC, dI) G0 2 [ta] s.heap)]) [1, 2, 3] rfl
                  clear hh_73
                  have hh_87 := hh_86.addI (jDcc.ie hd_85)
                  clear hh_86
                  have hd_88 := jSef.grow (hh_87.iv 1 rfl) hb_732 hM_73 (by decide)
                  have hh_89 := hh_87.sub (L1 := [(spare_13, 3, 2, .ref text_70), (spare_13, 3, 4, .int qs_51), (kernel_47, 7, 1, .ref syntax_50), (r0, 13, 5, .ref kernel_47), (spare_13, 3, 11, .null), (spare_13, 3, 10, .int pk_37), (spare_13, 3, 5, .ref yb_37), (spare_13, 3, 6, .ref ye_37), (r0, 13, 18, .int (-2)), (r0, 13, 16, .ref spare_13), (r0, 13, 15, .ref H_14.size), (spare_13, 3, 3, .int ql_14), (ta, 2, 1, .int 0), (r0, 13, 0, .ref ta), (ta, 2, 0, .ref pr)]) [0, 1, 2, 3, 4, 5, 6, 7, 8, 9, 10, 11, 12, 13, 14] rfl (M1 := [(yb_37, 171, 40, ca 1, gb_51), (ye_37, 172, 40, ca 1, ge_51)]) [0, 1] rfl (I1 := [(jFdo, jDcc dC dI ca G_73 none phn_53), (jFy, jYb dC dI Gx_56), ([(2, 0), (2, 1)], jOl (dC, dI) G0 2 [ta] s.heap)]) [0, 2, 3] rfl
                  clear hh_87
                  have hh_90 := hh_89.addI (jSef.ie hd_88)
                  clear hh_89
                  have hd_91 := jYb.grow (hh_90.iv 2 rfl) hb_732 hN_73 (by decide)
                  have hh_92 := hh_90.sub (L1 := [(spare_13, 3, 2, .ref text_70), (spare_13, 3, 4, .int qs_51), (kernel_47, 7, 1, .ref syntax_50), (r0, 13, 5, .ref kernel_47), (spare_13, 3, 11, .null), (spare_13, 3, 10, .int pk_37), (spare_13, 3, 5, .ref yb_37), (spare_13, 3, 6, .ref ye_37), (r0, 13, 18, .int (-2)), (r0, 13, 16, .ref spare_13), (r0, 13, 15, .ref H_14.size), (spare_13, 3, 3, .int ql_14), (ta, 2, 1, .int 0), (r0, 13, 0, .ref ta), (ta, 2, 0, .ref pr)]) [0, 1, 2, 3, 4, 5, 6, 7, 8, 9, 10, 11, 12, 13, 14] rfl (M1 := [(yb_37, 171, 40, ca 1, gb_51), (ye_37, 172, 40, ca 1, ge_51)]) [0, 1] rfl (I1 := [(jFs11, jSef dC dI G_73), (jFdo, jDcc dC dI ca G_73 none phn_53), ([(2, 0), (2, 1)], jOl (dC, dI) G0 2 [ta] s.heap)]) [0, 1, 3] rfl
                  clear hh_90
                  have hh_93 := hh_92.addI (jYb.ie hd_91)
                  clear hh_92
                  obtain ⟨hr_74, hr_74n, hr_74p⟩ := hr_74
                  try simp only at hr_74p
                  obtain ⟨ret_94, rfl, hg_ret_94⟩ := hr_74
                  have hsy_73 : s.heap.size ≤ ret_94 := Nat.le_trans hh_69.1.1 hr_74n.le
                  refine lv_astore (lv' := [(4, .ref ret_94), (0, .ref r0), (1, .int a1), (2, .ref spare_13), (3, .int v3_56)]) hx hb dX11_batch_124 hl (by decide) rfl (fun ls hl => ?_)
                  refine lv_aload_n hx hb dX11_batch_126 rfl (lv_at hl 3 rfl) ?_
                  obtain ⟨v_95, hv_95, hh_96⟩ := hh_93.pin (C := RX1) (T := TX1) (N := 17) hB3 rfl (by decide) hg_76 (i := 9) (by decide) rfl
                  clear hh_93
                  obtain ⟨behind_97, rfl, hg_behind_97⟩ := hv_95
                  refine j7_read hx hb hown hK (C := RX1) (T := TX1) (N := 17) rfl hly_3_9 hlk_178 (hh_96.at 0 rfl) dX11_batch_127 ?_
                  refine lv_iload_n hx hb dX11_batch_130 rfl (lv_at hl 4 rfl) ?_
                  refine lv_aload_n hx hb dX11_batch_131 rfl (lv_at hl 1 rfl) ?_
                  refine j7_read hx hb hown hK (C := RX11) (T := TX11) (N := 19) rfl hly_13_5 hlk_41 (hh_96.at 4 rfl) dX11_batch_132 ?_
                  refine lv_aload_n hx hb dX11_batch_135 rfl (lv_at hl 3 rfl) ?_
                  refine lv_iload_n hx hb dX11_batch_136 rfl (lv_at hl 4 rfl) ?_
                  refine lv_aload_n hx hb dX11_batch_137 rfl (lv_at hl 1 rfl) ?_
                  refine j7_read hx hb hown hK (C := RX11) (T := TX11) (N := 19) rfl hly_13_5 hlk_41 (hh_96.at 4 rfl) dX11_batch_138 ?_
                  obtain ⟨v_98, hv_98, hh_99⟩ := hh_96.pin (C := RX5) (T := TX5) (N := 11) hB7 rfl (by decide) hg_79 (i := 2) (by decide) rfl
                  clear hh_96
                  obtain ⟨start_100, rfl, hg_start_100⟩ := hv_98
                  refine j7_read hx hb hown hK (C := RX5) (T := TX5) (N := 11) rfl hly_7_2 hlk_217 (hh_99.at 0 rfl) dX11_batch_141 ?_
                  have hsz_101 := hh_99.2.2.2.2.2.1
                  have htt_101 := hh_99.2.2.2.2.2.2.1
                  refine W.room (fun hrc_101 hrs_101 => ?_)
                  refine j_callx (A0 := jA base) (H0 := s.heap) (va_runV (As := [.int v3_56, .ref start_100]) (rest := [.ref kernel_47, .int v3_56, .ref behind_97]) ⟨hx, hb, hml, hown, hts⟩ (uX1_stateBehind l dC dI ca base B hB hAp hB3 hB11 hB210 G_73 H_73 spare_13 v3_56 start_100 1) (cwV 2 hts (jgV (jWr_30 _ (List.mem_of_getElem? (i := 9) rfl)) (jWr_30 _ (List.mem_of_getElem? (i := 10) rfl)) (jWr_30 _ (List.mem_of_getElem? (i := 11) rfl)) (jWr_2 _ (List.mem_of_getElem? (i := 21) rfl)) (jWr_30 _ (List.mem_of_getElem? (i := 12) rfl))) rfl rfl rfl (by decide +kernel) ⟨by rw [← hR]; exact Nat.le_of_ble_eq_true rfl, by rw [← hR]; exact Nat.le_of_ble_eq_true rfl⟩) ⟨fun a U g mk q => by obtain ⟨q0, q1, q2, qK, q10, q11, q12, q13, q14⟩ := q; exact ⟨q0, q1, q2, jG.calling g mk a qK, (va_K.moved (Vm.Alike.refl U.vm) q10), q11, q12, q13, q14⟩, hh_99.recv (C := RX1) (T := TX1) (N := 17) hB3 rfl (by decide) hg_76 hK, fun U hU hW => ⟨rfl, hU, hh_99.2.1, hG.step hW hU hh_99.1, va_K.moved hW.alike hK2, hg_76, hg_start_100, jP.nil, trivial⟩⟩ rfl rfl hl.1 rfl (lv_room (Nat.le_of_ble_eq_true rfl)) dX11_batch_144 ⟨by rw [hRc]; show _ + 0 ≤ _; omega, by rw [hRs]; show _ + 0 ≤ _; omega⟩) hh_99.1 (fun q _ h => h) (fun q h => h) (fun r_102 u_101 t_101 H_101 locs_101 ht_101 hvm_101 hr_102 hb_101 hz_101 hk_101 hS_101 => ?_)
                  rw [ht_101] at hb_101
                  obtain ⟨hb_1011, hb_1012, hb_1013, hb_1014, hb_1015⟩ := hb_101
                  have hh_101 : jSt (dC, dI) B base G0 G_73 EX11_batch s.heap (zcx_56 + (1)) (zsx_56 + (m_ret_73)) [(kernel_47, 7, 2, .ref start_100), (spare_13, 3, 9, .ref behind_97), (spare_13, 3, 2, .ref text_70), (spare_13, 3, 4, .int qs_51), (kernel_47, 7, 1, .ref syntax_50), (r0, 13, 5, .ref kernel_47), (spare_13, 3, 11, .null), (spare_13, 3, 10, .int pk_37), (spare_13, 3, 5, .ref yb_37), (spare_13, 3, 6, .ref ye_37), (r0, 13, 18, .int (-2)), (r0, 13, 16, .ref spare_13), (r0, 13, 15, .ref H_14.size), (spare_13, 3, 3, .int ql_14), (ta, 2, 1, .int 0), (r0, 13, 0, .ref ta), (ta, 2, 0, .ref pr)] [(yb_37, 171, 40, ca 1, gb_51), (ye_37, 172, 40, ca 1, ge_51)] [(jFy, jYb dC dI G_73), (jFs11, jSef dC dI G_73), (jFdo, jDcc dC dI ca G_73 none phn_53), ([(2, 0), (2, 1)], jOl (dC, dI) G0 2 [ta] s.heap)] H_101 locs_101 := ((hh_99.call hb_1011 hb_1012 hb_1013 hb_1014 hS_101 rfl (L1 := [(kernel_47, 7, 2, .ref start_100), (spare_13, 3, 9, .ref behind_97), (spare_13, 3, 2, .ref text_70), (spare_13, 3, 4, .int qs_51), (kernel_47, 7, 1, .ref syntax_50), (r0, 13, 5, .ref kernel_47), (spare_13, 3, 11, .null), (spare_13, 3, 10, .int pk_37), (spare_13, 3, 5, .ref yb_37), (spare_13, 3, 6, .ref ye_37), (r0, 13, 18, .int (-2)), (r0, 13, 16, .ref spare_13), (r0, 13, 15, .ref H_14.size), (spare_13, 3, 3, .int ql_14), (ta, 2, 1, .int 0), (r0, 13, 0, .ref ta), (ta, 2, 0, .ref pr)]) [0, 1, 2, 3, 4, 5, 6, 7, 8, 9, 10, 11, 12, 13, 14, 15, 16] rfl rfl (M1 := [(yb_37, 171, 40, ca 1, gb_51), (ye_37, 172, 40, ca 1, ge_51)]) [0, 1] rfl rfl (I1 := [(jFy, jYb dC dI G_73), (jFs11, jSef dC dI G_73), (jFdo, jDcc dC dI ca G_73 none phn_53), ([(2, 0), (2, 1)], jOl (dC, dI) G0 2 [ta] s.heap)]) [0, 1, 2, 3] rfl rfl).more hb_1015)
                  clear hh_99 ht_101 hvm_101 hz_101 hk_101 hS_101 hb_1011 hb_1012 hb_1013 hb_1014 hb_1015
                  obtain ⟨ret_103, rfl, hg_ret_103⟩ := hr_102
                  refine lv_aload hx hb dX11_batch_147 (lv_at hl 0 rfl) ?_
                  refine lv_aload_n hx hb dX11_batch_149 rfl (lv_at hl 3 rfl) ?_
                  obtain ⟨v_104, hv_104, hh_105⟩ := hh_101.pin (C := RX1) (T := TX1) (N := 17) hB3 rfl (by decide) hg_76 (i := 8) (by decide) rfl
                  clear hh_101
                  obtain ⟨early_106, rfl, hg_early_106⟩ := hv_104
                  refine j7_read hx hb hown hK (C := RX1) (T := TX1) (N := 17) rfl hly_3_8 hlk_225 (hh_105.at 0 rfl) dX11_batch_150 ?_
                  refine lv_iload_n hx hb dX11_batch_153 rfl (lv_at hl 4 rfl) ?_
                  refine j7_iald hx hb hK hh_105 hB101 1 rfl (by decide) hg_early_106 (x := v3_56.toInt) (rfl) (by omega) dX11_batch_154 (fun z_107 (hz_107 : True) => ?_)
                  have hsz_108 := hh_105.2.2.2.2.2.1
                  have htt_108 := hh_105.2.2.2.2.2.2.1
                  refine W.room (fun hrc_108 hrs_108 => ?_)
                  refine j_callx (A0 := jA base) (H0 := s.heap) (va_runV (As := [.ref ret_103, .ref ret_94, .int z_107]) (rest := [.int v3_56, .ref behind_97]) ⟨hx, hb, hml, hown, hts⟩ (uX5_checkS l dC dI ca base B hB hAp hB5 hB7 hB8 hB11 hB12 hB101 hB102 hB132 hB133 hB211 hB214 hB280 hB290 hB291 hB292 hB293 hB313 hB315 G_73 H_101 kernel_47 ret_103 ret_94 z_107 m_ret_73 (min 1 (m_ret_73 / 3)) LC LS) (cwV 3 hts (jgV (jWr_78 _ (List.mem_of_getElem? (i := 14) rfl)) (jWr_78 _ (List.mem_of_getElem? (i := 15) rfl)) (jWr_78 _ (List.mem_of_getElem? (i := 16) rfl)) (jWr_2 _ (List.mem_of_getElem? (i := 4) rfl)) (jWr_78 _ (List.mem_of_getElem? (i := 17) rfl))) rfl rfl rfl (by decide +kernel) ⟨by rw [← hR]; exact Nat.le_of_ble_eq_true rfl, by rw [← hR]; exact Nat.le_of_ble_eq_true rfl⟩) ⟨fun a U g mk q => by obtain ⟨q0, q1, q2, qK, q10, q11, q12, q13, q14, q15, q16, q17, q18⟩ := q; exact ⟨q0, q1, q2, jG.calling g mk a qK, (va_K.moved (Vm.Alike.refl U.vm) q10), (jK5.moved (Vm.Alike.refl U.vm) q11), (jK6.moved (Vm.Alike.refl U.vm) q12), q13, q14, q15, q16, q17, q18⟩, hh_105.recv (C := RX5) (T := TX5) (N := 11) hB7 rfl (by decide) hg_79 hK, fun U hU hW => ⟨rfl, hU, hh_105.2.1, hG.step hW hU hh_105.1, va_K.moved hW.alike hK2, jK5.moved hW.alike hK5, jK6.moved hW.alike hK6, hg_79, hg_ret_103, hg_ret_94, jP.nil, (hh_105.2.2.2.2.2.2.2.2.sub (L1 := [(jFs11, jSef dC dI G_73)]) [1] rfl), by first | omega | (refine ⟨?_, ?_⟩ <;> (first | omega | rfl | assumption | decide | exact Or.inl rfl | exact Or.inr rfl | (simp only; omega)))⟩⟩ rfl rfl hl.1 rfl (lv_room (Nat.le_of_ble_eq_true rfl)) dX11_batch_155 ⟨by rw [hRc]; omega, by rw [hRs]; omega⟩) hh_105.1 (fun q _ h => h) (fun q h => h) (fun r_109 u_108 t_108 H_108 locs_108 ht_108 hvm_108 hr_109 hb_108 hz_108 hk_108 hS_108 => ?_)
                  rw [ht_108] at hb_108
                  obtain ⟨G_108, rfl⟩ : ∃ z, z = u_108 := ⟨_, rfl⟩
                  try simp only at hb_108
                  obtain ⟨⟨hb_1081, hb_1082, hb_1083, hb_1084, hb_1085, hb_1086⟩, hN_108, hbE_108⟩ := hb_108
                  have hE9_108 := hN_108
                  have hN_108 : (jNk [0, 1, 2, 4, 6, 7, 8, 9, 10, 12, 13, 14, 15, 16]) G_73 G_108 := hN_108.sub (by decide)
                  have hh_108 : jSt (dC, dI) B base G0 G_108 EX11_batch s.heap ((zcx_56 + (1)) + (23)) ((zsx_56 + (m_ret_73)) + ((183 + 336 * (min 1 (m_ret_73 / 3))))) [(spare_13, 3, 8, .ref early_106), (kernel_47, 7, 2, .ref start_100), (spare_13, 3, 9, .ref behind_97), (spare_13, 3, 2, .ref text_70), (spare_13, 3, 4, .int qs_51), (kernel_47, 7, 1, .ref syntax_50), (r0, 13, 5, .ref kernel_47), (spare_13, 3, 11, .null), (spare_13, 3, 10, .int pk_37), (spare_13, 3, 5, .ref yb_37), (spare_13, 3, 6, .ref ye_37), (r0, 13, 18, .int (-2)), (r0, 13, 16, .ref spare_13), (r0, 13, 15, .ref H_14.size), (spare_13, 3, 3, .int ql_14), (ta, 2, 1, .int 0), (r0, 13, 0, .ref ta), (ta, 2, 0, .ref pr)] [(yb_37, 171, 40, ca 1, gb_51), (ye_37, 172, 40, ca 1, ge_51)] [(jFy, jYb dC dI G_73), (jFdo, jDcc dC dI ca G_73 none phn_53), ([(2, 0), (2, 1)], jOl (dC, dI) G0 2 [ta] s.heap)] H_108 locs_108 := (hh_105.callG hb_1081 hb_1082 hb_1083 hb_1084 hb_1085 hS_108 rfl (L1 := [(spare_13, 3, 8, .ref early_106), (kernel_47, 7, 2, .ref start_100), (spare_13, 3, 9, .ref behind_97), (spare_13, 3, 2, .ref text_70), (spare_13, 3, 4, .int qs_51), (kernel_47, 7, 1, .ref syntax_50), (r0, 13, 5, .ref kernel_47), (spare_13, 3, 11, .null), (spare_13, 3, 10, .int pk_37), (spare_13, 3, 5, .ref yb_37), (spare_13, 3, 6, .ref ye_37), (r0, 13, 18, .int (-2)), (r0, 13, 16, .ref spare_13), (r0, 13, 15, .ref H_14.size), (spare_13, 3, 3, .int ql_14), (ta, 2, 1, .int 0), (r0, 13, 0, .ref ta), (ta, 2, 0, .ref pr)]) [0, 1, 2, 3, 4, 5, 6, 7, 8, 9, 10, 11, 12, 13, 14, 15, 16, 17] rfl rfl (M1 := [(yb_37, 171, 40, ca 1, gb_51), (ye_37, 172, 40, ca 1, ge_51)]) [0, 1] rfl rfl (I1 := [(jFy, jYb dC dI G_73), (jFdo, jDcc dC dI ca G_73 none phn_53), ([(2, 0), (2, 1)], jOl (dC, dI) G0 2 [ta] s.heap)]) [0, 2, 3] rfl rfl).more hb_1086
                  have hNn_108 : (jNk [0, 1, 2, 4, 6, 7, 8, 9, 10, 12, 13, 14, 15, 16]) G0 G_108 := (hNn_73).tr hN_108
                  have hg_110 := hb_1082 _ _ hg_ret_94
                  have hg_111 := hb_1082 _ _ hg_75
                  have hg_112 := hb_1082 _ _ hg_76
                  have hg_113 := hb_1082 _ _ hg_behind_97
                  have hg_114 := hb_1082 _ _ hg_early_106
                  have hg_115 := hb_1082 _ _ hg_start_100
                  have hg_116 := hb_1082 _ _ hg_77
                  have hg_117 := hb_1082 _ _ hg_78
                  have hg_118 := hb_1082 _ _ hg_79
                  have hg_119 := hb_1082 _ _ hg_80
                  have hg_120 := hb_1082 _ _ hg_81
                  have hg_121 := hb_1082 _ _ hg_82
                  have hg_122 := hb_1082 _ _ hg_83
                  have hg_123 := hb_1082 _ _ hg_84
                  have hd_124 := jYb.grow (hh_108.iv 0 rfl) hb_1082 hN_108 (by decide)
                  have hh_125 := hh_108.sub (L1 := [(spare_13, 3, 8, .ref early_106), (kernel_47, 7, 2, .ref start_100), (spare_13, 3, 9, .ref behind_97), (spare_13, 3, 2, .ref text_70), (spare_13, 3, 4, .int qs_51), (kernel_47, 7, 1, .ref syntax_50), (r0, 13, 5, .ref kernel_47), (spare_13, 3, 11, .null), (spare_13, 3, 10, .int pk_37), (spare_13, 3, 5, .ref yb_37), (spare_13, 3, 6, .ref ye_37), (r0, 13, 18, .int (-2)), (r0, 13, 16, .ref spare_13), (r0, 13, 15, .ref H_14.size), (spare_13, 3, 3, .int ql_14), (ta, 2, 1, .int 0), (r0, 13, 0, .ref ta), (ta, 2, 0, .ref pr)]) [0, 1, 2, 3, 4, 5, 6, 7, 8, 9, 10, 11, 12, 13, 14, 15, 16, 17] rfl (M1 := [(yb_37, 171, 40, ca 1, gb_51), (ye_37, 172, 40, ca 1, ge_51)]) [0, 1] rfl (I1 := [(jFdo, jDcc dC dI ca G_73 none phn_53), ([(2, 0), (2, 1)], jOl (dC, dI) G0 2 [ta] s.heap)]) [1, 2] rfl
                  clear hh_108
                  have hh_126 := hh_125.addI (jYb.ie hd_124)
                  clear hh_125
                  have hd_127 := jDcc.grow (hh_126.iv 1 rfl) hb_1082 hE9_108 (by decide)
                  have hh_128 := hh_126.sub (L1 := [(spare_13, 3, 8, .ref early_106), (kernel_47, 7, 2, .ref start_100), (spare_13, 3, 9, .ref behind_97), (spare_13, 3, 2, .ref text_70), (spare_13, 3, 4, .int qs_51), (kernel_47, 7, 1, .ref syntax_50), (r0, 13, 5, .ref kernel_47), (spare_13, 3, 11, .null), (spare_13, 3, 10, .int pk_37), (spare_13, 3, 5, .ref yb_37), (spare_13, 3, 6, .ref ye_37), (r0, 13, 18, .int (-2)), (r0, 13, 16, .ref spare_13), (r0, 13, 15, .ref H_14.size), (spare_13, 3, 3, .int ql_14), (ta, 2, 1, .int 0), (r0, 13, 0, .ref ta), (ta, 2, 0, .ref pr)]) [0, 1, 2, 3, 4, 5, 6, 7, 8, 9, 10, 11, 12, 13, 14, 15, 16, 17] rfl (M1 := [(yb_37, 171, 40, ca 1, gb_51), (ye_37, 172, 40, ca 1, ge_51)]) [0, 1] rfl (I1 := [(jFy, jYb dC dI G_108), ([(2, 0), (2, 1)], jOl (dC, dI) G0 2 [ta] s.heap)]) [0, 2] rfl
                  clear hh_126
                  have hh_129 := hh_128.addI (jDcc.ie hd_127)
                  clear hh_128
                  have hh_130 := hh_129.addIs hbE_108
                  obtain ⟨hr_109, hr_109p⟩ := hr_109
                  try simp only at hr_109p
                  obtain ⟨ret_131, rfl, hg_ret_131⟩ := hr_109
                  refine j7_qast hx hb hK2 hh_130 hB hB210 2 rfl (by decide) (by decide) rfl rfl rfl hg_113 (x := v3_56.toInt) (rfl) (by omega) hB11 (T := TX9) (N := 9) rfl (by decide) hg_ret_131 (Or.inr ⟨_, rfl, hg_ret_131⟩) dX11_batch_158 (fun H_132 locs_132 hh_132 => ?_)
                  clear hh_130
                  obtain ⟨z_133, ez_133⟩ : ∃ y : Int32, y = v3_56 + 1 := ⟨_, rfl⟩
                  refine lv_iinc (v := z_133) (lv' := [(3, .int z_133), (4, .ref ret_94), (0, .ref r0), (1, .int a1), (2, .ref spare_13)]) hx hb dX11_batch_159 hl (k := 4) rfl (by rw [ez_133]; rfl) (by decide) rfl (fun ls hl => ?_)
                  have hz_133 : z_133.toInt = v3_56.toInt + 1 := by rw [ez_133]; exact jb_iadd2 (rfl) (by decide) (by omega)
                  have hje := jEd.to hnb.2.2.1 (k1 := (v3_56.toInt + 1)) (by omega)
                  refine lv_goto (tgt := 97) hx hb dX11_batch_162 (by decide) ?_
                  refine W.tight (c2 := ((zcx_56 + (1)) + (23))) (n2 := ((zsx_56 + (m_ret_73)) + ((183 + 336 * (min 1 (m_ret_73 / 3)))))) hh_132.2.2.2.2.2.1 hh_132.2.2.2.2.2.2.1 ?_
                  exact L97 G_108 ((zcx_56 + (1)) + (23)) ((zsx_56 + (m_ret_73)) + ((183 + 336 * (min 1 (m_ret_73 / 3))))) z_133 _ _ (hh_132.sub (L1 := [(spare_13, 3, 4, .int qs_51), (kernel_47, 7, 1, .ref syntax_50), (r0, 13, 5, .ref kernel_47), (spare_13, 3, 11, .null), (spare_13, 3, 10, .int pk_37), (spare_13, 3, 5, .ref yb_37), (spare_13, 3, 6, .ref ye_37), (r0, 13, 18, .int (-2)), (r0, 13, 16, .ref spare_13), (r0, 13, 15, .ref H_14.size), (spare_13, 3, 3, .int ql_14), (ta, 2, 1, .int 0), (r0, 13, 0, .ref ta), (ta, 2, 0, .ref pr)]) [4, 5, 6, 7, 8, 9, 10, 11, 12, 13, 14, 15, 16, 17] rfl (M1 := [(yb_37, 171, 40, ca 1, gb_51), (ye_37, 172, 40, ca 1, ge_51)]) [0, 1] rfl (I1 := [(jFdo, jDcc dC dI ca G_108 none phn_53), (jFs11, jSef dC dI G_108), (jFy, jYb dC dI G_108), ([(2, 0), (2, 1)], jOl (dC, dI) G0 2 [ta] s.heap)]) [1, 0, 2, 3] rfl) (hNn_108) (((hle_56).tr hb_732).tr hb_1082) (by first | omega | (refine ⟨?_, ?_, ?_, ?_⟩ <;> (first | omega | rfl | assumption | decide | exact Or.inl rfl | exact Or.inr rfl | (simp only; omega)))) (by omega) _ (lv_sub hl [2, 3, 4, 0] rfl)
            refine W.tight (c2 := ((0 + 1) + (7))) (n2 := ((0 + 17) + (1700))) hh_55.2.2.2.2.2.1 hh_55.2.2.2.2.2.2.1 ?_
            exact L97 (qs_51.toInt - (0 : Int32).toInt : Int).toNat.succ G_21 ((0 + 1) + (7)) ((0 + 17) + (1700)) 0 _ _ hh_55 (hNn_21) (jLe.rf) (by first | omega | (refine ⟨?_, ?_, ?_, ?_⟩ <;> (first | omega | rfl | assumption | decide | exact Or.inl rfl | exact Or.inr rfl | (simp only; omega)))) (by omega) _ (lv_sub hl [2, 3, 1, 0] rfl)
          · skip
            refine lv_aload_n hx hb dX11_batch_84 rfl (lv_at hl 0 rfl) ?_
            refine lv_aload_n hx hb dX11_batch_85 rfl (lv_at hl 1 rfl) ?_
            obtain ⟨v_135, hv_135, hh_136⟩ := hh_37.pin (C := RX11) (T := TX11) (N := 19) hB13 rfl (by decide) hg_24 (i := 5) (by decide) rfl
            clear hh_37
            obtain ⟨kernel_137, rfl, hg_kernel_137⟩ := hv_135
            refine j7_read hx hb hown hK (C := RX11) (T := TX11) (N := 19) rfl hly_13_5 hlk_41 (hh_136.at 0 rfl) dX11_batch_86 ?_
            obtain ⟨v_138, hv_138, hh_139⟩ := hh_136.pin (C := RX5) (T := TX5) (N := 11) hB7 rfl (by decide) hg_kernel_137 (i := 1) (by decide) rfl
            clear hh_136
            obtain ⟨syntax_140, rfl, hg_syntax_140⟩ := hv_138
            refine j7_read hx hb hown hK (C := RX5) (T := TX5) (N := 11) rfl hly_7_1 hlk_203 (hh_139.at 0 rfl) dX11_batch_89 ?_
            have hsz_141 := hh_139.2.2.2.2.2.1
            have htt_141 := hh_139.2.2.2.2.2.2.1
            refine W.room (fun hrc_141 hrs_141 => ?_)
            refine va_callv (A0 := jA base) (H0 := s.heap) (va_runV (As := [.ref syntax_140]) (rest := []) ⟨hx, hb, hml, hown, hts⟩ (uX1_partE l dC dI ca base B hB hAp hB3 hB8 hB12 hB101 hB102 hB132 hB133 hB171 hB172 hB293 G_21 H_36 spare_13 syntax_140 1 ql_14 yb_37 ye_37 (pho_37) fb_37 fe_37) (cwV 1 hts (jgV (jWr_36 _ (List.mem_of_getElem? (i := 2) rfl)) (jWr_36 _ (List.mem_of_getElem? (i := 3) rfl)) (jWr_36 _ (List.mem_of_getElem? (i := 4) rfl)) (jWr_2 _ (List.mem_of_getElem? (i := 21) rfl)) (jWr_36 _ (List.mem_of_getElem? (i := 5) rfl))) rfl rfl rfl (by decide +kernel) ⟨by rw [← hR]; exact Nat.le_of_ble_eq_true rfl, by rw [← hR]; exact Nat.le_of_ble_eq_true rfl⟩) ⟨fun a U g mk q => by obtain ⟨q0, q1, q2, qK, q10, q11, q12, q13, q14, q15, q16, q17⟩ := q; exact ⟨q0, q1, q2, jG.calling g mk a qK, q10, q11, q12, q13, q14, q15, q16, q17⟩, hh_139.recv (C := RX1) (T := TX1) (N := 17) hB3 rfl (by decide) hg_23 hK, fun U hU hW => ⟨rfl, hU, hh_139.2.1, hG.step hW hU hh_139.1, hg_23, hg_syntax_140, hgb_37, hge_37, (hh_139.2.2.1.sub (L1 := [(spare_13, 3, 3, .int ql_14), (spare_13, 3, 5, .ref yb_37), (spare_13, 3, 6, .ref ye_37)]) [10, 5, 6] rfl), (hh_139.2.2.2.2.2.2.2.1.sub (L1 := [(yb_37, 171, 40, ca 1, fb_37), (ye_37, 172, 40, ca 1, fe_37)]) [0, 1] rfl), (hh_139.2.2.2.2.2.2.2.2.sub (L1 := [(jFdo, jDcc dC dI ca G_21 (some spare_13) pho_37)]) [0] rfl), by first | omega | (refine ⟨?_, ?_⟩ <;> (first | omega | rfl | assumption | decide | exact Or.inl rfl | exact Or.inr rfl | (simp only; omega)))⟩⟩ rfl rfl hl.1 rfl (lv_room (Nat.le_of_ble_eq_true rfl)) dX11_batch_92 ⟨by rw [hRc]; show _ + 0 ≤ _; omega, by rw [hRs]; show _ + 0 ≤ _; omega⟩) hh_139.1 (fun q _ h => h) (fun q h => h) (fun u_141 t_141 H_141 locs_141 ht_141 hvm_141 hr_142 hb_141 hz_141 hk_141 hS_141 => ?_)
            obtain ⟨qs_141, gb_141, ge_141⟩ := u_141
            rw [ht_141] at hb_141
            obtain ⟨hb_141, hbE_141⟩ := hb_141
            obtain ⟨hb_141, hbO_141⟩ := hb_141
            obtain ⟨⟨hb_1411, hb_1412, hb_1413, hb_1414, hb_1415⟩, hb_1416⟩ := hb_141
            have hh_141 : jSt (dC, dI) B base G0 G_21 EX11_batch s.heap ((0 + 1) + (7)) ((0 + 17) + (1700)) [(spare_13, 3, 4, .int qs_141), (kernel_137, 7, 1, .ref syntax_140), (r0, 13, 5, .ref kernel_137), (spare_13, 3, 11, .ref chk_43), (spare_13, 3, 10, .int pk_37), (spare_13, 3, 5, .ref yb_37), (spare_13, 3, 6, .ref ye_37), (r0, 13, 18, .int (-2)), (r0, 13, 16, .ref spare_13), (r0, 13, 15, .ref H_14.size), (spare_13, 3, 3, .int ql_14), (ta, 2, 1, .int 0), (r0, 13, 0, .ref ta), (ta, 2, 0, .ref pr)] [(yb_37, 171, 40, ca 1, gb_141), (ye_37, 172, 40, ca 1, ge_141)] [(jFdo, jDcc dC dI ca G_21 (some spare_13) pho_37), (jFs11, jSef dC dI G_21), (jFy, jYb dC dI G_21), ([(2, 0), (2, 1)], jOl (dC, dI) G0 2 [ta] s.heap)] H_141 locs_141 := (((hh_139.call hb_1411 hb_1412 hb_1413 hb_1414 hS_141 rfl (L1 := [(kernel_137, 7, 1, .ref syntax_140), (r0, 13, 5, .ref kernel_137), (spare_13, 3, 11, .ref chk_43), (spare_13, 3, 10, .int pk_37), (spare_13, 3, 5, .ref yb_37), (spare_13, 3, 6, .ref ye_37), (r0, 13, 18, .int (-2)), (r0, 13, 16, .ref spare_13), (r0, 13, 15, .ref H_14.size), (spare_13, 3, 3, .int ql_14), (ta, 2, 1, .int 0), (r0, 13, 0, .ref ta), (ta, 2, 0, .ref pr)]) [0, 1, 2, 4, 5, 6, 7, 8, 9, 10, 11, 12, 13] rfl rfl (M1 := []) [] rfl rfl (I1 := [(jFs11, jSef dC dI G_21), (jFy, jYb dC dI G_21), ([(2, 0), (2, 1)], jOl (dC, dI) G0 2 [ta] s.heap)]) [1, 2, 3] rfl rfl).more hb_1415).moreM hb_1416).addIs hbE_141
            clear hh_139 ht_141 hvm_141 hz_141 hk_141 hS_141 hb_1411 hb_1412 hb_1413 hb_1414 hb_1415
            clear hb_1416
            clear  hbE_141
            try simp only at hr_142
            obtain ⟨hr_142_0, hr_142_1, hr_142_2⟩ := hr_142
            obtain ⟨phn_143, hphn_143⟩ : ∃ q : Nat, q = pho_37 := ⟨_, rfl⟩
            have hF_143 := jDcc.full (ph1 := phn_143) (hh_141.iv 0 rfl) hg_23 (hh_141.at 5 rfl) (hh_141.at 6 rfl) ⟨(hh_141.2.2.1.sub (L1 := [(spare_13, 3, 4, .int qs_141), (spare_13, 3, 10, .int pk_37), (spare_13, 3, 11, .ref chk_43)]) [0, 4, 3] rfl), (hh_141.2.2.2.2.2.2.2.1.sub (L1 := [(yb_37, 171, 40, ca 1, gb_141), (ye_37, 172, 40, ca 1, ge_141)]) [0, 1] rfl), (hr_142_2.mono (by omega)), by omega⟩ (w := (575 * (qs_141.toInt - pk_37.toInt) - 16 + (1500 - jSo ge_141 pk_37.toInt)).toNat) (fun h9 => absurd h9 (by decide)) (by omega) (fun h9 => absurd h9 (by decide))
            have hh_144 := hh_141.sub (L1 := [(spare_13, 3, 4, .int qs_141), (kernel_137, 7, 1, .ref syntax_140), (r0, 13, 5, .ref kernel_137), (spare_13, 3, 11, .ref chk_43), (spare_13, 3, 10, .int pk_37), (spare_13, 3, 5, .ref yb_37), (spare_13, 3, 6, .ref ye_37), (r0, 13, 18, .int (-2)), (r0, 13, 16, .ref spare_13), (r0, 13, 15, .ref H_14.size), (spare_13, 3, 3, .int ql_14), (ta, 2, 1, .int 0), (r0, 13, 0, .ref ta), (ta, 2, 0, .ref pr)]) [0, 1, 2, 3, 4, 5, 6, 7, 8, 9, 10, 11, 12, 13] rfl (M1 := [(yb_37, 171, 40, ca 1, gb_141), (ye_37, 172, 40, ca 1, ge_141)]) [0, 1] rfl (I1 := [(jFs11, jSef dC dI G_21), (jFy, jYb dC dI G_21), ([(2, 0), (2, 1)], jOl (dC, dI) G0 2 [ta] s.heap)]) [1, 2, 3] rfl
            clear hh_141
            have hh_145 := hh_144.addI (jDcc.ie hF_143)
            clear hh_144
            refine lv_iconst (v := 0) hx hb dX11_batch_95 (by decide) ?_
            refine lv_istore_n (lv' := [(3, .int 0), (2, .ref spare_13), (0, .ref r0), (1, .int a1)]) hx hb dX11_batch_96 rfl hl (by decide) rfl (fun ls hl => ?_)
            have L97 : ∀ (N : Nat) (Gx_146 : jT) (zcx_146 : Nat) (zsx_146 : Nat) (v3_146 : Int32) (H_146 : Heap) (locs_146 : List Loc), jSt (dC, dI) B base G0 Gx_146 EX11_batch s.heap zcx_146 zsx_146 [(spare_13, 3, 4, .int qs_141), (kernel_137, 7, 1, .ref syntax_140), (r0, 13, 5, .ref kernel_137), (spare_13, 3, 11, .ref chk_43), (spare_13, 3, 10, .int pk_37), (spare_13, 3, 5, .ref yb_37), (spare_13, 3, 6, .ref ye_37), (r0, 13, 18, .int (-2)), (r0, 13, 16, .ref spare_13), (r0, 13, 15, .ref H_14.size), (spare_13, 3, 3, .int ql_14), (ta, 2, 1, .int 0), (r0, 13, 0, .ref ta), (ta, 2, 0, .ref pr)] [(yb_37, 171, 40, ca 1, gb_141), (ye_37, 172, 40, ca 1, ge_141)] [(jFdo, jDcc dC dI ca Gx_146 none phn_143), (jFs11, jSef dC dI Gx_146), (jFy, jYb dC dI Gx_146), ([(2, 0), (2, 1)], jOl (dC, dI) G0 2 [ta] s.heap)] H_146 locs_146 → (jNk [0, 1, 2, 4, 6, 7, 8, 9, 10, 12, 13, 14, 15, 16]) G0 Gx_146 → jLe G_21 Gx_146 → (0 ≤ v3_146.toInt ∧ v3_146.toInt ≤ qs_141.toInt ∧ zcx_146 ≤ 8 + 24 * v3_146.toInt ∧ zsx_146 ≤ 1720 + 185 * jEd ge_141 v3_146.toInt) → (qs_141.toInt - v3_146.toInt : Int) < N → ∀ ls : Array Slot, lv_has ls 5 [(0, .ref r0), (1, .int a1), (2, .ref spare_13), (3, .int v3_146)] → W p l e R s m ([.ref r0, .int a1] : List Value).toArray below meth c H_146 locs_146 zcx_146 zsx_146 Q (F0 m 97 ls []) := by
              intro N
              induction N with
              | zero => intro Gx_146 zcx_146 zsx_146 v3_146 H_146 locs_146 hh_146 hN_146 hle_146 hi_146 hm; exact absurd hm (by omega)
              | succ N L97 =>
                intro Gx_146 zcx_146 zsx_146 v3_146 H_146 locs_146 hh_146 hN_146 hle_146 hi_146 hm_146 ls hl
                have hg_147 := hle_146 _ _ hg_24
                have hg_148 := hle_146 _ _ hg_23
                have hg_149 := hle_146 _ _ hg_syntax_140
                have hg_150 := hle_146 _ _ hg_kernel_137
                have hg_151 := hle_146 _ _ hg_chk_43
                have hg_152 := hle_146 _ _ hgb_37
                have hg_153 := hle_146 _ _ hge_37
                have hg_154 := hle_146 _ _ hgc_21
                have hg_155 := hle_146 _ _ hg_25
                have hg_156 := hle_146 _ _ hg_26
                obtain ⟨hi_146_0, hi_146_1, hi_146_2, hi_146_3⟩ := hi_146
                have hql := jSn.le hr_142_2 (by omega)
                refine lv_iload_n hx hb dX11_batch_97 rfl (lv_at hl 3 rfl) ?_
                refine lv_aload_n hx hb dX11_batch_98 rfl (lv_at hl 2 rfl) ?_
                refine j7_read hx hb hown hK (C := RX1) (T := TX1) (N := 17) rfl hly_3_4 hlk_168 (hh_146.at 0 rfl) dX11_batch_99 ?_
                refine lv_icmp_ge (tgt := 165) hx hb dX11_batch_102 (by decide) (fun c_157 => ?_) (fun c_157 => ?_)
                · skip
                  have c_157' : v3_146.toInt ≥ qs_141.toInt := jb_ge (rfl) (rfl) c_157
                  have hjl := jEd.le hr_142_2 (k := v3_146.toInt) (by omega) (by omega) (by omega)
                  refine lv_aload_n hx hb dX11_batch_165 rfl (lv_at hl 2 rfl) ?_
                  refine j7_read hx hb hown hK (C := RX1) (T := TX1) (N := 17) rfl hly_3_4 hlk_168 (hh_146.at 0 rfl) dX11_batch_166 ?_
                  have hsz_158 := hh_146.2.2.2.2.2.1
                  have htt_158 := hh_146.2.2.2.2.2.2.1
                  refine W.room (fun hrc_158 hrs_158 => ?_)
                  refine W.widen (k := LC - s.heap.size) (n := LS - jTot s.heap) (by omega) (by omega) ?_
                  rw [hQ]
                  exact W.iret (v := qs_141) hx hb hr (fun t ht hW => ⟨⟨qs_141, (0, phn_143, Gx_146), rfl, by (try dsimp only); exact ⟨(by first | omega | rfl | assumption | fail), (by first | omega | rfl | assumption | fail)⟩, ⟨hh_146.ra (by first | omega | (simp only; omega)) (by first | omega | (simp only; omega)) (M1 := [(ta, 2, 1, .int 0)]) [11] rfl ht, hN_146, by rw [ht]; exact hh_146.iv 3 rfl, by rw [ht]; exact hh_146.2.2.2.2.2.2.2.2.sub (L1 := [(jFy, jYb dC dI Gx_146), (jFs11, jSef dC dI Gx_146), (jFdo, jDcc dC dI ca Gx_146 none phn_143)]) [2, 1, 0] rfl⟩⟩, by rw [ht]; try exact hh_146.1.1, fun q h9 hq => by rw [ht]; try exact hh_146.1.2.1 q h9 hq⟩) hh_146.1.2.2 dX11_batch_169
                · skip
                  have c_157' : v3_146.toInt < qs_141.toInt := jb_ge_n (rfl) (rfl) c_157
                  have hnb := jEd.nx (hr_142_2.mono (by omega) : jSn _ _ _ 1500) (k := v3_146.toInt) (by omega) (by omega)
                  refine lv_aload_n hx hb dX11_batch_105 rfl (lv_at hl 2 rfl) ?_
                  obtain ⟨v_159, hv_159, hh_160⟩ := hh_146.pin (C := RX1) (T := TX1) (N := 17) hB3 rfl (by decide) hg_148 (i := 2) (by decide) rfl
                  clear hh_146
                  obtain ⟨text_161, rfl, hg_text_161⟩ := hv_159
                  refine j7_read hx hb hown hK (C := RX1) (T := TX1) (N := 17) rfl hly_3_2 hlk_174 (hh_160.at 0 rfl) dX11_batch_106 ?_
                  refine lv_aload_n hx hb dX11_batch_109 rfl (lv_at hl 2 rfl) ?_
                  refine j7_read hx hb hown hK (C := RX1) (T := TX1) (N := 17) rfl hly_3_5 hlk_182 (hh_160.at 6 rfl) dX11_batch_110 ?_
                  refine lv_iload_n hx hb dX11_batch_113 rfl (lv_at hl 3 rfl) ?_
                  refine j7_ialdM hx hb hK hh_160 hB171 1 rfl (by decide) hg_152 (x := v3_146.toInt) (rfl) (by omega) (j := 0) rfl dX11_batch_114 (fun z_162 ez_162 (hz_162 : 0 ≤ z_162.toInt ∧ z_162.toInt ≤ 1500) => ?_)
                  have hqz_162 : z_162.toInt = jSo gb_141 (v3_146.toInt) := by unfold jSo; rw [ez_162]
                  refine lv_aload_n hx hb dX11_batch_115 rfl (lv_at hl 2 rfl) ?_
                  refine j7_read hx hb hown hK (C := RX1) (T := TX1) (N := 17) rfl hly_3_6 hlk_185 (hh_160.at 7 rfl) dX11_batch_116 ?_
                  refine lv_iload_n hx hb dX11_batch_119 rfl (lv_at hl 3 rfl) ?_
                  refine j7_ialdM hx hb hK hh_160 hB172 1 rfl (by decide) hg_153 (x := v3_146.toInt) (rfl) (by omega) (j := 1) rfl dX11_batch_120 (fun z_163 ez_163 (hz_163 : 0 ≤ z_163.toInt ∧ z_163.toInt ≤ 1500) => ?_)
                  have hqz_163 : z_163.toInt = jSo ge_141 (v3_146.toInt) := by unfold jSo; rw [ez_163]
                  have hsz_164 := hh_160.2.2.2.2.2.1
                  have htt_164 := hh_160.2.2.2.2.2.2.1
                  refine W.room (fun hrc_164 hrs_164 => ?_)
                  refine j_callx (A0 := jA base) (H0 := s.heap) (va_runS (As := [.ref text_161, .int z_162, .int z_163]) (rest := []) ⟨hx, hb, hml, hown, hts⟩ (uJ7_copyOfRange_feeccU l dC dI ca base B hB hAp hB101 hB280 Gx_146 H_146 text_161 z_162 z_163 1500 LC LS) (va_cwS 3 hts (jgS (jWr_77 _ (List.mem_of_getElem? (i := 21) rfl)) (jWr_77 _ (List.mem_of_getElem? (i := 22) rfl)) (jWr_16 _ (List.mem_of_getElem? (i := 7) rfl)) (jWr_77 _ (List.mem_of_getElem? (i := 23) rfl))) rfl rfl rfl (by decide +kernel) ⟨by rw [← hR]; exact Nat.le_of_ble_eq_true rfl, by rw [← hR]; exact Nat.le_of_ble_eq_true rfl⟩) ⟨fun a U g mk q => by obtain ⟨q0, q1, q2, qK, q10, q11, q12, q13⟩ := q; exact ⟨q0, q1, q2, jG.calling g mk a qK, (jK8.calling g mk a q10), q11, q12, q13⟩, fun U hU hW => ⟨rfl, hU, hh_160.2.1, hG.step hW hU hh_160.1, (jK8.warm hW hK8), hg_text_161, jP.nil, by first | omega | (refine ⟨?_, ?_, ?_, ?_⟩ <;> (first | omega | rfl | assumption | decide | exact Or.inl rfl | exact Or.inr rfl | (simp only; omega)))⟩⟩ rfl rfl hl.1 rfl (lv_room (Nat.le_of_ble_eq_true rfl)) dX11_batch_121 ⟨by rw [hRc]; omega, by rw [hRs]; omega⟩) hh_160.1 (fun q _ h => h) (fun q h => h) (fun r_165 u_164 t_164 H_164 locs_164 ht_164 hvm_164 hr_165 hb_164 hz_164 hk_164 hS_164 => ?_)
                  rw [ht_164] at hb_164
                  obtain ⟨m_ret_164, G_164⟩ := u_164
                  simp only at hb_164
                  obtain ⟨⟨hb_1641, hb_1642, hb_1643, hb_1644, hb_1645, hb_1646⟩, hN_164, hbK_164⟩ := hb_164
                  have hE9_164 := hN_164
                  have hM_164 := hN_164
                  have hN_164 : (jNk [0, 1, 2, 4, 6, 7, 8, 9, 10, 12, 13, 14, 15, 16]) Gx_146 G_164 := hN_164.sub (by decide)
                  have hh_164 : jSt (dC, dI) B base G0 G_164 EX11_batch s.heap (zcx_146 + (1)) (zsx_146 + (m_ret_164)) [(spare_13, 3, 2, .ref text_161), (spare_13, 3, 4, .int qs_141), (kernel_137, 7, 1, .ref syntax_140), (r0, 13, 5, .ref kernel_137), (spare_13, 3, 11, .ref chk_43), (spare_13, 3, 10, .int pk_37), (spare_13, 3, 5, .ref yb_37), (spare_13, 3, 6, .ref ye_37), (r0, 13, 18, .int (-2)), (r0, 13, 16, .ref spare_13), (r0, 13, 15, .ref H_14.size), (spare_13, 3, 3, .int ql_14), (ta, 2, 1, .int 0), (r0, 13, 0, .ref ta), (ta, 2, 0, .ref pr)] [(yb_37, 171, 40, ca 1, gb_141), (ye_37, 172, 40, ca 1, ge_141)] [(jFdo, jDcc dC dI ca Gx_146 none phn_143), (jFs11, jSef dC dI Gx_146), (jFy, jYb dC dI Gx_146), ([(2, 0), (2, 1)], jOl (dC, dI) G0 2 [ta] s.heap)] H_164 locs_164 := (hh_160.callG hb_1641 hb_1642 hb_1643 hb_1644 hb_1645 hS_164 rfl (L1 := [(spare_13, 3, 2, .ref text_161), (spare_13, 3, 4, .int qs_141), (kernel_137, 7, 1, .ref syntax_140), (r0, 13, 5, .ref kernel_137), (spare_13, 3, 11, .ref chk_43), (spare_13, 3, 10, .int pk_37), (spare_13, 3, 5, .ref yb_37), (spare_13, 3, 6, .ref ye_37), (r0, 13, 18, .int (-2)), (r0, 13, 16, .ref spare_13), (r0, 13, 15, .ref H_14.size), (spare_13, 3, 3, .int ql_14), (ta, 2, 1, .int 0), (r0, 13, 0, .ref ta), (ta, 2, 0, .ref pr)]) [0, 1, 2, 3, 4, 5, 6, 7, 8, 9, 10, 11, 12, 13, 14] rfl rfl (M1 := [(yb_37, 171, 40, ca 1, gb_141), (ye_37, 172, 40, ca 1, ge_141)]) [0, 1] rfl rfl (I1 := [(jFdo, jDcc dC dI ca Gx_146 none phn_143), (jFs11, jSef dC dI Gx_146), (jFy, jYb dC dI Gx_146), ([(2, 0), (2, 1)], jOl (dC, dI) G0 2 [ta] s.heap)]) [0, 1, 2, 3] rfl rfl).more hb_1646
                  have hNn_164 : (jNk [0, 1, 2, 4, 6, 7, 8, 9, 10, 12, 13, 14, 15, 16]) G0 G_164 := (hN_146).tr hN_164
                  have hg_166 := hb_1642 _ _ hg_147
                  have hg_167 := hb_1642 _ _ hg_148
                  have hg_168 := hb_1642 _ _ hg_text_161
                  have hg_169 := hb_1642 _ _ hg_149
                  have hg_170 := hb_1642 _ _ hg_150
                  have hg_171 := hb_1642 _ _ hg_151
                  have hg_172 := hb_1642 _ _ hg_152
                  have hg_173 := hb_1642 _ _ hg_153
                  have hg_174 := hb_1642 _ _ hg_154
                  have hg_175 := hb_1642 _ _ hg_155
                  have hg_176 := hb_1642 _ _ hg_156
                  have hd_177 := jDcc.grow (hh_164.iv 0 rfl) hb_1642 hE9_164 (by decide)
                  have hh_178 := hh_164.sub (L1 := [(spare_13, 3, 2, .ref text_161), (spare_13, 3, 4, .int qs_141), (kernel_137, 7, 1, .ref syntax_140), (r0, 13, 5, .ref kernel_137), (spare_13, 3, 11, .ref chk_43), (spare_13, 3, 10, .int pk_37), (spare_13, 3, 5, .ref yb_37), (spare_13, 3, 6, .ref ye_37), (r0, 13, 18, .int (-2)), (r0, 13, 16, .ref spare_13), (r0, 13, 15, .ref H_14.size), (spare_13, 3, 3, .int ql_14), (ta, 2, 1, .int 0), (r0, 13, 0, .ref ta), (ta, 2, 0, .ref pr)]) [0, 1, 2, 3, 4, 5, 6, 7, 8, 9, 10, 11, 12, 13, 14] rfl (M1 := [(yb_37, 171, 40, ca 1, gb_141), (ye_37, 172, 40, ca 1, ge_141)]) [0, 1] rfl (I1 := [(jFs11, jSef dC dI Gx_146), (jFy, jYb dC dI Gx_146), ([(2, 0), (2, 1)], jOl (dC, dI) G0 2 [ta] s.heap)]) [1, 2, 3] rfl
                  clear hh_164
                  have hh_179 := hh_178.addI (jDcc.ie hd_177)
                  clear hh_178
                  have hd_180 := jSef.grow (hh_179.iv 1 rfl) hb_1642 hM_164 (by decide)
                  have hh_181 := hh_179.sub (L1 := [(spare_13, 3, 2, .ref text_161), (spare_13, 3, 4, .int qs_141), (kernel_137, 7, 1, .ref syntax_140), (r0, 13, 5, .ref kernel_137), (spare_13, 3, 11, .ref chk_43), (spare_13, 3, 10, .int pk_37), (spare_13, 3, 5, .ref yb_37), (spare_13, 3, 6, .ref ye_37), (r0, 13, 18, .int (-2)), (r0, 13, 16, .ref spare_13), (r0, 13, 15, .ref H_14.size), (spare_13, 3, 3, .int ql_14), (ta, 2, 1, .int 0), (r0, 13, 0, .ref ta), (ta, 2, 0, .ref pr)]) [0, 1, 2, 3, 4, 5, 6, 7, 8, 9, 10, 11, 12, 13, 14] rfl (M1 := [(yb_37, 171, 40, ca 1, gb_141), (ye_37, 172, 40, ca 1, ge_141)]) [0, 1] rfl (I1 := [(jFdo, jDcc dC dI ca G_164 none phn_143), (jFy, jYb dC dI Gx_146), ([(2, 0), (2, 1)], jOl (dC, dI) G0 2 [ta] s.heap)]) [0, 2, 3] rfl
                  clear hh_179
                  have hh_182 := hh_181.addI (jSef.ie hd_180)
                  clear hh_181
                  have hd_183 := jYb.grow (hh_182.iv 2 rfl) hb_1642 hN_164 (by decide)
                  have hh_184 := hh_182.sub (L1 := [(spare_13, 3, 2, .ref text_161), (spare_13, 3, 4, .int qs_141), (kernel_137, 7, 1, .ref syntax_140), (r0, 13, 5, .ref kernel_137), (spare_13, 3, 11, .ref chk_43), (spare_13, 3, 10, .int pk_37), (spare_13, 3, 5, .ref yb_37), (spare_13, 3, 6, .ref ye_37), (r0, 13, 18, .int (-2)), (r0, 13, 16, .ref spare_13), (r0, 13, 15, .ref H_14.size), (spare_13, 3, 3, .int ql_14), (ta, 2, 1, .int 0), (r0, 13, 0, .ref ta), (ta, 2, 0, .ref pr)]) [0, 1, 2, 3, 4, 5, 6, 7, 8, 9, 10, 11, 12, 13, 14] rfl (M1 := [(yb_37, 171, 40, ca 1, gb_141), (ye_37, 172, 40, ca 1, ge_141)]) [0, 1] rfl (I1 := [(jFs11, jSef dC dI G_164), (jFdo, jDcc dC dI ca G_164 none phn_143), ([(2, 0), (2, 1)], jOl (dC, dI) G0 2 [ta] s.heap)]) [0, 1, 3] rfl
                  clear hh_182
                  have hh_185 := hh_184.addI (jYb.ie hd_183)
                  clear hh_184
                  obtain ⟨hr_165, hr_165n, hr_165p⟩ := hr_165
                  try simp only at hr_165p
                  obtain ⟨ret_186, rfl, hg_ret_186⟩ := hr_165
                  have hsy_164 : s.heap.size ≤ ret_186 := Nat.le_trans hh_160.1.1 hr_165n.le
                  refine lv_astore (lv' := [(4, .ref ret_186), (0, .ref r0), (1, .int a1), (2, .ref spare_13), (3, .int v3_146)]) hx hb dX11_batch_124 hl (by decide) rfl (fun ls hl => ?_)
                  refine lv_aload_n hx hb dX11_batch_126 rfl (lv_at hl 3 rfl) ?_
                  obtain ⟨v_187, hv_187, hh_188⟩ := hh_185.pin (C := RX1) (T := TX1) (N := 17) hB3 rfl (by decide) hg_167 (i := 9) (by decide) rfl
                  clear hh_185
                  obtain ⟨behind_189, rfl, hg_behind_189⟩ := hv_187
                  refine j7_read hx hb hown hK (C := RX1) (T := TX1) (N := 17) rfl hly_3_9 hlk_178 (hh_188.at 0 rfl) dX11_batch_127 ?_
                  refine lv_iload_n hx hb dX11_batch_130 rfl (lv_at hl 4 rfl) ?_
                  refine lv_aload_n hx hb dX11_batch_131 rfl (lv_at hl 1 rfl) ?_
                  refine j7_read hx hb hown hK (C := RX11) (T := TX11) (N := 19) rfl hly_13_5 hlk_41 (hh_188.at 4 rfl) dX11_batch_132 ?_
                  refine lv_aload_n hx hb dX11_batch_135 rfl (lv_at hl 3 rfl) ?_
                  refine lv_iload_n hx hb dX11_batch_136 rfl (lv_at hl 4 rfl) ?_
                  refine lv_aload_n hx hb dX11_batch_137 rfl (lv_at hl 1 rfl) ?_
                  refine j7_read hx hb hown hK (C := RX11) (T := TX11) (N := 19) rfl hly_13_5 hlk_41 (hh_188.at 4 rfl) dX11_batch_138 ?_
                  obtain ⟨v_190, hv_190, hh_191⟩ := hh_188.pin (C := RX5) (T := TX5) (N := 11) hB7 rfl (by decide) hg_170 (i := 2) (by decide) rfl
                  clear hh_188
                  obtain ⟨start_192, rfl, hg_start_192⟩ := hv_190
                  refine j7_read hx hb hown hK (C := RX5) (T := TX5) (N := 11) rfl hly_7_2 hlk_217 (hh_191.at 0 rfl) dX11_batch_141 ?_
                  have hsz_193 := hh_191.2.2.2.2.2.1
                  have htt_193 := hh_191.2.2.2.2.2.2.1
                  refine W.room (fun hrc_193 hrs_193 => ?_)
                  refine j_callx (A0 := jA base) (H0 := s.heap) (va_runV (As := [.int v3_146, .ref start_192]) (rest := [.ref kernel_137, .int v3_146, .ref behind_189]) ⟨hx, hb, hml, hown, hts⟩ (uX1_stateBehind l dC dI ca base B hB hAp hB3 hB11 hB210 G_164 H_164 spare_13 v3_146 start_192 1) (cwV 2 hts (jgV (jWr_30 _ (List.mem_of_getElem? (i := 9) rfl)) (jWr_30 _ (List.mem_of_getElem? (i := 10) rfl)) (jWr_30 _ (List.mem_of_getElem? (i := 11) rfl)) (jWr_2 _ (List.mem_of_getElem? (i := 21) rfl)) (jWr_30 _ (List.mem_of_getElem? (i := 12) rfl))) rfl rfl rfl (by decide +kernel) ⟨by rw [← hR]; exact Nat.le_of_ble_eq_true rfl, by rw [← hR]; exact Nat.le_of_ble_eq_true rfl⟩) ⟨fun a U g mk q => by obtain ⟨q0, q1, q2, qK, q10, q11, q12, q13, q14⟩ := q; exact ⟨q0, q1, q2, jG.calling g mk a qK, (va_K.moved (Vm.Alike.refl U.vm) q10), q11, q12, q13, q14⟩, hh_191.recv (C := RX1) (T := TX1) (N := 17) hB3 rfl (by decide) hg_167 hK, fun U hU hW => ⟨rfl, hU, hh_191.2.1, hG.step hW hU hh_191.1, va_K.moved hW.alike hK2, hg_167, hg_start_192, jP.nil, trivial⟩⟩ rfl rfl hl.1 rfl (lv_room (Nat.le_of_ble_eq_true rfl)) dX11_batch_144 ⟨by rw [hRc]; show _ + 0 ≤ _; omega, by rw [hRs]; show _ + 0 ≤ _; omega⟩) hh_191.1 (fun q _ h => h) (fun q h => h) (fun r_194 u_193 t_193 H_193 locs_193 ht_193 hvm_193 hr_194 hb_193 hz_193 hk_193 hS_193 => ?_)
                  rw [ht_193] at hb_193
                  obtain ⟨hb_1931, hb_1932, hb_1933, hb_1934, hb_1935⟩ := hb_193
                  have hh_193 : jSt (dC, dI) B base G0 G_164 EX11_batch s.heap (zcx_146 + (1)) (zsx_146 + (m_ret_164)) [(kernel_137, 7, 2, .ref start_192), (spare_13, 3, 9, .ref behind_189), (spare_13, 3, 2, .ref text_161), (spare_13, 3, 4, .int qs_141), (kernel_137, 7, 1, .ref syntax_140), (r0, 13, 5, .ref kernel_137), (spare_13, 3, 11, .ref chk_43), (spare_13, 3, 10, .int pk_37), (spare_13, 3, 5, .ref yb_37), (spare_13, 3, 6, .ref ye_37), (r0, 13, 18, .int (-2)), (r0, 13, 16, .ref spare_13), (r0, 13, 15, .ref H_14.size), (spare_13, 3, 3, .int ql_14), (ta, 2, 1, .int 0), (r0, 13, 0, .ref ta), (ta, 2, 0, .ref pr)] [(yb_37, 171, 40, ca 1, gb_141), (ye_37, 172, 40, ca 1, ge_141)] [(jFy, jYb dC dI G_164), (jFs11, jSef dC dI G_164), (jFdo, jDcc dC dI ca G_164 none phn_143), ([(2, 0), (2, 1)], jOl (dC, dI) G0 2 [ta] s.heap)] H_193 locs_193 := ((hh_191.call hb_1931 hb_1932 hb_1933 hb_1934 hS_193 rfl (L1 := [(kernel_137, 7, 2, .ref start_192), (spare_13, 3, 9, .ref behind_189), (spare_13, 3, 2, .ref text_161), (spare_13, 3, 4, .int qs_141), (kernel_137, 7, 1, .ref syntax_140), (r0, 13, 5, .ref kernel_137), (spare_13, 3, 11, .ref chk_43), (spare_13, 3, 10, .int pk_37), (spare_13, 3, 5, .ref yb_37), (spare_13, 3, 6, .ref ye_37), (r0, 13, 18, .int (-2)), (r0, 13, 16, .ref spare_13), (r0, 13, 15, .ref H_14.size), (spare_13, 3, 3, .int ql_14), (ta, 2, 1, .int 0), (r0, 13, 0, .ref ta), (ta, 2, 0, .ref pr)]) [0, 1, 2, 3, 4, 5, 6, 7, 8, 9, 10, 11, 12, 13, 14, 15, 16] rfl rfl (M1 := [(yb_37, 171, 40, ca 1, gb_141), (ye_37, 172, 40, ca 1, ge_141)]) [0, 1] rfl rfl (I1 := [(jFy, jYb dC dI G_164), (jFs11, jSef dC dI G_164), (jFdo, jDcc dC dI ca G_164 none phn_143), ([(2, 0), (2, 1)], jOl (dC, dI) G0 2 [ta] s.heap)]) [0, 1, 2, 3] rfl rfl).more hb_1935)
                  clear hh_191 ht_193 hvm_193 hz_193 hk_193 hS_193 hb_1931 hb_1932 hb_1933 hb_1934 hb_1935
                  obtain ⟨ret_195, rfl, hg_ret_195⟩ := hr_194
                  refine lv_aload hx hb dX11_batch_147 (lv_at hl 0 rfl) ?_
                  refine lv_aload_n hx hb dX11_batch_149 rfl (lv_at hl 3 rfl) ?_
                  obtain ⟨v_196, hv_196, hh_197⟩ := hh_193.pin (C := RX1) (T := TX1) (N := 17) hB3 rfl (by decide) hg_167 (i := 8) (by decide) rfl
                  clear hh_193
                  obtain ⟨early_198, rfl, hg_early_198⟩ := hv_196
                  refine j7_read hx hb hown hK (C := RX1) (T := TX1) (N := 17) rfl hly_3_8 hlk_225 (hh_197.at 0 rfl) dX11_batch_150 ?_
                  refine lv_iload_n hx hb dX11_batch_153 rfl (lv_at hl 4 rfl) ?_
                  refine j7_iald hx hb hK hh_197 hB101 1 rfl (by decide) hg_early_198 (x := v3_146.toInt) (rfl) (by omega) dX11_batch_154 (fun z_199 (hz_199 : True) => ?_)
                  have hsz_200 := hh_197.2.2.2.2.2.1
                  have htt_200 := hh_197.2.2.2.2.2.2.1
                  refine W.room (fun hrc_200 hrs_200 => ?_)
                  refine j_callx (A0 := jA base) (H0 := s.heap) (va_runV (As := [.ref ret_195, .ref ret_186, .int z_199]) (rest := [.int v3_146, .ref behind_189]) ⟨hx, hb, hml, hown, hts⟩ (uX5_checkS l dC dI ca base B hB hAp hB5 hB7 hB8 hB11 hB12 hB101 hB102 hB132 hB133 hB211 hB214 hB280 hB290 hB291 hB292 hB293 hB313 hB315 G_164 H_193 kernel_137 ret_195 ret_186 z_199 m_ret_164 (min 1 (m_ret_164 / 3)) LC LS) (cwV 3 hts (jgV (jWr_78 _ (List.mem_of_getElem? (i := 14) rfl)) (jWr_78 _ (List.mem_of_getElem? (i := 15) rfl)) (jWr_78 _ (List.mem_of_getElem? (i := 16) rfl)) (jWr_2 _ (List.mem_of_getElem? (i := 4) rfl)) (jWr_78 _ (List.mem_of_getElem? (i := 17) rfl))) rfl rfl rfl (by decide +kernel) ⟨by rw [← hR]; exact Nat.le_of_ble_eq_true rfl, by rw [← hR]; exact Nat.le_of_ble_eq_true rfl⟩) ⟨fun a U g mk q => by obtain ⟨q0, q1, q2, qK, q10, q11, q12, q13, q14, q15, q16, q17, q18⟩ := q; exact ⟨q0, q1, q2, jG.calling g mk a qK, (va_K.moved (Vm.Alike.refl U.vm) q10), (jK5.moved (Vm.Alike.refl U.vm) q11), (jK6.moved (Vm.Alike.refl U.vm) q12), q13, q14, q15, q16, q17, q18⟩, hh_197.recv (C := RX5) (T := TX5) (N := 11) hB7 rfl (by decide) hg_170 hK, fun U hU hW => ⟨rfl, hU, hh_197.2.1, hG.step hW hU hh_197.1, va_K.moved hW.alike hK2, jK5.moved hW.alike hK5, jK6.moved hW.alike hK6, hg_170, hg_ret_195, hg_ret_186, jP.nil, (hh_197.2.2.2.2.2.2.2.2.sub (L1 := [(jFs11, jSef dC dI G_164)]) [1] rfl), by first | omega | (refine ⟨?_, ?_⟩ <;> (first | omega | rfl | assumption | decide | exact Or.inl rfl | exact Or.inr rfl | (simp only; omega)))⟩⟩ rfl rfl hl.1 rfl (lv_room (Nat.le_of_ble_eq_true rfl)) dX11_batch_155 ⟨by rw [hRc]; omega, by rw [hRs]; omega⟩) hh_197.1 (fun q _ h => h) (fun q h => h) (fun r_201 u_200 t_200 H_200 locs_200 ht_200 hvm_200 hr_201 hb_200 hz_200 hk_200 hS_200 => ?_)
                  rw [ht_200] at hb_200
                  obtain ⟨G_200, rfl⟩ : ∃ z, z = u_200 := ⟨_, rfl⟩
                  try simp only at hb_200
                  obtain ⟨⟨hb_2001, hb_2002, hb_2003, hb_2004, hb_2005, hb_2006⟩, hN_200, hbE_200⟩ := hb_200
                  have hE9_200 := hN_200
                  have hN_200 : (jNk [0, 1, 2, 4, 6, 7, 8, 9, 10, 12, 13, 14, 15, 16]) G_164 G_200 := hN_200.sub (by decide)
                  have hh_200 : jSt (dC, dI) B base G0 G_200 EX11_batch s.heap ((zcx_146 + (1)) + (23)) ((zsx_146 + (m_ret_164)) + ((183 + 336 * (min 1 (m_ret_164 / 3))))) [(spare_13, 3, 8, .ref early_198), (kernel_137, 7, 2, .ref start_192), (spare_13, 3, 9, .ref behind_189), (spare_13, 3, 2, .ref text_161), (spare_13, 3, 4, .int qs_141), (kernel_137, 7, 1, .ref syntax_140), (r0, 13, 5, .ref kernel_137), (spare_13, 3, 11, .ref chk_43), (spare_13, 3, 10, .int pk_37), (spare_13, 3, 5, .ref yb_37), (spare_13, 3, 6, .ref ye_37), (r0, 13, 18, .int (-2)), (r0, 13, 16, .ref spare_13), (r0, 13, 15, .ref H_14.size), (spare_13, 3, 3, .int ql_14), (ta, 2, 1, .int 0), (r0, 13, 0, .ref ta), (ta, 2, 0, .ref pr)] [(yb_37, 171, 40, ca 1, gb_141), (ye_37, 172, 40, ca 1, ge_141)] [(jFy, jYb dC dI G_164), (jFdo, jDcc dC dI ca G_164 none phn_143), ([(2, 0), (2, 1)], jOl (dC, dI) G0 2 [ta] s.heap)] H_200 locs_200 := (hh_197.callG hb_2001 hb_2002 hb_2003 hb_2004 hb_2005 hS_200 rfl (L1 := [(spare_13, 3, 8, .ref early_198), (kernel_137, 7, 2, .ref start_192), (spare_13, 3, 9, .ref behind_189), (spare_13, 3, 2, .ref text_161), (spare_13, 3, 4, .int qs_141), (kernel_137, 7, 1, .ref syntax_140), (r0, 13, 5, .ref kernel_137), (spare_13, 3, 11, .ref chk_43), (spare_13, 3, 10, .int pk_37), (spare_13, 3, 5, .ref yb_37), (spare_13, 3, 6, .ref ye_37), (r0, 13, 18, .int (-2)), (r0, 13, 16, .ref spare_13), (r0, 13, 15, .ref H_14.size), (spare_13, 3, 3, .int ql_14), (ta, 2, 1, .int 0), (r0, 13, 0, .ref ta), (ta, 2, 0, .ref pr)]) [0, 1, 2, 3, 4, 5, 6, 7, 8, 9, 10, 11, 12, 13, 14, 15, 16, 17] rfl rfl (M1 := [(yb_37, 171, 40, ca 1, gb_141), (ye_37, 172, 40, ca 1, ge_141)]) [0, 1] rfl rfl (I1 := [(jFy, jYb dC dI G_164), (jFdo, jDcc dC dI ca G_164 none phn_143), ([(2, 0), (2, 1)], jOl (dC, dI) G0 2 [ta] s.heap)]) [0, 2, 3] rfl rfl).more hb_2006
                  have hNn_200 : (jNk [0, 1, 2, 4, 6, 7, 8, 9, 10, 12, 13, 14, 15, 16]) G0 G_200 := (hNn_164).tr hN_200
                  have hg_202 := hb_2002 _ _ hg_ret_186
                  have hg_203 := hb_2002 _ _ hg_166
                  have hg_204 := hb_2002 _ _ hg_167
                  have hg_205 := hb_2002 _ _ hg_behind_189
                  have hg_206 := hb_2002 _ _ hg_early_198
                  have hg_207 := hb_2002 _ _ hg_start_192
                  have hg_208 := hb_2002 _ _ hg_168
                  have hg_209 := hb_2002 _ _ hg_169
                  have hg_210 := hb_2002 _ _ hg_170
                  have hg_211 := hb_2002 _ _ hg_171
                  have hg_212 := hb_2002 _ _ hg_172
                  have hg_213 := hb_2002 _ _ hg_173
                  have hg_214 := hb_2002 _ _ hg_174
                  have hg_215 := hb_2002 _ _ hg_175
                  have hg_216 := hb_2002 _ _ hg_176
                  have hd_217 := jYb.grow (hh_200.iv 0 rfl) hb_2002 hN_200 (by decide)
                  have hh_218 := hh_200.sub (L1 := [(spare_13, 3, 8, .ref early_198), (kernel_137, 7, 2, .ref start_192), (spare_13, 3, 9, .ref behind_189), (spare_13, 3, 2, .ref text_161), (spare_13, 3, 4, .int qs_141), (kernel_137, 7, 1, .ref syntax_140), (r0, 13, 5, .ref kernel_137), (spare_13, 3, 11, .ref chk_43), (spare_13, 3, 10, .int pk_37), (spare_13, 3, 5, .ref yb_37), (spare_13, 3, 6, .ref ye_37), (r0, 13, 18, .int (-2)), (r0, 13, 16, .ref spare_13), (r0, 13, 15, .ref H_14.size), (spare_13, 3, 3, .int ql_14), (ta, 2, 1, .int 0), (r0, 13, 0, .ref ta), (ta, 2, 0, .ref pr)]) [0, 1, 2, 3, 4, 5, 6, 7, 8, 9, 10, 11, 12, 13, 14, 15, 16, 17] rfl (M1 := [(yb_37, 171, 40, ca 1, gb_141), (ye_37, 172, 40, ca 1, ge_141)]) [0, 1] rfl (I1 := [(jFdo, jDcc dC dI ca G_164 none phn_143), ([(2, 0), (2, 1)], jOl (dC, dI) G0 2 [ta] s.heap)]) [1, 2] rfl
                  clear hh_200
                  have hh_219 := hh_218.addI (jYb.ie hd_217)
                  clear hh_218
                  have hd_220 := jDcc.grow (hh_219.iv 1 rfl) hb_2002 hE9_200 (by decide)
                  have hh_221 := hh_219.sub (L1 := [(spare_13, 3, 8, .ref early_198), (kernel_137, 7, 2, .ref start_192), (spare_13, 3, 9, .ref behind_189), (spare_13, 3, 2, .ref text_161), (spare_13, 3, 4, .int qs_141), (kernel_137, 7, 1, .ref syntax_140), (r0, 13, 5, .ref kernel_137), (spare_13, 3, 11, .ref chk_43), (spare_13, 3, 10, .int pk_37), (spare_13, 3, 5, .ref yb_37), (spare_13, 3, 6, .ref ye_37), (r0, 13, 18, .int (-2)), (r0, 13, 16, .ref spare_13), (r0, 13, 15, .ref H_14.size), (spare_13, 3, 3, .int ql_14), (ta, 2, 1, .int 0), (r0, 13, 0, .ref ta), (ta, 2, 0, .ref pr)]) [0, 1, 2, 3, 4, 5, 6, 7, 8, 9, 10, 11, 12, 13, 14, 15, 16, 17] rfl (M1 := [(yb_37, 171, 40, ca 1, gb_141), (ye_37, 172, 40, ca 1, ge_141)]) [0, 1] rfl (I1 := [(jFy, jYb dC dI G_200), ([(2, 0), (2, 1)], jOl (dC, dI) G0 2 [ta] s.heap)]) [0, 2] rfl
                  clear hh_219
                  have hh_222 := hh_221.addI (jDcc.ie hd_220)
                  clear hh_221
                  have hh_223 := hh_222.addIs hbE_200
                  obtain ⟨hr_201, hr_201p⟩ := hr_201
                  try simp only at hr_201p
                  obtain ⟨ret_224, rfl, hg_ret_224⟩ := hr_201
                  refine j7_qast hx hb hK2 hh_223 hB hB210 2 rfl (by decide) (by decide) rfl rfl rfl hg_205 (x := v3_146.toInt) (rfl) (by omega) hB11 (T := TX9) (N := 9) rfl (by decide) hg_ret_224 (Or.inr ⟨_, rfl, hg_ret_224⟩) dX11_batch_158 (fun H_225 locs_225 hh_225 => ?_)
                  clear hh_223
                  obtain ⟨z_226, ez_226⟩ : ∃ y : Int32, y = v3_146 + 1 := ⟨_, rfl⟩
                  refine lv_iinc (v := z_226) (lv' := [(3, .int z_226), (4, .ref ret_186), (0, .ref r0), (1, .int a1), (2, .ref spare_13)]) hx hb dX11_batch_159 hl (k := 4) rfl (by rw [ez_226]; rfl) (by decide) rfl (fun ls hl => ?_)
                  have hz_226 : z_226.toInt = v3_146.toInt + 1 := by rw [ez_226]; exact jb_iadd2 (rfl) (by decide) (by omega)
                  have hje := jEd.to hnb.2.2.1 (k1 := (v3_146.toInt + 1)) (by omega)
                  refine lv_goto (tgt := 97) hx hb dX11_batch_162 (by decide) ?_
                  refine W.tight (c2 := ((zcx_146 + (1)) + (23))) (n2 := ((zsx_146 + (m_ret_164)) + ((183 + 336 * (min 1 (m_ret_164 / 3)))))) hh_225.2.2.2.2.2.1 hh_225.2.2.2.2.2.2.1 ?_
                  exact L97 G_200 ((zcx_146 + (1)) + (23)) ((zsx_146 + (m_ret_164)) + ((183 + 336 * (min 1 (m_ret_164 / 3))))) z_226 _ _ (hh_225.sub (L1 := [(spare_13, 3, 4, .int qs_141), (kernel_137, 7, 1, .ref syntax_140), (r0, 13, 5, .ref kernel_137), (spare_13, 3, 11, .ref chk_43), (spare_13, 3, 10, .int pk_37), (spare_13, 3, 5, .ref yb_37), (spare_13, 3, 6, .ref ye_37), (r0, 13, 18, .int (-2)), (r0, 13, 16, .ref spare_13), (r0, 13, 15, .ref H_14.size), (spare_13, 3, 3, .int ql_14), (ta, 2, 1, .int 0), (r0, 13, 0, .ref ta), (ta, 2, 0, .ref pr)]) [4, 5, 6, 7, 8, 9, 10, 11, 12, 13, 14, 15, 16, 17] rfl (M1 := [(yb_37, 171, 40, ca 1, gb_141), (ye_37, 172, 40, ca 1, ge_141)]) [0, 1] rfl (I1 := [(jFdo, jDcc dC dI ca G_200 none phn_143), (jFs11, jSef dC dI G_200), (jFy, jYb dC dI G_200), ([(2, 0), (2, 1)], jOl (dC, dI) G0 2 [ta] s.heap)]) [1, 0, 2, 3] rfl) (hNn_200) (((hle_146).tr hb_1642).tr hb_2002) (by first | omega | (refine ⟨?_, ?_, ?_, ?_⟩ <;> (first | omega | rfl | assumption | decide | exact Or.inl rfl | exact Or.inr rfl | (simp only; omega)))) (by omega) _ (lv_sub hl [2, 3, 4, 0] rfl)
            refine W.tight (c2 := ((0 + 1) + (7))) (n2 := ((0 + 17) + (1700))) hh_145.2.2.2.2.2.1 hh_145.2.2.2.2.2.2.1 ?_
            exact L97 (qs_141.toInt - (0 : Int32).toInt : Int).toNat.succ G_21 ((0 + 1) + (7)) ((0 + 17) + (1700)) 0 _ _ hh_145 (hNn_21) (jLe.rf) (by first | omega | (refine ⟨?_, ?_, ?_, ?_⟩ <;> (first | omega | rfl | assumption | decide | exact Or.inl rfl | exact Or.inr rfl | (simp only; omega)))) (by omega) _ (lv_sub hl [2, 3, 1, 0] rfl)
        · refine j7_read hx hb hown hK (C := RX11) (T := TX11) (N := 19) rfl hly_13_16 hlk_200 (hh_18.at 0 rfl) dX11_batch_50 ?_
          refine lv_ifnonnull (tgt := 66) hx hb dX11_batch_53 (by decide) ?_
          refine lv_aload_n hx hb dX11_batch_66 rfl (lv_at hl 1 rfl) ?_
          refine j7_read hx hb hown hK (C := RX11) (T := TX11) (N := 19) rfl hly_13_16 hlk_200 (hh_18.at 0 rfl) dX11_batch_67 ?_
          refine j7_put hx hb hown hK hh_18 hB hAp hB13 (C := RX11) (T := TX11) (N := 19) rfl (by decide) hg_r0 (i := 15) (by decide) hly_13_15 rfl hlk_82 rfl (ty := (.object "ProofServer$Document")) (v := .ref latest_19) (by decide +kernel) rfl rfl (⟨_, rfl, hg_latest_19⟩) rfl (L1 := [(r0, 13, 16, .ref latest_19), (spare_13, 3, 3, .int ql_14), (ta, 2, 1, .int 0), (r0, 13, 0, .ref ta), (ta, 2, 0, .ref pr)]) [0, 1, 3, 4, 5] rfl rfl rfl dX11_batch_70 (fun H_227 locs_227 hh_227 => ?_)
          clear hh_18
          refine lv_aload_n hx hb dX11_batch_73 rfl (lv_at hl 1 rfl) ?_
          refine lv_aload_n hx hb dX11_batch_74 rfl (lv_at hl 0 rfl) ?_
          refine j7_put hx hb hown hK hh_227 hB hAp hB13 (C := RX11) (T := TX11) (N := 19) rfl (by decide) hg_r0 (i := 16) (by decide) hly_13_16 rfl hlk_200 rfl (ty := (.object "ProofServer$Document")) (v := .ref spare_13) (by decide +kernel) rfl rfl (Or.inr ⟨_, rfl, hg_spare_13⟩) rfl (L1 := [(r0, 13, 15, .ref latest_19), (spare_13, 3, 3, .int ql_14), (ta, 2, 1, .int 0), (r0, 13, 0, .ref ta), (ta, 2, 0, .ref pr)]) [0, 2, 3, 4, 5] rfl rfl rfl dX11_batch_75 (fun H_228 locs_228 hh_228 => ?_)
          clear hh_227
          refine lv_aload_n hx hb dX11_batch_78 rfl (lv_at hl 1 rfl) ?_
          refine lv_bipush (v := (-2)) hx hb dX11_batch_79 (by decide) ?_
          refine j7_put hx hb hown hK hh_228 hB hAp hB13 (C := RX11) (T := TX11) (N := 19) rfl (by decide) hg_r0 (i := 18) (by decide) hly_13_18 rfl hlk_89 rfl (ty := .int) (v := .int (-2)) (by decide +kernel) rfl rfl (⟨_, rfl⟩) rfl (L1 := [(r0, 13, 16, .ref spare_13), (r0, 13, 15, .ref latest_19), (spare_13, 3, 3, .int ql_14), (ta, 2, 1, .int 0), (r0, 13, 0, .ref ta), (ta, 2, 0, .ref pr)]) [0, 1, 2, 3, 4, 5] rfl rfl rfl dX11_batch_81 (fun H_229 locs_229 hh_229 => ?_)
          clear hh_228
          obtain ⟨yb_230, ye_230, w_230, pho_230, fb_230, fe_230, ps_230, pk_230, vc_230, hgb_230, hge_230, h5_230, h6_230, hd_230, hpq_230, hE_230, hpl_230, hpw_230⟩ := jDcc.opn (hh_229.iv 3 rfl) hg_spare_13
          have hh_232 := hh_229.sub (L1 := [(r0, 13, 18, .int (-2)), (r0, 13, 16, .ref spare_13), (r0, 13, 15, .ref latest_19), (spare_13, 3, 3, .int ql_14), (ta, 2, 1, .int 0), (r0, 13, 0, .ref ta), (ta, 2, 0, .ref pr)]) [0, 1, 2, 3, 4, 5, 6] rfl (M1 := []) [] rfl (I1 := [([(2, 0), (2, 1)], jOl (dC, dI) G0 2 [ta] s.heap), (jFy, jYb dC dI G0), (jFs11, jSef dC dI G0)]) [0, 1, 2] rfl
          clear hh_229
          have hh_233 := (hh_232.more (P1 := [(spare_13, 3, 4, .int ps_230), (spare_13, 3, 10, .int pk_230), (spare_13, 3, 5, .ref yb_230), (spare_13, 3, 6, .ref ye_230)]) (jP.cons hg_spare_13 (hd_230.1 _ (List.mem_of_getElem? (i := 0) rfl)).2 (jP.cons hg_spare_13 (hd_230.1 _ (List.mem_of_getElem? (i := 1) rfl)).2 (jP.cons hg_spare_13 h5_230 (jP.cons hg_spare_13 h6_230 jP.nil))))).moreM hd_230.2.1
          have hh_234 := hh_233.addI (jDcc.ie hE_230)
          clear hh_233
          have hps_230 := hd_230.2.2.2
          have hsn_230 := hd_230.2.2.1
          obtain ⟨v_235, hv_235, hh_230⟩ := hh_234.pin (C := RX1) (T := TX1) (N := 17) hB3 rfl (by decide) hg_spare_13 (i := 11) (by decide) rfl
          have hvq_230 : vc_230 = v_235 := jf.uniq (hd_230.1 _ (List.mem_of_getElem? (i := 2) rfl)).2 (hh_230.at 0 rfl)
          subst hvq_230
          clear hh_234
          rcases hv_235 with rfl | ⟨chk_236, nchk_236, rfl, hg_chk_236, hlen_chk_236⟩
          · skip
            refine lv_aload_n hx hb dX11_batch_84 rfl (lv_at hl 0 rfl) ?_
            refine lv_aload_n hx hb dX11_batch_85 rfl (lv_at hl 1 rfl) ?_
            obtain ⟨v_238, hv_238, hh_239⟩ := hh_230.pin (C := RX11) (T := TX11) (N := 19) hB13 rfl (by decide) hg_r0 (i := 5) (by decide) rfl
            clear hh_230
            obtain ⟨kernel_240, rfl, hg_kernel_240⟩ := hv_238
            refine j7_read hx hb hown hK (C := RX11) (T := TX11) (N := 19) rfl hly_13_5 hlk_41 (hh_239.at 0 rfl) dX11_batch_86 ?_
            obtain ⟨v_241, hv_241, hh_242⟩ := hh_239.pin (C := RX5) (T := TX5) (N := 11) hB7 rfl (by decide) hg_kernel_240 (i := 1) (by decide) rfl
            clear hh_239
            obtain ⟨syntax_243, rfl, hg_syntax_243⟩ := hv_241
            refine j7_read hx hb hown hK (C := RX5) (T := TX5) (N := 11) rfl hly_7_1 hlk_203 (hh_242.at 0 rfl) dX11_batch_89 ?_
            have hsz_244 := hh_242.2.2.2.2.2.1
            have htt_244 := hh_242.2.2.2.2.2.2.1
            refine W.room (fun hrc_244 hrs_244 => ?_)
            refine va_callv (A0 := jA base) (H0 := s.heap) (va_runV (As := [.ref syntax_243]) (rest := []) ⟨hx, hb, hml, hown, hts⟩ (uX1_partE l dC dI ca base B hB hAp hB3 hB8 hB12 hB101 hB102 hB132 hB133 hB171 hB172 hB293 G0 H_229 spare_13 syntax_243 1 ql_14 yb_230 ye_230 (pho_230) fb_230 fe_230) (cwV 1 hts (jgV (jWr_36 _ (List.mem_of_getElem? (i := 2) rfl)) (jWr_36 _ (List.mem_of_getElem? (i := 3) rfl)) (jWr_36 _ (List.mem_of_getElem? (i := 4) rfl)) (jWr_2 _ (List.mem_of_getElem? (i := 21) rfl)) (jWr_36 _ (List.mem_of_getElem? (i := 5) rfl))) rfl rfl rfl (by decide +kernel) ⟨by rw [← hR]; exact Nat.le_of_ble_eq_true rfl, by rw [← hR]; exact Nat.le_of_ble_eq_true rfl⟩) ⟨fun a U g mk q => by obtain ⟨q0, q1, q2, qK, q10, q11, q12, q13, q14, q15, q16, q17⟩ := q; exact ⟨q0, q1, q2, jG.calling g mk a qK, q10, q11, q12, q13, q14, q15, q16, q17⟩, hh_242.recv (C := RX1) (T := TX1) (N := 17) hB3 rfl (by decide) hg_spare_13 hK, fun U hU hW => ⟨rfl, hU, hh_242.2.1, hG.step hW hU hh_242.1, hg_spare_13, hg_syntax_243, hgb_230, hge_230, (hh_242.2.2.1.sub (L1 := [(spare_13, 3, 3, .int ql_14), (spare_13, 3, 5, .ref yb_230), (spare_13, 3, 6, .ref ye_230)]) [10, 5, 6] rfl), (hh_242.2.2.2.2.2.2.2.1.sub (L1 := [(yb_230, 171, 40, ca 1, fb_230), (ye_230, 172, 40, ca 1, fe_230)]) [0, 1] rfl), (hh_242.2.2.2.2.2.2.2.2.sub (L1 := [(jFdo, jDcc dC dI ca G0 (some spare_13) pho_230)]) [0] rfl), by first | omega | (refine ⟨?_, ?_⟩ <;> (first | omega | rfl | assumption | decide | exact Or.inl rfl | exact Or.inr rfl | (simp only; omega)))⟩⟩ rfl rfl hl.1 rfl (lv_room (Nat.le_of_ble_eq_true rfl)) dX11_batch_92 ⟨by rw [hRc]; show _ + 0 ≤ _; omega, by rw [hRs]; show _ + 0 ≤ _; omega⟩) hh_242.1 (fun q _ h => h) (fun q h => h) (fun u_244 t_244 H_244 locs_244 ht_244 hvm_244 hr_245 hb_244 hz_244 hk_244 hS_244 => ?_)
            obtain ⟨qs_244, gb_244, ge_244⟩ := u_244
            rw [ht_244] at hb_244
            obtain ⟨hb_244, hbE_244⟩ := hb_244
            obtain ⟨hb_244, hbO_244⟩ := hb_244
            obtain ⟨⟨hb_2441, hb_2442, hb_2443, hb_2444, hb_2445⟩, hb_2446⟩ := hb_244
            have hh_244 : jSt (dC, dI) B base G0 G0 EX11_batch s.heap 0 0 [(spare_13, 3, 4, .int qs_244), (kernel_240, 7, 1, .ref syntax_243), (r0, 13, 5, .ref kernel_240), (spare_13, 3, 11, .null), (spare_13, 3, 10, .int pk_230), (spare_13, 3, 5, .ref yb_230), (spare_13, 3, 6, .ref ye_230), (r0, 13, 18, .int (-2)), (r0, 13, 16, .ref spare_13), (r0, 13, 15, .ref latest_19), (spare_13, 3, 3, .int ql_14), (ta, 2, 1, .int 0), (r0, 13, 0, .ref ta), (ta, 2, 0, .ref pr)] [(yb_230, 171, 40, ca 1, gb_244), (ye_230, 172, 40, ca 1, ge_244)] [(jFdo, jDcc dC dI ca G0 (some spare_13) pho_230), ([(2, 0), (2, 1)], jOl (dC, dI) G0 2 [ta] s.heap), (jFy, jYb dC dI G0), (jFs11, jSef dC dI G0)] H_244 locs_244 := (((hh_242.call hb_2441 hb_2442 hb_2443 hb_2444 hS_244 rfl (L1 := [(kernel_240, 7, 1, .ref syntax_243), (r0, 13, 5, .ref kernel_240), (spare_13, 3, 11, .null), (spare_13, 3, 10, .int pk_230), (spare_13, 3, 5, .ref yb_230), (spare_13, 3, 6, .ref ye_230), (r0, 13, 18, .int (-2)), (r0, 13, 16, .ref spare_13), (r0, 13, 15, .ref latest_19), (spare_13, 3, 3, .int ql_14), (ta, 2, 1, .int 0), (r0, 13, 0, .ref ta), (ta, 2, 0, .ref pr)]) [0, 1, 2, 4, 5, 6, 7, 8, 9, 10, 11, 12, 13] rfl rfl (M1 := []) [] rfl rfl (I1 := [([(2, 0), (2, 1)], jOl (dC, dI) G0 2 [ta] s.heap), (jFy, jYb dC dI G0), (jFs11, jSef dC dI G0)]) [1, 2, 3] rfl rfl).more hb_2445).moreM hb_2446).addIs hbE_244
            clear hh_242 ht_244 hvm_244 hz_244 hk_244 hS_244 hb_2441 hb_2442 hb_2443 hb_2444 hb_2445
            clear hb_2446
            clear  hbE_244
            try simp only at hr_245
            obtain ⟨hr_245_0, hr_245_1, hr_245_2⟩ := hr_245
            obtain ⟨phn_246, hphn_246⟩ : ∃ q : Nat, q = pho_230 := ⟨_, rfl⟩
            have hF_246 := jDcc.full (ph1 := phn_246) (hh_244.iv 0 rfl) hg_spare_13 (hh_244.at 5 rfl) (hh_244.at 6 rfl) ⟨(hh_244.2.2.1.sub (L1 := [(spare_13, 3, 4, .int qs_244), (spare_13, 3, 10, .int pk_230), (spare_13, 3, 11, .null)]) [0, 4, 3] rfl), (hh_244.2.2.2.2.2.2.2.1.sub (L1 := [(yb_230, 171, 40, ca 1, gb_244), (ye_230, 172, 40, ca 1, ge_244)]) [0, 1] rfl), (hr_245_2.mono (by omega)), by omega⟩ (w := (575 * (qs_244.toInt - pk_230.toInt) + (1500 - jEd ge_244 pk_230.toInt)).toNat) (fun h9 => absurd h9 (by decide)) (by omega) (fun h9 => absurd h9 (by decide))
            have hh_247 := hh_244.sub (L1 := [(spare_13, 3, 4, .int qs_244), (kernel_240, 7, 1, .ref syntax_243), (r0, 13, 5, .ref kernel_240), (spare_13, 3, 11, .null), (spare_13, 3, 10, .int pk_230), (spare_13, 3, 5, .ref yb_230), (spare_13, 3, 6, .ref ye_230), (r0, 13, 18, .int (-2)), (r0, 13, 16, .ref spare_13), (r0, 13, 15, .ref latest_19), (spare_13, 3, 3, .int ql_14), (ta, 2, 1, .int 0), (r0, 13, 0, .ref ta), (ta, 2, 0, .ref pr)]) [0, 1, 2, 3, 4, 5, 6, 7, 8, 9, 10, 11, 12, 13] rfl (M1 := [(yb_230, 171, 40, ca 1, gb_244), (ye_230, 172, 40, ca 1, ge_244)]) [0, 1] rfl (I1 := [([(2, 0), (2, 1)], jOl (dC, dI) G0 2 [ta] s.heap), (jFy, jYb dC dI G0), (jFs11, jSef dC dI G0)]) [1, 2, 3] rfl
            clear hh_244
            have hh_248 := hh_247.addI (jDcc.ie hF_246)
            clear hh_247
            refine lv_iconst (v := 0) hx hb dX11_batch_95 (by decide) ?_
            refine lv_istore_n (lv' := [(3, .int 0), (2, .ref spare_13), (0, .ref r0), (1, .int a1)]) hx hb dX11_batch_96 rfl hl (by decide) rfl (fun ls hl => ?_)
            have L97 : ∀ (N : Nat) (Gx_249 : jT) (zcx_249 : Nat) (zsx_249 : Nat) (v3_249 : Int32) (H_249 : Heap) (locs_249 : List Loc), jSt (dC, dI) B base G0 Gx_249 EX11_batch s.heap zcx_249 zsx_249 [(spare_13, 3, 4, .int qs_244), (kernel_240, 7, 1, .ref syntax_243), (r0, 13, 5, .ref kernel_240), (spare_13, 3, 11, .null), (spare_13, 3, 10, .int pk_230), (spare_13, 3, 5, .ref yb_230), (spare_13, 3, 6, .ref ye_230), (r0, 13, 18, .int (-2)), (r0, 13, 16, .ref spare_13), (r0, 13, 15, .ref latest_19), (spare_13, 3, 3, .int ql_14), (ta, 2, 1, .int 0), (r0, 13, 0, .ref ta), (ta, 2, 0, .ref pr)] [(yb_230, 171, 40, ca 1, gb_244), (ye_230, 172, 40, ca 1, ge_244)] [(jFdo, jDcc dC dI ca Gx_249 none phn_246), ([(2, 0), (2, 1)], jOl (dC, dI) G0 2 [ta] s.heap), (jFy, jYb dC dI Gx_249), (jFs11, jSef dC dI Gx_249)] H_249 locs_249 → (jNk [0, 1, 2, 4, 6, 7, 8, 9, 10, 12, 13, 14, 15, 16]) G0 Gx_249 → jLe G0 Gx_249 → (0 ≤ v3_249.toInt ∧ v3_249.toInt ≤ qs_244.toInt ∧ zcx_249 ≤ 8 + 24 * v3_249.toInt ∧ zsx_249 ≤ 1720 + 185 * jEd ge_244 v3_249.toInt) → (qs_244.toInt - v3_249.toInt : Int) < N → ∀ ls : Array Slot, lv_has ls 5 [(0, .ref r0), (1, .int a1), (2, .ref spare_13), (3, .int v3_249)] → W p l e R s m ([.ref r0, .int a1] : List Value).toArray below meth c H_249 locs_249 zcx_249 zsx_249 Q (F0 m 97 ls []) := by
              intro N
              induction N with
              | zero => intro Gx_249 zcx_249 zsx_249 v3_249 H_249 locs_249 hh_249 hN_249 hle_249 hi_249 hm; exact absurd hm (by omega)
              | succ N L97 =>
                intro Gx_249 zcx_249 zsx_249 v3_249 H_249 locs_249 hh_249 hN_249 hle_249 hi_249 hm_249 ls hl
                have hg_250 := hle_249 _ _ hg_r0
                have hg_251 := hle_249 _ _ hg_spare_13
                have hg_252 := hle_249 _ _ hg_syntax_243
                have hg_253 := hle_249 _ _ hg_kernel_240
                have hg_254 := hle_249 _ _ hgb_230
                have hg_255 := hle_249 _ _ hge_230
                have hg_256 := hle_249 _ _ hg_latest_19
                have hg_257 := hle_249 _ _ hg_ta
                have hg_258 := hle_249 _ _ hg_pr
                obtain ⟨hi_249_0, hi_249_1, hi_249_2, hi_249_3⟩ := hi_249
                have hql := jSn.le hr_245_2 (by omega)
                refine lv_iload_n hx hb dX11_batch_97 rfl (lv_at hl 3 rfl) ?_
                refine lv_aload_n hx hb dX11_batch_98 rfl (lv_at hl 2 rfl) ?_
                refine j7_read hx hb hown hK (C := RX1) (T := TX1) (N := 17) rfl hly_3_4 hlk_168 (hh_249.at 0 rfl) dX11_batch_99 ?_
                refine lv_icmp_ge (tgt := 165) hx hb dX11_batch_102 (by decide) (fun c_259 => ?_) (fun c_259 => ?_)
                · skip
                  have c_259' : v3_249.toInt ≥ qs_244.toInt := jb_ge (rfl) (rfl) c_259
                  have hjl := jEd.le hr_245_2 (k := v3_249.toInt) (by omega) (by omega) (by omega)
                  refine lv_aload_n hx hb dX11_batch_165 rfl (lv_at hl 2 rfl) ?_
                  refine j7_read hx hb hown hK (C := RX1) (T := TX1) (N := 17) rfl hly_3_4 hlk_168 (hh_249.at 0 rfl) dX11_batch_166 ?_
                  have hsz_260 := hh_249.2.2.2.2.2.1
                  have htt_260 := hh_249.2.2.2.2.2.2.1
                  refine W.room (fun hrc_260 hrs_260 => ?_)
                  refine W.widen (k := LC - s.heap.size) (n := LS - jTot s.heap) (by omega) (by omega) ?_
                  rw [hQ]
                  exact W.iret (v := qs_244) hx hb hr (fun t ht hW => ⟨⟨qs_244, (0, phn_246, Gx_249), rfl, by (try dsimp only); exact ⟨(by first | omega | rfl | assumption | fail), (by first | omega | rfl | assumption | fail)⟩, ⟨hh_249.ra (by first | omega | (simp only; omega)) (by first | omega | (simp only; omega)) (M1 := [(ta, 2, 1, .int 0)]) [11] rfl ht, hN_249, by rw [ht]; exact hh_249.iv 1 rfl, by rw [ht]; exact hh_249.2.2.2.2.2.2.2.2.sub (L1 := [(jFy, jYb dC dI Gx_249), (jFs11, jSef dC dI Gx_249), (jFdo, jDcc dC dI ca Gx_249 none phn_246)]) [2, 3, 0] rfl⟩⟩, by rw [ht]; try exact hh_249.1.1, fun q h9 hq => by rw [ht]; try exact hh_249.1.2.1 q h9 hq⟩) hh_249.1.2.2 dX11_batch_169
                · skip
                  have c_259' : v3_249.toInt < qs_244.toInt := jb_ge_n (rfl) (rfl) c_259
                  have hnb := jEd.nx (hr_245_2.mono (by omega) : jSn _ _ _ 1500) (k := v3_249.toInt) (by omega) (by omega)
                  refine lv_aload_n hx hb dX11_batch_105 rfl (lv_at hl 2 rfl) ?_
                  obtain ⟨v_261, hv_261, hh_262⟩ := hh_249.pin (C := RX1) (T := TX1) (N := 17) hB3 rfl (by decide) hg_251 (i := 2) (by decide) rfl
                  clear hh_249
                  obtain ⟨text_263, rfl, hg_text_263⟩ := hv_261
                  refine j7_read hx hb hown hK (C := RX1) (T := TX1) (N := 17) rfl hly_3_2 hlk_174 (hh_262.at 0 rfl) dX11_batch_106 ?_
                  refine lv_aload_n hx hb dX11_batch_109 rfl (lv_at hl 2 rfl) ?_
                  refine j7_read hx hb hown hK (C := RX1) (T := TX1) (N := 17) rfl hly_3_5 hlk_182 (hh_262.at 6 rfl) dX11_batch_110 ?_
                  refine lv_iload_n hx hb dX11_batch_113 rfl (lv_at hl 3 rfl) ?_
                  refine j7_ialdM hx hb hK hh_262 hB171 1 rfl (by decide) hg_254 (x := v3_249.toInt) (rfl) (by omega) (j := 0) rfl dX11_batch_114 (fun z_264 ez_264 (hz_264 : 0 ≤ z_264.toInt ∧ z_264.toInt ≤ 1500) => ?_)
                  have hqz_264 : z_264.toInt = jSo gb_244 (v3_249.toInt) := by unfold jSo; rw [ez_264]
                  refine lv_aload_n hx hb dX11_batch_115 rfl (lv_at hl 2 rfl) ?_
                  refine j7_read hx hb hown hK (C := RX1) (T := TX1) (N := 17) rfl hly_3_6 hlk_185 (hh_262.at 7 rfl) dX11_batch_116 ?_
                  refine lv_iload_n hx hb dX11_batch_119 rfl (lv_at hl 3 rfl) ?_
                  refine j7_ialdM hx hb hK hh_262 hB172 1 rfl (by decide) hg_255 (x := v3_249.toInt) (rfl) (by omega) (j := 1) rfl dX11_batch_120 (fun z_265 ez_265 (hz_265 : 0 ≤ z_265.toInt ∧ z_265.toInt ≤ 1500) => ?_)
                  have hqz_265 : z_265.toInt = jSo ge_244 (v3_249.toInt) := by unfold jSo; rw [ez_265]
                  have hsz_266 := hh_262.2.2.2.2.2.1
                  have htt_266 := hh_262.2.2.2.2.2.2.1
                  refine W.room (fun hrc_266 hrs_266 => ?_)
                  refine j_callx (A0 := jA base) (H0 := s.heap) (va_runS (As := [.ref text_263, .int z_264, .int z_265]) (rest := []) ⟨hx, hb, hml, hown, hts⟩ (uJ7_copyOfRange_feeccU l dC dI ca base B hB hAp hB101 hB280 Gx_249 H_249 text_263 z_264 z_265 1500 LC LS) (va_cwS 3 hts (jgS (jWr_77 _ (List.mem_of_getElem? (i := 21) rfl)) (jWr_77 _ (List.mem_of_getElem? (i := 22) rfl)) (jWr_16 _ (List.mem_of_getElem? (i := 7) rfl)) (jWr_77 _ (List.mem_of_getElem? (i := 23) rfl))) rfl rfl rfl (by decide +kernel) ⟨by rw [← hR]; exact Nat.le_of_ble_eq_true rfl, by rw [← hR]; exact Nat.le_of_ble_eq_true rfl⟩) ⟨fun a U g mk q => by obtain ⟨q0, q1, q2, qK, q10, q11, q12, q13⟩ := q; exact ⟨q0, q1, q2, jG.calling g mk a qK, (jK8.calling g mk a q10), q11, q12, q13⟩, fun U hU hW => ⟨rfl, hU, hh_262.2.1, hG.step hW hU hh_262.1, (jK8.warm hW hK8), hg_text_263, jP.nil, by first | omega | (refine ⟨?_, ?_, ?_, ?_⟩ <;> (first | omega | rfl | assumption | decide | exact Or.inl rfl | exact Or.inr rfl | (simp only; omega)))⟩⟩ rfl rfl hl.1 rfl (lv_room (Nat.le_of_ble_eq_true rfl)) dX11_batch_121 ⟨by rw [hRc]; omega, by rw [hRs]; omega⟩) hh_262.1 (fun q _ h => h) (fun q h => h) (fun r_267 u_266 t_266 H_266 locs_266 ht_266 hvm_266 hr_267 hb_266 hz_266 hk_266 hS_266 => ?_)
                  rw [ht_266] at hb_266
                  obtain ⟨m_ret_266, G_266⟩ := u_266
                  simp only at hb_266
                  obtain ⟨⟨hb_2661, hb_2662, hb_2663, hb_2664, hb_2665, hb_2666⟩, hN_266, hbK_266⟩ := hb_266
                  have hE9_266 := hN_266
                  have hM_266 := hN_266
                  have hN_266 : (jNk [0, 1, 2, 4, 6, 7, 8, 9, 10, 12, 13, 14, 15, 16]) Gx_249 G_266 := hN_266.sub (by decide)
                  have hh_266 : jSt (dC, dI) B base G0 G_266 EX11_batch s.heap (zcx_249 + (1)) (zsx_249 + (m_ret_266)) [(spare_13, 3, 2, .ref text_263), (spare_13, 3, 4, .int qs_244), (kernel_240, 7, 1, .ref syntax_243), (r0, 13, 5, .ref kernel_240), (spare_13, 3, 11, .null), (spare_13, 3, 10, .int pk_230), (spare_13, 3, 5, .ref yb_230), (spare_13, 3, 6, .ref ye_230), (r0, 13, 18, .int (-2)), (r0, 13, 16, .ref spare_13), (r0, 13, 15, .ref latest_19), (spare_13, 3, 3, .int ql_14), (ta, 2, 1, .int 0), (r0, 13, 0, .ref ta), (ta, 2, 0, .ref pr)] [(yb_230, 171, 40, ca 1, gb_244), (ye_230, 172, 40, ca 1, ge_244)] [(jFdo, jDcc dC dI ca Gx_249 none phn_246), ([(2, 0), (2, 1)], jOl (dC, dI) G0 2 [ta] s.heap), (jFy, jYb dC dI Gx_249), (jFs11, jSef dC dI Gx_249)] H_266 locs_266 := (hh_262.callG hb_2661 hb_2662 hb_2663 hb_2664 hb_2665 hS_266 rfl (L1 := [(spare_13, 3, 2, .ref text_263), (spare_13, 3, 4, .int qs_244), (kernel_240, 7, 1, .ref syntax_243), (r0, 13, 5, .ref kernel_240), (spare_13, 3, 11, .null), (spare_13, 3, 10, .int pk_230), (spare_13, 3, 5, .ref yb_230), (spare_13, 3, 6, .ref ye_230), (r0, 13, 18, .int (-2)), (r0, 13, 16, .ref spare_13), (r0, 13, 15, .ref latest_19), (spare_13, 3, 3, .int ql_14), (ta, 2, 1, .int 0), (r0, 13, 0, .ref ta), (ta, 2, 0, .ref pr)]) [0, 1, 2, 3, 4, 5, 6, 7, 8, 9, 10, 11, 12, 13, 14] rfl rfl (M1 := [(yb_230, 171, 40, ca 1, gb_244), (ye_230, 172, 40, ca 1, ge_244)]) [0, 1] rfl rfl (I1 := [(jFdo, jDcc dC dI ca Gx_249 none phn_246), ([(2, 0), (2, 1)], jOl (dC, dI) G0 2 [ta] s.heap), (jFy, jYb dC dI Gx_249), (jFs11, jSef dC dI Gx_249)]) [0, 1, 2, 3] rfl rfl).more hb_2666
                  have hNn_266 : (jNk [0, 1, 2, 4, 6, 7, 8, 9, 10, 12, 13, 14, 15, 16]) G0 G_266 := (hN_249).tr hN_266
                  have hg_268 := hb_2662 _ _ hg_250
                  have hg_269 := hb_2662 _ _ hg_251
                  have hg_270 := hb_2662 _ _ hg_text_263
                  have hg_271 := hb_2662 _ _ hg_252
                  have hg_272 := hb_2662 _ _ hg_253
                  have hg_273 := hb_2662 _ _ hg_254
                  have hg_274 := hb_2662 _ _ hg_255
                  have hg_275 := hb_2662 _ _ hg_256
                  have hg_276 := hb_2662 _ _ hg_257
                  have hg_277 := hb_2662 _ _ hg_258
                  have hd_278 := jDcc.grow (hh_266.iv 0 rfl) hb_2662 hE9_266 (by decide)
                  have hh_279 := hh_266.sub (L1 := [(spare_13, 3, 2, .ref text_263), (spare_13, 3, 4, .int qs_244), (kernel_240, 7, 1, .ref syntax_243), (r0, 13, 5, .ref kernel_240), (spare_13, 3, 11, .null), (spare_13, 3, 10, .int pk_230), (spare_13, 3, 5, .ref yb_230), (spare_13, 3, 6, .ref ye_230), (r0, 13, 18, .int (-2)), (r0, 13, 16, .ref spare_13), (r0, 13, 15, .ref latest_19), (spare_13, 3, 3, .int ql_14), (ta, 2, 1, .int 0), (r0, 13, 0, .ref ta), (ta, 2, 0, .ref pr)]) [0, 1, 2, 3, 4, 5, 6, 7, 8, 9, 10, 11, 12, 13, 14] rfl (M1 := [(yb_230, 171, 40, ca 1, gb_244), (ye_230, 172, 40, ca 1, ge_244)]) [0, 1] rfl (I1 := [([(2, 0), (2, 1)], jOl (dC, dI) G0 2 [ta] s.heap), (jFy, jYb dC dI Gx_249), (jFs11, jSef dC dI Gx_249)]) [1, 2, 3] rfl
                  clear hh_266
                  have hh_280 := hh_279.addI (jDcc.ie hd_278)
                  clear hh_279
                  have hd_281 := jYb.grow (hh_280.iv 2 rfl) hb_2662 hN_266 (by decide)
                  have hh_282 := hh_280.sub (L1 := [(spare_13, 3, 2, .ref text_263), (spare_13, 3, 4, .int qs_244), (kernel_240, 7, 1, .ref syntax_243), (r0, 13, 5, .ref kernel_240), (spare_13, 3, 11, .null), (spare_13, 3, 10, .int pk_230), (spare_13, 3, 5, .ref yb_230), (spare_13, 3, 6, .ref ye_230), (r0, 13, 18, .int (-2)), (r0, 13, 16, .ref spare_13), (r0, 13, 15, .ref latest_19), (spare_13, 3, 3, .int ql_14), (ta, 2, 1, .int 0), (r0, 13, 0, .ref ta), (ta, 2, 0, .ref pr)]) [0, 1, 2, 3, 4, 5, 6, 7, 8, 9, 10, 11, 12, 13, 14] rfl (M1 := [(yb_230, 171, 40, ca 1, gb_244), (ye_230, 172, 40, ca 1, ge_244)]) [0, 1] rfl (I1 := [(jFdo, jDcc dC dI ca G_266 none phn_246), ([(2, 0), (2, 1)], jOl (dC, dI) G0 2 [ta] s.heap), (jFs11, jSef dC dI Gx_249)]) [0, 1, 3] rfl
                  clear hh_280
                  have hh_283 := hh_282.addI (jYb.ie hd_281)
                  clear hh_282
                  have hd_284 := jSef.grow (hh_283.iv 3 rfl) hb_2662 hM_266 (by decide)
                  have hh_285 := hh_283.sub (L1 := [(spare_13, 3, 2, .ref text_263), (spare_13, 3, 4, .int qs_244), (kernel_240, 7, 1, .ref syntax_243), (r0, 13, 5, .ref kernel_240), (spare_13, 3, 11, .null), (spare_13, 3, 10, .int pk_230), (spare_13, 3, 5, .ref yb_230), (spare_13, 3, 6, .ref ye_230), (r0, 13, 18, .int (-2)), (r0, 13, 16, .ref spare_13), (r0, 13, 15, .ref latest_19), (spare_13, 3, 3, .int ql_14), (ta, 2, 1, .int 0), (r0, 13, 0, .ref ta), (ta, 2, 0, .ref pr)]) [0, 1, 2, 3, 4, 5, 6, 7, 8, 9, 10, 11, 12, 13, 14] rfl (M1 := [(yb_230, 171, 40, ca 1, gb_244), (ye_230, 172, 40, ca 1, ge_244)]) [0, 1] rfl (I1 := [(jFy, jYb dC dI G_266), (jFdo, jDcc dC dI ca G_266 none phn_246), ([(2, 0), (2, 1)], jOl (dC, dI) G0 2 [ta] s.heap)]) [0, 1, 2] rfl
                  clear hh_283
                  have hh_286 := hh_285.addI (jSef.ie hd_284)
                  clear hh_285
                  obtain ⟨hr_267, hr_267n, hr_267p⟩ := hr_267
                  try simp only at hr_267p
                  obtain ⟨ret_287, rfl, hg_ret_287⟩ := hr_267
                  have hsy_266 : s.heap.size ≤ ret_287 := Nat.le_trans hh_262.1.1 hr_267n.le
                  refine lv_astore (lv' := [(4, .ref ret_287), (0, .ref r0), (1, .int a1), (2, .ref spare_13), (3, .int v3_249)]) hx hb dX11_batch_124 hl (by decide) rfl (fun ls hl => ?_)
                  refine lv_aload_n hx hb dX11_batch_126 rfl (lv_at hl 3 rfl) ?_
                  obtain ⟨v_288, hv_288, hh_289⟩ := hh_286.pin (C := RX1) (T := TX1) (N := 17) hB3 rfl (by decide) hg_269 (i := 9) (by decide) rfl
                  clear hh_286
                  obtain ⟨behind_290, rfl, hg_behind_290⟩ := hv_288
                  refine j7_read hx hb hown hK (C := RX1) (T := TX1) (N := 17) rfl hly_3_9 hlk_178 (hh_289.at 0 rfl) dX11_batch_127 ?_
                  refine lv_iload_n hx hb dX11_batch_130 rfl (lv_at hl 4 rfl) ?_
                  refine lv_aload_n hx hb dX11_batch_131 rfl (lv_at hl 1 rfl) ?_
                  refine j7_read hx hb hown hK (C := RX11) (T := TX11) (N := 19) rfl hly_13_5 hlk_41 (hh_289.at 4 rfl) dX11_batch_132 ?_
                  refine lv_aload_n hx hb dX11_batch_135 rfl (lv_at hl 3 rfl) ?_
                  refine lv_iload_n hx hb dX11_batch_136 rfl (lv_at hl 4 rfl) ?_
                  refine lv_aload_n hx hb dX11_batch_137 rfl (lv_at hl 1 rfl) ?_
                  refine j7_read hx hb hown hK (C := RX11) (T := TX11) (N := 19) rfl hly_13_5 hlk_41 (hh_289.at 4 rfl) dX11_batch_138 ?_
                  obtain ⟨v_291, hv_291, hh_292⟩ := hh_289.pin (C := RX5) (T := TX5) (N := 11) hB7 rfl (by decide) hg_272 (i := 2) (by decide) rfl
                  clear hh_289
                  obtain ⟨start_293, rfl, hg_start_293⟩ := hv_291
                  refine j7_read hx hb hown hK (C := RX5) (T := TX5) (N := 11) rfl hly_7_2 hlk_217 (hh_292.at 0 rfl) dX11_batch_141 ?_
                  have hsz_294 := hh_292.2.2.2.2.2.1
                  have htt_294 := hh_292.2.2.2.2.2.2.1
                  refine W.room (fun hrc_294 hrs_294 => ?_)
                  refine j_callx (A0 := jA base) (H0 := s.heap) (va_runV (As := [.int v3_249, .ref start_293]) (rest := [.ref kernel_240, .int v3_249, .ref behind_290]) ⟨hx, hb, hml, hown, hts⟩ (uX1_stateBehind l dC dI ca base B hB hAp hB3 hB11 hB210 G_266 H_266 spare_13 v3_249 start_293 1) (cwV 2 hts (jgV (jWr_30 _ (List.mem_of_getElem? (i := 9) rfl)) (jWr_30 _ (List.mem_of_getElem? (i := 10) rfl)) (jWr_30 _ (List.mem_of_getElem? (i := 11) rfl)) (jWr_2 _ (List.mem_of_getElem? (i := 21) rfl)) (jWr_30 _ (List.mem_of_getElem? (i := 12) rfl))) rfl rfl rfl (by decide +kernel) ⟨by rw [← hR]; exact Nat.le_of_ble_eq_true rfl, by rw [← hR]; exact Nat.le_of_ble_eq_true rfl⟩) ⟨fun a U g mk q => by obtain ⟨q0, q1, q2, qK, q10, q11, q12, q13, q14⟩ := q; exact ⟨q0, q1, q2, jG.calling g mk a qK, (va_K.moved (Vm.Alike.refl U.vm) q10), q11, q12, q13, q14⟩, hh_292.recv (C := RX1) (T := TX1) (N := 17) hB3 rfl (by decide) hg_269 hK, fun U hU hW => ⟨rfl, hU, hh_292.2.1, hG.step hW hU hh_292.1, va_K.moved hW.alike hK2, hg_269, hg_start_293, jP.nil, trivial⟩⟩ rfl rfl hl.1 rfl (lv_room (Nat.le_of_ble_eq_true rfl)) dX11_batch_144 ⟨by rw [hRc]; show _ + 0 ≤ _; omega, by rw [hRs]; show _ + 0 ≤ _; omega⟩) hh_292.1 (fun q _ h => h) (fun q h => h) (fun r_295 u_294 t_294 H_294 locs_294 ht_294 hvm_294 hr_295 hb_294 hz_294 hk_294 hS_294 => ?_)
                  rw [ht_294] at hb_294
                  obtain ⟨hb_2941, hb_2942, hb_2943, hb_2944, hb_2945⟩ := hb_294
                  have hh_294 : jSt (dC, dI) B base G0 G_266 EX11_batch s.heap (zcx_249 + (1)) (zsx_249 + (m_ret_266)) [(kernel_240, 7, 2, .ref start_293), (spare_13, 3, 9, .ref behind_290), (spare_13, 3, 2, .ref text_263), (spare_13, 3, 4, .int qs_244), (kernel_240, 7, 1, .ref syntax_243), (r0, 13, 5, .ref kernel_240), (spare_13, 3, 11, .null), (spare_13, 3, 10, .int pk_230), (spare_13, 3, 5, .ref yb_230), (spare_13, 3, 6, .ref ye_230), (r0, 13, 18, .int (-2)), (r0, 13, 16, .ref spare_13), (r0, 13, 15, .ref latest_19), (spare_13, 3, 3, .int ql_14), (ta, 2, 1, .int 0), (r0, 13, 0, .ref ta), (ta, 2, 0, .ref pr)] [(yb_230, 171, 40, ca 1, gb_244), (ye_230, 172, 40, ca 1, ge_244)] [(jFs11, jSef dC dI G_266), (jFy, jYb dC dI G_266), (jFdo, jDcc dC dI ca G_266 none phn_246), ([(2, 0), (2, 1)], jOl (dC, dI) G0 2 [ta] s.heap)] H_294 locs_294 := ((hh_292.call hb_2941 hb_2942 hb_2943 hb_2944 hS_294 rfl (L1 := [(kernel_240, 7, 2, .ref start_293), (spare_13, 3, 9, .ref behind_290), (spare_13, 3, 2, .ref text_263), (spare_13, 3, 4, .int qs_244), (kernel_240, 7, 1, .ref syntax_243), (r0, 13, 5, .ref kernel_240), (spare_13, 3, 11, .null), (spare_13, 3, 10, .int pk_230), (spare_13, 3, 5, .ref yb_230), (spare_13, 3, 6, .ref ye_230), (r0, 13, 18, .int (-2)), (r0, 13, 16, .ref spare_13), (r0, 13, 15, .ref latest_19), (spare_13, 3, 3, .int ql_14), (ta, 2, 1, .int 0), (r0, 13, 0, .ref ta), (ta, 2, 0, .ref pr)]) [0, 1, 2, 3, 4, 5, 6, 7, 8, 9, 10, 11, 12, 13, 14, 15, 16] rfl rfl (M1 := [(yb_230, 171, 40, ca 1, gb_244), (ye_230, 172, 40, ca 1, ge_244)]) [0, 1] rfl rfl (I1 := [(jFs11, jSef dC dI G_266), (jFy, jYb dC dI G_266), (jFdo, jDcc dC dI ca G_266 none phn_246), ([(2, 0), (2, 1)], jOl (dC, dI) G0 2 [ta] s.heap)]) [0, 1, 2, 3] rfl rfl).more hb_2945)
                  clear hh_292 ht_294 hvm_294 hz_294 hk_294 hS_294 hb_2941 hb_2942 hb_2943 hb_2944 hb_2945
                  obtain ⟨ret_296, rfl, hg_ret_296⟩ := hr_295
                  refine lv_aload hx hb dX11_batch_147 (lv_at hl 0 rfl) ?_
                  refine lv_aload_n hx hb dX11_batch_149 rfl (lv_at hl 3 rfl) ?_
                  obtain ⟨v_297, hv_297, hh_298⟩ := hh_294.pin (C := RX1) (T := TX1) (N := 17) hB3 rfl (by decide) hg_269 (i := 8) (by decide) rfl
                  clear hh_294
                  obtain ⟨early_299, rfl, hg_early_299⟩ := hv_297
                  refine j7_read hx hb hown hK (C := RX1) (T := TX1) (N := 17) rfl hly_3_8 hlk_225 (hh_298.at 0 rfl) dX11_batch_150 ?_
                  refine lv_iload_n hx hb dX11_batch_153 rfl (lv_at hl 4 rfl) ?_
                  refine j7_iald hx hb hK hh_298 hB101 1 rfl (by decide) hg_early_299 (x := v3_249.toInt) (rfl) (by omega) dX11_batch_154 (fun z_300 (hz_300 : True) => ?_)
                  have hsz_301 := hh_298.2.2.2.2.2.1
                  have htt_301 := hh_298.2.2.2.2.2.2.1
                  refine W.room (fun hrc_301 hrs_301 => ?_)
                  refine j_callx (A0 := jA base) (H0 := s.heap) (va_runV (As := [.ref ret_296, .ref ret_287, .int z_300]) (rest := [.int v3_249, .ref behind_290]) ⟨hx, hb, hml, hown, hts⟩ (uX5_checkS l dC dI ca base B hB hAp hB5 hB7 hB8 hB11 hB12 hB101 hB102 hB132 hB133 hB211 hB214 hB280 hB290 hB291 hB292 hB293 hB313 hB315 G_266 H_294 kernel_240 ret_296 ret_287 z_300 m_ret_266 (min 1 (m_ret_266 / 3)) LC LS) (cwV 3 hts (jgV (jWr_78 _ (List.mem_of_getElem? (i := 14) rfl)) (jWr_78 _ (List.mem_of_getElem? (i := 15) rfl)) (jWr_78 _ (List.mem_of_getElem? (i := 16) rfl)) (jWr_2 _ (List.mem_of_getElem? (i := 4) rfl)) (jWr_78 _ (List.mem_of_getElem? (i := 17) rfl))) rfl rfl rfl (by decide +kernel) ⟨by rw [← hR]; exact Nat.le_of_ble_eq_true rfl, by rw [← hR]; exact Nat.le_of_ble_eq_true rfl⟩) ⟨fun a U g mk q => by obtain ⟨q0, q1, q2, qK, q10, q11, q12, q13, q14, q15, q16, q17, q18⟩ := q; exact ⟨q0, q1, q2, jG.calling g mk a qK, (va_K.moved (Vm.Alike.refl U.vm) q10), (jK5.moved (Vm.Alike.refl U.vm) q11), (jK6.moved (Vm.Alike.refl U.vm) q12), q13, q14, q15, q16, q17, q18⟩, hh_298.recv (C := RX5) (T := TX5) (N := 11) hB7 rfl (by decide) hg_272 hK, fun U hU hW => ⟨rfl, hU, hh_298.2.1, hG.step hW hU hh_298.1, va_K.moved hW.alike hK2, jK5.moved hW.alike hK5, jK6.moved hW.alike hK6, hg_272, hg_ret_296, hg_ret_287, jP.nil, (hh_298.2.2.2.2.2.2.2.2.sub (L1 := [(jFs11, jSef dC dI G_266)]) [0] rfl), by first | omega | (refine ⟨?_, ?_⟩ <;> (first | omega | rfl | assumption | decide | exact Or.inl rfl | exact Or.inr rfl | (simp only; omega)))⟩⟩ rfl rfl hl.1 rfl (lv_room (Nat.le_of_ble_eq_true rfl)) dX11_batch_155 ⟨by rw [hRc]; omega, by rw [hRs]; omega⟩) hh_298.1 (fun q _ h => h) (fun q h => h) (fun r_302 u_301 t_301 H_301 locs_301 ht_301 hvm_301 hr_302 hb_301 hz_301 hk_301 hS_301 => ?_)
                  rw [ht_301] at hb_301
                  obtain ⟨G_301, rfl⟩ : ∃ z, z = u_301 := ⟨_, rfl⟩
                  try simp only at hb_301
                  obtain ⟨⟨hb_3011, hb_3012, hb_3013, hb_3014, hb_3015, hb_3016⟩, hN_301, hbE_301⟩ := hb_301
                  have hE9_301 := hN_301
                  have hN_301 : (jNk [0, 1, 2, 4, 6, 7, 8, 9, 10, 12, 13, 14, 15, 16]) G_266 G_301 := hN_301.sub (by decide)
                  have hh_301 : jSt (dC, dI) B base G0 G_301 EX11_batch s.heap ((zcx_249 + (1)) + (23)) ((zsx_249 + (m_ret_266)) + ((183 + 336 * (min 1 (m_ret_266 / 3))))) [(spare_13, 3, 8, .ref early_299), (kernel_240, 7, 2, .ref start_293), (spare_13, 3, 9, .ref behind_290), (spare_13, 3, 2, .ref text_263), (spare_13, 3, 4, .int qs_244), (kernel_240, 7, 1, .ref syntax_243), (r0, 13, 5, .ref kernel_240), (spare_13, 3, 11, .null), (spare_13, 3, 10, .int pk_230), (spare_13, 3, 5, .ref yb_230), (spare_13, 3, 6, .ref ye_230), (r0, 13, 18, .int (-2)), (r0, 13, 16, .ref spare_13), (r0, 13, 15, .ref latest_19), (spare_13, 3, 3, .int ql_14), (ta, 2, 1, .int 0), (r0, 13, 0, .ref ta), (ta, 2, 0, .ref pr)] [(yb_230, 171, 40, ca 1, gb_244), (ye_230, 172, 40, ca 1, ge_244)] [(jFy, jYb dC dI G_266), (jFdo, jDcc dC dI ca G_266 none phn_246), ([(2, 0), (2, 1)], jOl (dC, dI) G0 2 [ta] s.heap)] H_301 locs_301 := (hh_298.callG hb_3011 hb_3012 hb_3013 hb_3014 hb_3015 hS_301 rfl (L1 := [(spare_13, 3, 8, .ref early_299), (kernel_240, 7, 2, .ref start_293), (spare_13, 3, 9, .ref behind_290), (spare_13, 3, 2, .ref text_263), (spare_13, 3, 4, .int qs_244), (kernel_240, 7, 1, .ref syntax_243), (r0, 13, 5, .ref kernel_240), (spare_13, 3, 11, .null), (spare_13, 3, 10, .int pk_230), (spare_13, 3, 5, .ref yb_230), (spare_13, 3, 6, .ref ye_230), (r0, 13, 18, .int (-2)), (r0, 13, 16, .ref spare_13), (r0, 13, 15, .ref latest_19), (spare_13, 3, 3, .int ql_14), (ta, 2, 1, .int 0), (r0, 13, 0, .ref ta), (ta, 2, 0, .ref pr)]) [0, 1, 2, 3, 4, 5, 6, 7, 8, 9, 10, 11, 12, 13, 14, 15, 16, 17] rfl rfl (M1 := [(yb_230, 171, 40, ca 1, gb_244), (ye_230, 172, 40, ca 1, ge_244)]) [0, 1] rfl rfl (I1 := [(jFy, jYb dC dI G_266), (jFdo, jDcc dC dI ca G_266 none phn_246), ([(2, 0), (2, 1)], jOl (dC, dI) G0 2 [ta] s.heap)]) [1, 2, 3] rfl rfl).more hb_3016
                  have hNn_301 : (jNk [0, 1, 2, 4, 6, 7, 8, 9, 10, 12, 13, 14, 15, 16]) G0 G_301 := (hNn_266).tr hN_301
                  have hg_303 := hb_3012 _ _ hg_ret_287
                  have hg_304 := hb_3012 _ _ hg_268
                  have hg_305 := hb_3012 _ _ hg_269
                  have hg_306 := hb_3012 _ _ hg_behind_290
                  have hg_307 := hb_3012 _ _ hg_early_299
                  have hg_308 := hb_3012 _ _ hg_start_293
                  have hg_309 := hb_3012 _ _ hg_270
                  have hg_310 := hb_3012 _ _ hg_271
                  have hg_311 := hb_3012 _ _ hg_272
                  have hg_312 := hb_3012 _ _ hg_273
                  have hg_313 := hb_3012 _ _ hg_274
                  have hg_314 := hb_3012 _ _ hg_275
                  have hg_315 := hb_3012 _ _ hg_276
                  have hg_316 := hb_3012 _ _ hg_277
                  have hd_317 := jYb.grow (hh_301.iv 0 rfl) hb_3012 hN_301 (by decide)
                  have hh_318 := hh_301.sub (L1 := [(spare_13, 3, 8, .ref early_299), (kernel_240, 7, 2, .ref start_293), (spare_13, 3, 9, .ref behind_290), (spare_13, 3, 2, .ref text_263), (spare_13, 3, 4, .int qs_244), (kernel_240, 7, 1, .ref syntax_243), (r0, 13, 5, .ref kernel_240), (spare_13, 3, 11, .null), (spare_13, 3, 10, .int pk_230), (spare_13, 3, 5, .ref yb_230), (spare_13, 3, 6, .ref ye_230), (r0, 13, 18, .int (-2)), (r0, 13, 16, .ref spare_13), (r0, 13, 15, .ref latest_19), (spare_13, 3, 3, .int ql_14), (ta, 2, 1, .int 0), (r0, 13, 0, .ref ta), (ta, 2, 0, .ref pr)]) [0, 1, 2, 3, 4, 5, 6, 7, 8, 9, 10, 11, 12, 13, 14, 15, 16, 17] rfl (M1 := [(yb_230, 171, 40, ca 1, gb_244), (ye_230, 172, 40, ca 1, ge_244)]) [0, 1] rfl (I1 := [(jFdo, jDcc dC dI ca G_266 none phn_246), ([(2, 0), (2, 1)], jOl (dC, dI) G0 2 [ta] s.heap)]) [1, 2] rfl
                  clear hh_301
                  have hh_319 := hh_318.addI (jYb.ie hd_317)
                  clear hh_318
                  have hd_320 := jDcc.grow (hh_319.iv 1 rfl) hb_3012 hE9_301 (by decide)
                  have hh_321 := hh_319.sub (L1 := [(spare_13, 3, 8, .ref early_299), (kernel_240, 7, 2, .ref start_293), (spare_13, 3, 9, .ref behind_290), (spare_13, 3, 2, .ref text_263), (spare_13, 3, 4, .int qs_244), (kernel_240, 7, 1, .ref syntax_243), (r0, 13, 5, .ref kernel_240), (spare_13, 3, 11, .null), (spare_13, 3, 10, .int pk_230), (spare_13, 3, 5, .ref yb_230), (spare_13, 3, 6, .ref ye_230), (r0, 13, 18, .int (-2)), (r0, 13, 16, .ref spare_13), (r0, 13, 15, .ref latest_19), (spare_13, 3, 3, .int ql_14), (ta, 2, 1, .int 0), (r0, 13, 0, .ref ta), (ta, 2, 0, .ref pr)]) [0, 1, 2, 3, 4, 5, 6, 7, 8, 9, 10, 11, 12, 13, 14, 15, 16, 17] rfl (M1 := [(yb_230, 171, 40, ca 1, gb_244), (ye_230, 172, 40, ca 1, ge_244)]) [0, 1] rfl (I1 := [(jFy, jYb dC dI G_301), ([(2, 0), (2, 1)], jOl (dC, dI) G0 2 [ta] s.heap)]) [0, 2] rfl
                  clear hh_319
                  have hh_322 := hh_321.addI (jDcc.ie hd_320)
                  clear hh_321
                  have hh_323 := hh_322.addIs hbE_301
                  obtain ⟨hr_302, hr_302p⟩ := hr_302
                  try simp only at hr_302p
                  obtain ⟨ret_324, rfl, hg_ret_324⟩ := hr_302
                  refine j7_qast hx hb hK2 hh_323 hB hB210 2 rfl (by decide) (by decide) rfl rfl rfl hg_306 (x := v3_249.toInt) (rfl) (by omega) hB11 (T := TX9) (N := 9) rfl (by decide) hg_ret_324 (Or.inr ⟨_, rfl, hg_ret_324⟩) dX11_batch_158 (fun H_325 locs_325 hh_325 => ?_)
                  clear hh_323
                  obtain ⟨z_326, ez_326⟩ : ∃ y : Int32, y = v3_249 + 1 := ⟨_, rfl⟩
                  refine lv_iinc (v := z_326) (lv' := [(3, .int z_326), (4, .ref ret_287), (0, .ref r0), (1, .int a1), (2, .ref spare_13)]) hx hb dX11_batch_159 hl (k := 4) rfl (by rw [ez_326]; rfl) (by decide) rfl (fun ls hl => ?_)
                  have hz_326 : z_326.toInt = v3_249.toInt + 1 := by rw [ez_326]; exact jb_iadd2 (rfl) (by decide) (by omega)
                  have hje := jEd.to hnb.2.2.1 (k1 := (v3_249.toInt + 1)) (by omega)
                  refine lv_goto (tgt := 97) hx hb dX11_batch_162 (by decide) ?_
                  refine W.tight (c2 := ((zcx_249 + (1)) + (23))) (n2 := ((zsx_249 + (m_ret_266)) + ((183 + 336 * (min 1 (m_ret_266 / 3)))))) hh_325.2.2.2.2.2.1 hh_325.2.2.2.2.2.2.1 ?_
                  exact L97 G_301 ((zcx_249 + (1)) + (23)) ((zsx_249 + (m_ret_266)) + ((183 + 336 * (min 1 (m_ret_266 / 3))))) z_326 _ _ (hh_325.sub (L1 := [(spare_13, 3, 4, .int qs_244), (kernel_240, 7, 1, .ref syntax_243), (r0, 13, 5, .ref kernel_240), (spare_13, 3, 11, .null), (spare_13, 3, 10, .int pk_230), (spare_13, 3, 5, .ref yb_230), (spare_13, 3, 6, .ref ye_230), (r0, 13, 18, .int (-2)), (r0, 13, 16, .ref spare_13), (r0, 13, 15, .ref latest_19), (spare_13, 3, 3, .int ql_14), (ta, 2, 1, .int 0), (r0, 13, 0, .ref ta), (ta, 2, 0, .ref pr)]) [4, 5, 6, 7, 8, 9, 10, 11, 12, 13, 14, 15, 16, 17] rfl (M1 := [(yb_230, 171, 40, ca 1, gb_244), (ye_230, 172, 40, ca 1, ge_244)]) [0, 1] rfl (I1 := [(jFdo, jDcc dC dI ca G_301 none phn_246), ([(2, 0), (2, 1)], jOl (dC, dI) G0 2 [ta] s.heap), (jFy, jYb dC dI G_301), (jFs11, jSef dC dI G_301)]) [1, 3, 2, 0] rfl) (hNn_301) (((hle_249).tr hb_2662).tr hb_3012) (by first | omega | (refine ⟨?_, ?_, ?_, ?_⟩ <;> (first | omega | rfl | assumption | decide | exact Or.inl rfl | exact Or.inr rfl | (simp only; omega)))) (by omega) _ (lv_sub hl [2, 3, 4, 0] rfl)
            refine W.tight (c2 := 0) (n2 := 0) hh_248.2.2.2.2.2.1 hh_248.2.2.2.2.2.2.1 ?_
            exact L97 (qs_244.toInt - (0 : Int32).toInt : Int).toNat.succ G0 0 0 0 _ _ hh_248 (jNk.rf) (jLe.rf) (by first | omega | (refine ⟨?_, ?_, ?_, ?_⟩ <;> (first | omega | rfl | assumption | decide | exact Or.inl rfl | exact Or.inr rfl | (simp only; omega)))) (by omega) _ (lv_sub hl [2, 3, 1, 0] rfl)
          · skip
            refine lv_aload_n hx hb dX11_batch_84 rfl (lv_at hl 0 rfl) ?_
            refine lv_aload_n hx hb dX11_batch_85 rfl (lv_at hl 1 rfl) ?_
            obtain ⟨v_328, hv_328, hh_329⟩ := hh_230.pin (C := RX11) (T := TX11) (N := 19) hB13 rfl (by decide) hg_r0 (i := 5) (by decide) rfl
            clear hh_230
            obtain ⟨kernel_330, rfl, hg_kernel_330⟩ := hv_328
            refine j7_read hx hb hown hK (C := RX11) (T := TX11) (N := 19) rfl hly_13_5 hlk_41 (hh_329.at 0 rfl) dX11_batch_86 ?_
            obtain ⟨v_331, hv_331, hh_332⟩ := hh_329.pin (C := RX5) (T := TX5) (N := 11) hB7 rfl (by decide) hg_kernel_330 (i := 1) (by decide) rfl
            clear hh_329
            obtain ⟨syntax_333, rfl, hg_syntax_333⟩ := hv_331
            refine j7_read hx hb hown hK (C := RX5) (T := TX5) (N := 11) rfl hly_7_1 hlk_203 (hh_332.at 0 rfl) dX11_batch_89 ?_
            have hsz_334 := hh_332.2.2.2.2.2.1
            have htt_334 := hh_332.2.2.2.2.2.2.1
            refine W.room (fun hrc_334 hrs_334 => ?_)
            refine va_callv (A0 := jA base) (H0 := s.heap) (va_runV (As := [.ref syntax_333]) (rest := []) ⟨hx, hb, hml, hown, hts⟩ (uX1_partE l dC dI ca base B hB hAp hB3 hB8 hB12 hB101 hB102 hB132 hB133 hB171 hB172 hB293 G0 H_229 spare_13 syntax_333 1 ql_14 yb_230 ye_230 (pho_230) fb_230 fe_230) (cwV 1 hts (jgV (jWr_36 _ (List.mem_of_getElem? (i := 2) rfl)) (jWr_36 _ (List.mem_of_getElem? (i := 3) rfl)) (jWr_36 _ (List.mem_of_getElem? (i := 4) rfl)) (jWr_2 _ (List.mem_of_getElem? (i := 21) rfl)) (jWr_36 _ (List.mem_of_getElem? (i := 5) rfl))) rfl rfl rfl (by decide +kernel) ⟨by rw [← hR]; exact Nat.le_of_ble_eq_true rfl, by rw [← hR]; exact Nat.le_of_ble_eq_true rfl⟩) ⟨fun a U g mk q => by obtain ⟨q0, q1, q2, qK, q10, q11, q12, q13, q14, q15, q16, q17⟩ := q; exact ⟨q0, q1, q2, jG.calling g mk a qK, q10, q11, q12, q13, q14, q15, q16, q17⟩, hh_332.recv (C := RX1) (T := TX1) (N := 17) hB3 rfl (by decide) hg_spare_13 hK, fun U hU hW => ⟨rfl, hU, hh_332.2.1, hG.step hW hU hh_332.1, hg_spare_13, hg_syntax_333, hgb_230, hge_230, (hh_332.2.2.1.sub (L1 := [(spare_13, 3, 3, .int ql_14), (spare_13, 3, 5, .ref yb_230), (spare_13, 3, 6, .ref ye_230)]) [10, 5, 6] rfl), (hh_332.2.2.2.2.2.2.2.1.sub (L1 := [(yb_230, 171, 40, ca 1, fb_230), (ye_230, 172, 40, ca 1, fe_230)]) [0, 1] rfl), (hh_332.2.2.2.2.2.2.2.2.sub (L1 := [(jFdo, jDcc dC dI ca G0 (some spare_13) pho_230)]) [0] rfl), by first | omega | (refine ⟨?_, ?_⟩ <;> (first | omega | rfl | assumption | decide | exact Or.inl rfl | exact Or.inr rfl | (simp only; omega)))⟩⟩ rfl rfl hl.1 rfl (lv_room (Nat.le_of_ble_eq_true rfl)) dX11_batch_92 ⟨by rw [hRc]; show _ + 0 ≤ _; omega, by rw [hRs]; show _ + 0 ≤ _; omega⟩) hh_332.1 (fun q _ h => h) (fun q h => h) (fun u_334 t_334 H_334 locs_334 ht_334 hvm_334 hr_335 hb_334 hz_334 hk_334 hS_334 => ?_)
            obtain ⟨qs_334, gb_334, ge_334⟩ := u_334
            rw [ht_334] at hb_334
            obtain ⟨hb_334, hbE_334⟩ := hb_334
            obtain ⟨hb_334, hbO_334⟩ := hb_334
            obtain ⟨⟨hb_3341, hb_3342, hb_3343, hb_3344, hb_3345⟩, hb_3346⟩ := hb_334
            have hh_334 : jSt (dC, dI) B base G0 G0 EX11_batch s.heap 0 0 [(spare_13, 3, 4, .int qs_334), (kernel_330, 7, 1, .ref syntax_333), (r0, 13, 5, .ref kernel_330), (spare_13, 3, 11, .ref chk_236), (spare_13, 3, 10, .int pk_230), (spare_13, 3, 5, .ref yb_230), (spare_13, 3, 6, .ref ye_230), (r0, 13, 18, .int (-2)), (r0, 13, 16, .ref spare_13), (r0, 13, 15, .ref latest_19), (spare_13, 3, 3, .int ql_14), (ta, 2, 1, .int 0), (r0, 13, 0, .ref ta), (ta, 2, 0, .ref pr)] [(yb_230, 171, 40, ca 1, gb_334), (ye_230, 172, 40, ca 1, ge_334)] [(jFdo, jDcc dC dI ca G0 (some spare_13) pho_230), ([(2, 0), (2, 1)], jOl (dC, dI) G0 2 [ta] s.heap), (jFy, jYb dC dI G0), (jFs11, jSef dC dI G0)] H_334 locs_334 := (((hh_332.call hb_3341 hb_3342 hb_3343 hb_3344 hS_334 rfl (L1 := [(kernel_330, 7, 1, .ref syntax_333), (r0, 13, 5, .ref kernel_330), (spare_13, 3, 11, .ref chk_236), (spare_13, 3, 10, .int pk_230), (spare_13, 3, 5, .ref yb_230), (spare_13, 3, 6, .ref ye_230), (r0, 13, 18, .int (-2)), (r0, 13, 16, .ref spare_13), (r0, 13, 15, .ref latest_19), (spare_13, 3, 3, .int ql_14), (ta, 2, 1, .int 0), (r0, 13, 0, .ref ta), (ta, 2, 0, .ref pr)]) [0, 1, 2, 4, 5, 6, 7, 8, 9, 10, 11, 12, 13] rfl rfl (M1 := []) [] rfl rfl (I1 := [([(2, 0), (2, 1)], jOl (dC, dI) G0 2 [ta] s.heap), (jFy, jYb dC dI G0), (jFs11, jSef dC dI G0)]) [1, 2, 3] rfl rfl).more hb_3345).moreM hb_3346).addIs hbE_334
            clear hh_332 ht_334 hvm_334 hz_334 hk_334 hS_334 hb_3341 hb_3342 hb_3343 hb_3344 hb_3345
            clear hb_3346
            clear  hbE_334
            try simp only at hr_335
            obtain ⟨hr_335_0, hr_335_1, hr_335_2⟩ := hr_335
            obtain ⟨phn_336, hphn_336⟩ : ∃ q : Nat, q = pho_230 := ⟨_, rfl⟩
            have hF_336 := jDcc.full (ph1 := phn_336) (hh_334.iv 0 rfl) hg_spare_13 (hh_334.at 5 rfl) (hh_334.at 6 rfl) ⟨(hh_334.2.2.1.sub (L1 := [(spare_13, 3, 4, .int qs_334), (spare_13, 3, 10, .int pk_230), (spare_13, 3, 11, .ref chk_236)]) [0, 4, 3] rfl), (hh_334.2.2.2.2.2.2.2.1.sub (L1 := [(yb_230, 171, 40, ca 1, gb_334), (ye_230, 172, 40, ca 1, ge_334)]) [0, 1] rfl), (hr_335_2.mono (by omega)), by omega⟩ (w := (575 * (qs_334.toInt - pk_230.toInt) - 16 + (1500 - jSo ge_334 pk_230.toInt)).toNat) (fun h9 => absurd h9 (by decide)) (by omega) (fun h9 => absurd h9 (by decide))
            have hh_337 := hh_334.sub (L1 := [(spare_13, 3, 4, .int qs_334), (kernel_330, 7, 1, .ref syntax_333), (r0, 13, 5, .ref kernel_330), (spare_13, 3, 11, .ref chk_236), (spare_13, 3, 10, .int pk_230), (spare_13, 3, 5, .ref yb_230), (spare_13, 3, 6, .ref ye_230), (r0, 13, 18, .int (-2)), (r0, 13, 16, .ref spare_13), (r0, 13, 15, .ref latest_19), (spare_13, 3, 3, .int ql_14), (ta, 2, 1, .int 0), (r0, 13, 0, .ref ta), (ta, 2, 0, .ref pr)]) [0, 1, 2, 3, 4, 5, 6, 7, 8, 9, 10, 11, 12, 13] rfl (M1 := [(yb_230, 171, 40, ca 1, gb_334), (ye_230, 172, 40, ca 1, ge_334)]) [0, 1] rfl (I1 := [([(2, 0), (2, 1)], jOl (dC, dI) G0 2 [ta] s.heap), (jFy, jYb dC dI G0), (jFs11, jSef dC dI G0)]) [1, 2, 3] rfl
            clear hh_334
            have hh_338 := hh_337.addI (jDcc.ie hF_336)
            clear hh_337
            refine lv_iconst (v := 0) hx hb dX11_batch_95 (by decide) ?_
            refine lv_istore_n (lv' := [(3, .int 0), (2, .ref spare_13), (0, .ref r0), (1, .int a1)]) hx hb dX11_batch_96 rfl hl (by decide) rfl (fun ls hl => ?_)
            have L97 : ∀ (N : Nat) (Gx_339 : jT) (zcx_339 : Nat) (zsx_339 : Nat) (v3_339 : Int32) (H_339 : Heap) (locs_339 : List Loc), jSt (dC, dI) B base G0 Gx_339 EX11_batch s.heap zcx_339 zsx_339 [(spare_13, 3, 4, .int qs_334), (kernel_330, 7, 1, .ref syntax_333), (r0, 13, 5, .ref kernel_330), (spare_13, 3, 11, .ref chk_236), (spare_13, 3, 10, .int pk_230), (spare_13, 3, 5, .ref yb_230), (spare_13, 3, 6, .ref ye_230), (r0, 13, 18, .int (-2)), (r0, 13, 16, .ref spare_13), (r0, 13, 15, .ref latest_19), (spare_13, 3, 3, .int ql_14), (ta, 2, 1, .int 0), (r0, 13, 0, .ref ta), (ta, 2, 0, .ref pr)] [(yb_230, 171, 40, ca 1, gb_334), (ye_230, 172, 40, ca 1, ge_334)] [(jFdo, jDcc dC dI ca Gx_339 none phn_336), ([(2, 0), (2, 1)], jOl (dC, dI) G0 2 [ta] s.heap), (jFy, jYb dC dI Gx_339), (jFs11, jSef dC dI Gx_339)] H_339 locs_339 → (jNk [0, 1, 2, 4, 6, 7, 8, 9, 10, 12, 13, 14, 15, 16]) G0 Gx_339 → jLe G0 Gx_339 → (0 ≤ v3_339.toInt ∧ v3_339.toInt ≤ qs_334.toInt ∧ zcx_339 ≤ 8 + 24 * v3_339.toInt ∧ zsx_339 ≤ 1720 + 185 * jEd ge_334 v3_339.toInt) → (qs_334.toInt - v3_339.toInt : Int) < N → ∀ ls : Array Slot, lv_has ls 5 [(0, .ref r0), (1, .int a1), (2, .ref spare_13), (3, .int v3_339)] → W p l e R s m ([.ref r0, .int a1] : List Value).toArray below meth c H_339 locs_339 zcx_339 zsx_339 Q (F0 m 97 ls []) := by
              intro N
              induction N with
              | zero => intro Gx_339 zcx_339 zsx_339 v3_339 H_339 locs_339 hh_339 hN_339 hle_339 hi_339 hm; exact absurd hm (by omega)
              | succ N L97 =>
                intro Gx_339 zcx_339 zsx_339 v3_339 H_339 locs_339 hh_339 hN_339 hle_339 hi_339 hm_339 ls hl
                have hg_340 := hle_339 _ _ hg_r0
                have hg_341 := hle_339 _ _ hg_spare_13
                have hg_342 := hle_339 _ _ hg_syntax_333
                have hg_343 := hle_339 _ _ hg_kernel_330
                have hg_344 := hle_339 _ _ hg_chk_236
                have hg_345 := hle_339 _ _ hgb_230
                have hg_346 := hle_339 _ _ hge_230
                have hg_347 := hle_339 _ _ hg_latest_19
                have hg_348 := hle_339 _ _ hg_ta
                have hg_349 := hle_339 _ _ hg_pr
                obtain ⟨hi_339_0, hi_339_1, hi_339_2, hi_339_3⟩ := hi_339
                have hql := jSn.le hr_335_2 (by omega)
                refine lv_iload_n hx hb dX11_batch_97 rfl (lv_at hl 3 rfl) ?_
                refine lv_aload_n hx hb dX11_batch_98 rfl (lv_at hl 2 rfl) ?_
                refine j7_read hx hb hown hK (C := RX1) (T := TX1) (N := 17) rfl hly_3_4 hlk_168 (hh_339.at 0 rfl) dX11_batch_99 ?_
                refine lv_icmp_ge (tgt := 165) hx hb dX11_batch_102 (by decide) (fun c_350 => ?_) (fun c_350 => ?_)
                · skip
                  have c_350' : v3_339.toInt ≥ qs_334.toInt := jb_ge (rfl) (rfl) c_350
                  have hjl := jEd.le hr_335_2 (k := v3_339.toInt) (by omega) (by omega) (by omega)
                  refine lv_aload_n hx hb dX11_batch_165 rfl (lv_at hl 2 rfl) ?_
                  refine j7_read hx hb hown hK (C := RX1) (T := TX1) (N := 17) rfl hly_3_4 hlk_168 (hh_339.at 0 rfl) dX11_batch_166 ?_
                  have hsz_351 := hh_339.2.2.2.2.2.1
                  have htt_351 := hh_339.2.2.2.2.2.2.1
                  refine W.room (fun hrc_351 hrs_351 => ?_)
                  refine W.widen (k := LC - s.heap.size) (n := LS - jTot s.heap) (by omega) (by omega) ?_
                  rw [hQ]
                  exact W.iret (v := qs_334) hx hb hr (fun t ht hW => ⟨⟨qs_334, (0, phn_336, Gx_339), rfl, by (try dsimp only); exact ⟨(by first | omega | rfl | assumption | fail), (by first | omega | rfl | assumption | fail)⟩, ⟨hh_339.ra (by first | omega | (simp only; omega)) (by first | omega | (simp only; omega)) (M1 := [(ta, 2, 1, .int 0)]) [11] rfl ht, hN_339, by rw [ht]; exact hh_339.iv 1 rfl, by rw [ht]; exact hh_339.2.2.2.2.2.2.2.2.sub (L1 := [(jFy, jYb dC dI Gx_339), (jFs11, jSef dC dI Gx_339), (jFdo, jDcc dC dI ca Gx_339 none phn_336)]) [2, 3, 0] rfl⟩⟩, by rw [ht]; try exact hh_339.1.1, fun q h9 hq => by rw [ht]; try exact hh_339.1.2.1 q h9 hq⟩) hh_339.1.2.2 dX11_batch_169
                · skip
                  have c_350' : v3_339.toInt < qs_334.toInt := jb_ge_n (rfl) (rfl) c_350
                  have hnb := jEd.nx (hr_335_2.mono (by omega) : jSn _ _ _ 1500) (k := v3_339.toInt) (by omega) (by omega)
                  refine lv_aload_n hx hb dX11_batch_105 rfl (lv_at hl 2 rfl) ?_
                  obtain ⟨v_352, hv_352, hh_353⟩ := hh_339.pin (C := RX1) (T := TX1) (N := 17) hB3 rfl (by decide) hg_341 (i := 2) (by decide) rfl
                  clear hh_339
                  obtain ⟨text_354, rfl, hg_text_354⟩ := hv_352
                  refine j7_read hx hb hown hK (C := RX1) (T := TX1) (N := 17) rfl hly_3_2 hlk_174 (hh_353.at 0 rfl) dX11_batch_106 ?_
                  refine lv_aload_n hx hb dX11_batch_109 rfl (lv_at hl 2 rfl) ?_
                  refine j7_read hx hb hown hK (C := RX1) (T := TX1) (N := 17) rfl hly_3_5 hlk_182 (hh_353.at 6 rfl) dX11_batch_110 ?_
                  refine lv_iload_n hx hb dX11_batch_113 rfl (lv_at hl 3 rfl) ?_
                  refine j7_ialdM hx hb hK hh_353 hB171 1 rfl (by decide) hg_345 (x := v3_339.toInt) (rfl) (by omega) (j := 0) rfl dX11_batch_114 (fun z_355 ez_355 (hz_355 : 0 ≤ z_355.toInt ∧ z_355.toInt ≤ 1500) => ?_)
                  have hqz_355 : z_355.toInt = jSo gb_334 (v3_339.toInt) := by unfold jSo; rw [ez_355]
                  refine lv_aload_n hx hb dX11_batch_115 rfl (lv_at hl 2 rfl) ?_
                  refine j7_read hx hb hown hK (C := RX1) (T := TX1) (N := 17) rfl hly_3_6 hlk_185 (hh_353.at 7 rfl) dX11_batch_116 ?_
                  refine lv_iload_n hx hb dX11_batch_119 rfl (lv_at hl 3 rfl) ?_
                  refine j7_ialdM hx hb hK hh_353 hB172 1 rfl (by decide) hg_346 (x := v3_339.toInt) (rfl) (by omega) (j := 1) rfl dX11_batch_120 (fun z_356 ez_356 (hz_356 : 0 ≤ z_356.toInt ∧ z_356.toInt ≤ 1500) => ?_)
                  have hqz_356 : z_356.toInt = jSo ge_334 (v3_339.toInt) := by unfold jSo; rw [ez_356]
                  have hsz_357 := hh_353.2.2.2.2.2.1
                  have htt_357 := hh_353.2.2.2.2.2.2.1
                  refine W.room (fun hrc_357 hrs_357 => ?_)
                  refine j_callx (A0 := jA base) (H0 := s.heap) (va_runS (As := [.ref text_354, .int z_355, .int z_356]) (rest := []) ⟨hx, hb, hml, hown, hts⟩ (uJ7_copyOfRange_feeccU l dC dI ca base B hB hAp hB101 hB280 Gx_339 H_339 text_354 z_355 z_356 1500 LC LS) (va_cwS 3 hts (jgS (jWr_77 _ (List.mem_of_getElem? (i := 21) rfl)) (jWr_77 _ (List.mem_of_getElem? (i := 22) rfl)) (jWr_16 _ (List.mem_of_getElem? (i := 7) rfl)) (jWr_77 _ (List.mem_of_getElem? (i := 23) rfl))) rfl rfl rfl (by decide +kernel) ⟨by rw [← hR]; exact Nat.le_of_ble_eq_true rfl, by rw [← hR]; exact Nat.le_of_ble_eq_true rfl⟩) ⟨fun a U g mk q => by obtain ⟨q0, q1, q2, qK, q10, q11, q12, q13⟩ := q; exact ⟨q0, q1, q2, jG.calling g mk a qK, (jK8.calling g mk a q10), q11, q12, q13⟩, fun U hU hW => ⟨rfl, hU, hh_353.2.1, hG.step hW hU hh_353.1, (jK8.warm hW hK8), hg_text_354, jP.nil, by first | omega | (refine ⟨?_, ?_, ?_, ?_⟩ <;> (first | omega | rfl | assumption | decide | exact Or.inl rfl | exact Or.inr rfl | (simp only; omega)))⟩⟩ rfl rfl hl.1 rfl (lv_room (Nat.le_of_ble_eq_true rfl)) dX11_batch_121 ⟨by rw [hRc]; omega, by rw [hRs]; omega⟩) hh_353.1 (fun q _ h => h) (fun q h => h) (fun r_358 u_357 t_357 H_357 locs_357 ht_357 hvm_357 hr_358 hb_357 hz_357 hk_357 hS_357 => ?_)
                  rw [ht_357] at hb_357
                  obtain ⟨m_ret_357, G_357⟩ := u_357
                  simp only at hb_357
                  obtain ⟨⟨hb_3571, hb_3572, hb_3573, hb_3574, hb_3575, hb_3576⟩, hN_357, hbK_357⟩ := hb_357
                  have hE9_357 := hN_357
                  have hM_357 := hN_357
                  have hN_357 : (jNk [0, 1, 2, 4, 6, 7, 8, 9, 10, 12, 13, 14, 15, 16]) Gx_339 G_357 := hN_357.sub (by decide)
                  have hh_357 : jSt (dC, dI) B base G0 G_357 EX11_batch s.heap (zcx_339 + (1)) (zsx_339 + (m_ret_357)) [(spare_13, 3, 2, .ref text_354), (spare_13, 3, 4, .int qs_334), (kernel_330, 7, 1, .ref syntax_333), (r0, 13, 5, .ref kernel_330), (spare_13, 3, 11, .ref chk_236), (spare_13, 3, 10, .int pk_230), (spare_13, 3, 5, .ref yb_230), (spare_13, 3, 6, .ref ye_230), (r0, 13, 18, .int (-2)), (r0, 13, 16, .ref spare_13), (r0, 13, 15, .ref latest_19), (spare_13, 3, 3, .int ql_14), (ta, 2, 1, .int 0), (r0, 13, 0, .ref ta), (ta, 2, 0, .ref pr)] [(yb_230, 171, 40, ca 1, gb_334), (ye_230, 172, 40, ca 1, ge_334)] [(jFdo, jDcc dC dI ca Gx_339 none phn_336), ([(2, 0), (2, 1)], jOl (dC, dI) G0 2 [ta] s.heap), (jFy, jYb dC dI Gx_339), (jFs11, jSef dC dI Gx_339)] H_357 locs_357 := (hh_353.callG hb_3571 hb_3572 hb_3573 hb_3574 hb_3575 hS_357 rfl (L1 := [(spare_13, 3, 2, .ref text_354), (spare_13, 3, 4, .int qs_334), (kernel_330, 7, 1, .ref syntax_333), (r0, 13, 5, .ref kernel_330), (spare_13, 3, 11, .ref chk_236), (spare_13, 3, 10, .int pk_230), (spare_13, 3, 5, .ref yb_230), (spare_13, 3, 6, .ref ye_230), (r0, 13, 18, .int (-2)), (r0, 13, 16, .ref spare_13), (r0, 13, 15, .ref latest_19), (spare_13, 3, 3, .int ql_14), (ta, 2, 1, .int 0), (r0, 13, 0, .ref ta), (ta, 2, 0, .ref pr)]) [0, 1, 2, 3, 4, 5, 6, 7, 8, 9, 10, 11, 12, 13, 14] rfl rfl (M1 := [(yb_230, 171, 40, ca 1, gb_334), (ye_230, 172, 40, ca 1, ge_334)]) [0, 1] rfl rfl (I1 := [(jFdo, jDcc dC dI ca Gx_339 none phn_336), ([(2, 0), (2, 1)], jOl (dC, dI) G0 2 [ta] s.heap), (jFy, jYb dC dI Gx_339), (jFs11, jSef dC dI Gx_339)]) [0, 1, 2, 3] rfl rfl).more hb_3576
                  have hNn_357 : (jNk [0, 1, 2, 4, 6, 7, 8, 9, 10, 12, 13, 14, 15, 16]) G0 G_357 := (hN_339).tr hN_357
                  have hg_359 := hb_3572 _ _ hg_340
                  have hg_360 := hb_3572 _ _ hg_341
                  have hg_361 := hb_3572 _ _ hg_text_354
                  have hg_362 := hb_3572 _ _ hg_342
                  have hg_363 := hb_3572 _ _ hg_343
                  have hg_364 := hb_3572 _ _ hg_344
                  have hg_365 := hb_3572 _ _ hg_345
                  have hg_366 := hb_3572 _ _ hg_346
                  have hg_367 := hb_3572 _ _ hg_347
                  have hg_368 := hb_3572 _ _ hg_348
                  have hg_369 := hb_3572 _ _ hg_349
                  have hd_370 := jDcc.grow (hh_357.iv 0 rfl) hb_3572 hE9_357 (by decide)
                  have hh_371 := hh_357.sub (L1 := [(spare_13, 3, 2, .ref text_354), (spare_13, 3, 4, .int qs_334), (kernel_330, 7, 1, .ref syntax_333), (r0, 13, 5, .ref kernel_330), (spare_13, 3, 11, .ref chk_236), (spare_13, 3, 10, .int pk_230), (spare_13, 3, 5, .ref yb_230), (spare_13, 3, 6, .ref ye_230), (r0, 13, 18, .int (-2)), (r0, 13, 16, .ref spare_13), (r0, 13, 15, .ref latest_19), (spare_13, 3, 3, .int ql_14), (ta, 2, 1, .int 0), (r0, 13, 0, .ref ta), (ta, 2, 0, .ref pr)]) [0, 1, 2, 3, 4, 5, 6, 7, 8, 9, 10, 11, 12, 13, 14] rfl (M1 := [(yb_230, 171, 40, ca 1, gb_334), (ye_230, 172, 40, ca 1, ge_334)]) [0, 1] rfl (I1 := [([(2, 0), (2, 1)], jOl (dC, dI) G0 2 [ta] s.heap), (jFy, jYb dC dI Gx_339), (jFs11, jSef dC dI Gx_339)]) [1, 2, 3] rfl
                  clear hh_357
                  have hh_372 := hh_371.addI (jDcc.ie hd_370)
                  clear hh_371
                  have hd_373 := jYb.grow (hh_372.iv 2 rfl) hb_3572 hN_357 (by decide)
                  have hh_374 := hh_372.sub (L1 := [(spare_13, 3, 2, .ref text_354), (spare_13, 3, 4, .int qs_334), (kernel_330, 7, 1, .ref syntax_333), (r0, 13, 5, .ref kernel_330), (spare_13, 3, 11, .ref chk_236), (spare_13, 3, 10, .int pk_230), (spare_13, 3, 5, .ref yb_230), (spare_13, 3, 6, .ref ye_230), (r0, 13, 18, .int (-2)), (r0, 13, 16, .ref spare_13), (r0, 13, 15, .ref latest_19), (spare_13, 3, 3, .int ql_14), (ta, 2, 1, .int 0), (r0, 13, 0, .ref ta), (ta, 2, 0, .ref pr)]) [0, 1, 2, 3, 4, 5, 6, 7, 8, 9, 10, 11, 12, 13, 14] rfl (M1 := [(yb_230, 171, 40, ca 1, gb_334), (ye_230, 172, 40, ca 1, ge_334)]) [0, 1] rfl (I1 := [(jFdo, jDcc dC dI ca G_357 none phn_336), ([(2, 0), (2, 1)], jOl (dC, dI) G0 2 [ta] s.heap), (jFs11, jSef dC dI Gx_339)]) [0, 1, 3] rfl
                  clear hh_372
                  have hh_375 := hh_374.addI (jYb.ie hd_373)
                  clear hh_374
                  have hd_376 := jSef.grow (hh_375.iv 3 rfl) hb_3572 hM_357 (by decide)
                  have hh_377 := hh_375.sub (L1 := [(spare_13, 3, 2, .ref text_354), (spare_13, 3, 4, .int qs_334), (kernel_330, 7, 1, .ref syntax_333), (r0, 13, 5, .ref kernel_330), (spare_13, 3, 11, .ref chk_236), (spare_13, 3, 10, .int pk_230), (spare_13, 3, 5, .ref yb_230), (spare_13, 3, 6, .ref ye_230), (r0, 13, 18, .int (-2)), (r0, 13, 16, .ref spare_13), (r0, 13, 15, .ref latest_19), (spare_13, 3, 3, .int ql_14), (ta, 2, 1, .int 0), (r0, 13, 0, .ref ta), (ta, 2, 0, .ref pr)]) [0, 1, 2, 3, 4, 5, 6, 7, 8, 9, 10, 11, 12, 13, 14] rfl (M1 := [(yb_230, 171, 40, ca 1, gb_334), (ye_230, 172, 40, ca 1, ge_334)]) [0, 1] rfl (I1 := [(jFy, jYb dC dI G_357), (jFdo, jDcc dC dI ca G_357 none phn_336), ([(2, 0), (2, 1)], jOl (dC, dI) G0 2 [ta] s.heap)]) [0, 1, 2] rfl
                  clear hh_375
                  have hh_378 := hh_377.addI (jSef.ie hd_376)
                  clear hh_377
                  obtain ⟨hr_358, hr_358n, hr_358p⟩ := hr_358
                  try simp only at hr_358p
                  obtain ⟨ret_379, rfl, hg_ret_379⟩ := hr_358
                  have hsy_357 : s.heap.size ≤ ret_379 := Nat.le_trans hh_353.1.1 hr_358n.le
                  refine lv_astore (lv' := [(4, .ref ret_379), (0, .ref r0), (1, .int a1), (2, .ref spare_13), (3, .int v3_339)]) hx hb dX11_batch_124 hl (by decide) rfl (fun ls hl => ?_)
                  refine lv_aload_n hx hb dX11_batch_126 rfl (lv_at hl 3 rfl) ?_
                  obtain ⟨v_380, hv_380, hh_381⟩ := hh_378.pin (C := RX1) (T := TX1) (N := 17) hB3 rfl (by decide) hg_360 (i := 9) (by decide) rfl
                  clear hh_378
                  obtain ⟨behind_382, rfl, hg_behind_382⟩ := hv_380
                  refine j7_read hx hb hown hK (C := RX1) (T := TX1) (N := 17) rfl hly_3_9 hlk_178 (hh_381.at 0 rfl) dX11_batch_127 ?_
                  refine lv_iload_n hx hb dX11_batch_130 rfl (lv_at hl 4 rfl) ?_
                  refine lv_aload_n hx hb dX11_batch_131 rfl (lv_at hl 1 rfl) ?_
                  refine j7_read hx hb hown hK (C := RX11) (T := TX11) (N := 19) rfl hly_13_5 hlk_41 (hh_381.at 4 rfl) dX11_batch_132 ?_
                  refine lv_aload_n hx hb dX11_batch_135 rfl (lv_at hl 3 rfl) ?_
                  refine lv_iload_n hx hb dX11_batch_136 rfl (lv_at hl 4 rfl) ?_
                  refine lv_aload_n hx hb dX11_batch_137 rfl (lv_at hl 1 rfl) ?_
                  refine j7_read hx hb hown hK (C := RX11) (T := TX11) (N := 19) rfl hly_13_5 hlk_41 (hh_381.at 4 rfl) dX11_batch_138 ?_
                  obtain ⟨v_383, hv_383, hh_384⟩ := hh_381.pin (C := RX5) (T := TX5) (N := 11) hB7 rfl (by decide) hg_363 (i := 2) (by decide) rfl
                  clear hh_381
                  obtain ⟨start_385, rfl, hg_start_385⟩ := hv_383
                  refine j7_read hx hb hown hK (C := RX5) (T := TX5) (N := 11) rfl hly_7_2 hlk_217 (hh_384.at 0 rfl) dX11_batch_141 ?_
                  have hsz_386 := hh_384.2.2.2.2.2.1
                  have htt_386 := hh_384.2.2.2.2.2.2.1
                  refine W.room (fun hrc_386 hrs_386 => ?_)
                  refine j_callx (A0 := jA base) (H0 := s.heap) (va_runV (As := [.int v3_339, .ref start_385]) (rest := [.ref kernel_330, .int v3_339, .ref behind_382]) ⟨hx, hb, hml, hown, hts⟩ (uX1_stateBehind l dC dI ca base B hB hAp hB3 hB11 hB210 G_357 H_357 spare_13 v3_339 start_385 1) (cwV 2 hts (jgV (jWr_30 _ (List.mem_of_getElem? (i := 9) rfl)) (jWr_30 _ (List.mem_of_getElem? (i := 10) rfl)) (jWr_30 _ (List.mem_of_getElem? (i := 11) rfl)) (jWr_2 _ (List.mem_of_getElem? (i := 21) rfl)) (jWr_30 _ (List.mem_of_getElem? (i := 12) rfl))) rfl rfl rfl (by decide +kernel) ⟨by rw [← hR]; exact Nat.le_of_ble_eq_true rfl, by rw [← hR]; exact Nat.le_of_ble_eq_true rfl⟩) ⟨fun a U g mk q => by obtain ⟨q0, q1, q2, qK, q10, q11, q12, q13, q14⟩ := q; exact ⟨q0, q1, q2, jG.calling g mk a qK, (va_K.moved (Vm.Alike.refl U.vm) q10), q11, q12, q13, q14⟩, hh_384.recv (C := RX1) (T := TX1) (N := 17) hB3 rfl (by decide) hg_360 hK, fun U hU hW => ⟨rfl, hU, hh_384.2.1, hG.step hW hU hh_384.1, va_K.moved hW.alike hK2, hg_360, hg_start_385, jP.nil, trivial⟩⟩ rfl rfl hl.1 rfl (lv_room (Nat.le_of_ble_eq_true rfl)) dX11_batch_144 ⟨by rw [hRc]; show _ + 0 ≤ _; omega, by rw [hRs]; show _ + 0 ≤ _; omega⟩) hh_384.1 (fun q _ h => h) (fun q h => h) (fun r_387 u_386 t_386 H_386 locs_386 ht_386 hvm_386 hr_387 hb_386 hz_386 hk_386 hS_386 => ?_)
                  rw [ht_386] at hb_386
                  obtain ⟨hb_3861, hb_3862, hb_3863, hb_3864, hb_3865⟩ := hb_386
                  have hh_386 : jSt (dC, dI) B base G0 G_357 EX11_batch s.heap (zcx_339 + (1)) (zsx_339 + (m_ret_357)) [(kernel_330, 7, 2, .ref start_385), (spare_13, 3, 9, .ref behind_382), (spare_13, 3, 2, .ref text_354), (spare_13, 3, 4, .int qs_334), (kernel_330, 7, 1, .ref syntax_333), (r0, 13, 5, .ref kernel_330), (spare_13, 3, 11, .ref chk_236), (spare_13, 3, 10, .int pk_230), (spare_13, 3, 5, .ref yb_230), (spare_13, 3, 6, .ref ye_230), (r0, 13, 18, .int (-2)), (r0, 13, 16, .ref spare_13), (r0, 13, 15, .ref latest_19), (spare_13, 3, 3, .int ql_14), (ta, 2, 1, .int 0), (r0, 13, 0, .ref ta), (ta, 2, 0, .ref pr)] [(yb_230, 171, 40, ca 1, gb_334), (ye_230, 172, 40, ca 1, ge_334)] [(jFs11, jSef dC dI G_357), (jFy, jYb dC dI G_357), (jFdo, jDcc dC dI ca G_357 none phn_336), ([(2, 0), (2, 1)], jOl (dC, dI) G0 2 [ta] s.heap)] H_386 locs_386 := ((hh_384.call hb_3861 hb_3862 hb_3863 hb_3864 hS_386 rfl (L1 := [(kernel_330, 7, 2, .ref start_385), (spare_13, 3, 9, .ref behind_382), (spare_13, 3, 2, .ref text_354), (spare_13, 3, 4, .int qs_334), (kernel_330, 7, 1, .ref syntax_333), (r0, 13, 5, .ref kernel_330), (spare_13, 3, 11, .ref chk_236), (spare_13, 3, 10, .int pk_230), (spare_13, 3, 5, .ref yb_230), (spare_13, 3, 6, .ref ye_230), (r0, 13, 18, .int (-2)), (r0, 13, 16, .ref spare_13), (r0, 13, 15, .ref latest_19), (spare_13, 3, 3, .int ql_14), (ta, 2, 1, .int 0), (r0, 13, 0, .ref ta), (ta, 2, 0, .ref pr)]) [0, 1, 2, 3, 4, 5, 6, 7, 8, 9, 10, 11, 12, 13, 14, 15, 16] rfl rfl (M1 := [(yb_230, 171, 40, ca 1, gb_334), (ye_230, 172, 40, ca 1, ge_334)]) [0, 1] rfl rfl (I1 := [(jFs11, jSef dC dI G_357), (jFy, jYb dC dI G_357), (jFdo, jDcc dC dI ca G_357 none phn_336), ([(2, 0), (2, 1)], jOl (dC, dI) G0 2 [ta] s.heap)]) [0, 1, 2, 3] rfl rfl).more hb_3865)
                  clear hh_384 ht_386 hvm_386 hz_386 hk_386 hS_386 hb_3861 hb_3862 hb_3863 hb_3864 hb_3865
                  obtain ⟨ret_388, rfl, hg_ret_388⟩ := hr_387
                  refine lv_aload hx hb dX11_batch_147 (lv_at hl 0 rfl) ?_
                  refine lv_aload_n hx hb dX11_batch_149 rfl (lv_at hl 3 rfl) ?_
                  obtain ⟨v_389, hv_389, hh_390⟩ := hh_386.pin (C := RX1) (T := TX1) (N := 17) hB3 rfl (by decide) hg_360 (i := 8) (by decide) rfl
                  clear hh_386
                  obtain ⟨early_391, rfl, hg_early_391⟩ := hv_389
                  refine j7_read hx hb hown hK (C := RX1) (T := TX1) (N := 17) rfl hly_3_8 hlk_225 (hh_390.at 0 rfl) dX11_batch_150 ?_
                  refine lv_iload_n hx hb dX11_batch_153 rfl (lv_at hl 4 rfl) ?_
                  refine j7_iald hx hb hK hh_390 hB101 1 rfl (by decide) hg_early_391 (x := v3_339.toInt) (rfl) (by omega) dX11_batch_154 (fun z_392 (hz_392 : True) => ?_)
                  have hsz_393 := hh_390.2.2.2.2.2.1
                  have htt_393 := hh_390.2.2.2.2.2.2.1
                  refine W.room (fun hrc_393 hrs_393 => ?_)
                  refine j_callx (A0 := jA base) (H0 := s.heap) (va_runV (As := [.ref ret_388, .ref ret_379, .int z_392]) (rest := [.int v3_339, .ref behind_382]) ⟨hx, hb, hml, hown, hts⟩ (uX5_checkS l dC dI ca base B hB hAp hB5 hB7 hB8 hB11 hB12 hB101 hB102 hB132 hB133 hB211 hB214 hB280 hB290 hB291 hB292 hB293 hB313 hB315 G_357 H_386 kernel_330 ret_388 ret_379 z_392 m_ret_357 (min 1 (m_ret_357 / 3)) LC LS) (cwV 3 hts (jgV (jWr_78 _ (List.mem_of_getElem? (i := 14) rfl)) (jWr_78 _ (List.mem_of_getElem? (i := 15) rfl)) (jWr_78 _ (List.mem_of_getElem? (i := 16) rfl)) (jWr_2 _ (List.mem_of_getElem? (i := 4) rfl)) (jWr_78 _ (List.mem_of_getElem? (i := 17) rfl))) rfl rfl rfl (by decide +kernel) ⟨by rw [← hR]; exact Nat.le_of_ble_eq_true rfl, by rw [← hR]; exact Nat.le_of_ble_eq_true rfl⟩) ⟨fun a U g mk q => by obtain ⟨q0, q1, q2, qK, q10, q11, q12, q13, q14, q15, q16, q17, q18⟩ := q; exact ⟨q0, q1, q2, jG.calling g mk a qK, (va_K.moved (Vm.Alike.refl U.vm) q10), (jK5.moved (Vm.Alike.refl U.vm) q11), (jK6.moved (Vm.Alike.refl U.vm) q12), q13, q14, q15, q16, q17, q18⟩, hh_390.recv (C := RX5) (T := TX5) (N := 11) hB7 rfl (by decide) hg_363 hK, fun U hU hW => ⟨rfl, hU, hh_390.2.1, hG.step hW hU hh_390.1, va_K.moved hW.alike hK2, jK5.moved hW.alike hK5, jK6.moved hW.alike hK6, hg_363, hg_ret_388, hg_ret_379, jP.nil, (hh_390.2.2.2.2.2.2.2.2.sub (L1 := [(jFs11, jSef dC dI G_357)]) [0] rfl), by first | omega | (refine ⟨?_, ?_⟩ <;> (first | omega | rfl | assumption | decide | exact Or.inl rfl | exact Or.inr rfl | (simp only; omega)))⟩⟩ rfl rfl hl.1 rfl (lv_room (Nat.le_of_ble_eq_true rfl)) dX11_batch_155 ⟨by rw [hRc]; omega, by rw [hRs]; omega⟩) hh_390.1 (fun q _ h => h) (fun q h => h) (fun r_394 u_393 t_393 H_393 locs_393 ht_393 hvm_393 hr_394 hb_393 hz_393 hk_393 hS_393 => ?_)
                  rw [ht_393] at hb_393
                  obtain ⟨G_393, rfl⟩ : ∃ z, z = u_393 := ⟨_, rfl⟩
                  try simp only at hb_393
                  obtain ⟨⟨hb_3931, hb_3932, hb_3933, hb_3934, hb_3935, hb_3936⟩, hN_393, hbE_393⟩ := hb_393
                  have hE9_393 := hN_393
                  have hN_393 : (jNk [0, 1, 2, 4, 6, 7, 8, 9, 10, 12, 13, 14, 15, 16]) G_357 G_393 := hN_393.sub (by decide)
                  have hh_393 : jSt (dC, dI) B base G0 G_393 EX11_batch s.heap ((zcx_339 + (1)) + (23)) ((zsx_339 + (m_ret_357)) + ((183 + 336 * (min 1 (m_ret_357 / 3))))) [(spare_13, 3, 8, .ref early_391), (kernel_330, 7, 2, .ref start_385), (spare_13, 3, 9, .ref behind_382), (spare_13, 3, 2, .ref text_354), (spare_13, 3, 4, .int qs_334), (kernel_330, 7, 1, .ref syntax_333), (r0, 13, 5, .ref kernel_330), (spare_13, 3, 11, .ref chk_236), (spare_13, 3, 10, .int pk_230), (spare_13, 3, 5, .ref yb_230), (spare_13, 3, 6, .ref ye_230), (r0, 13, 18, .int (-2)), (r0, 13, 16, .ref spare_13), (r0, 13, 15, .ref latest_19), (spare_13, 3, 3, .int ql_14), (ta, 2, 1, .int 0), (r0, 13, 0, .ref ta), (ta, 2, 0, .ref pr)] [(yb_230, 171, 40, ca 1, gb_334), (ye_230, 172, 40, ca 1, ge_334)] [(jFy, jYb dC dI G_357), (jFdo, jDcc dC dI ca G_357 none phn_336), ([(2, 0), (2, 1)], jOl (dC, dI) G0 2 [ta] s.heap)] H_393 locs_393 := (hh_390.callG hb_3931 hb_3932 hb_3933 hb_3934 hb_3935 hS_393 rfl (L1 := [(spare_13, 3, 8, .ref early_391), (kernel_330, 7, 2, .ref start_385), (spare_13, 3, 9, .ref behind_382), (spare_13, 3, 2, .ref text_354), (spare_13, 3, 4, .int qs_334), (kernel_330, 7, 1, .ref syntax_333), (r0, 13, 5, .ref kernel_330), (spare_13, 3, 11, .ref chk_236), (spare_13, 3, 10, .int pk_230), (spare_13, 3, 5, .ref yb_230), (spare_13, 3, 6, .ref ye_230), (r0, 13, 18, .int (-2)), (r0, 13, 16, .ref spare_13), (r0, 13, 15, .ref latest_19), (spare_13, 3, 3, .int ql_14), (ta, 2, 1, .int 0), (r0, 13, 0, .ref ta), (ta, 2, 0, .ref pr)]) [0, 1, 2, 3, 4, 5, 6, 7, 8, 9, 10, 11, 12, 13, 14, 15, 16, 17] rfl rfl (M1 := [(yb_230, 171, 40, ca 1, gb_334), (ye_230, 172, 40, ca 1, ge_334)]) [0, 1] rfl rfl (I1 := [(jFy, jYb dC dI G_357), (jFdo, jDcc dC dI ca G_357 none phn_336), ([(2, 0), (2, 1)], jOl (dC, dI) G0 2 [ta] s.heap)]) [1, 2, 3] rfl rfl).more hb_3936
                  have hNn_393 : (jNk [0, 1, 2, 4, 6, 7, 8, 9, 10, 12, 13, 14, 15, 16]) G0 G_393 := (hNn_357).tr hN_393
                  have hg_395 := hb_3932 _ _ hg_ret_379
                  have hg_396 := hb_3932 _ _ hg_359
                  have hg_397 := hb_3932 _ _ hg_360
                  have hg_398 := hb_3932 _ _ hg_behind_382
                  have hg_399 := hb_3932 _ _ hg_early_391
                  have hg_400 := hb_3932 _ _ hg_start_385
                  have hg_401 := hb_3932 _ _ hg_361
                  have hg_402 := hb_3932 _ _ hg_362
                  have hg_403 := hb_3932 _ _ hg_363
                  have hg_404 := hb_3932 _ _ hg_364
                  have hg_405 := hb_3932 _ _ hg_365
                  have hg_406 := hb_3932 _ _ hg_366
                  have hg_407 := hb_3932 _ _ hg_367
                  have hg_408 := hb_3932 _ _ hg_368
                  have hg_409 := hb_3932 _ _ hg_369
                  have hd_410 := jYb.grow (hh_393.iv 0 rfl) hb_3932 hN_393 (by decide)
                  have hh_411 := hh_393.sub (L1 := [(spare_13, 3, 8, .ref early_391), (kernel_330, 7, 2, .ref start_385), (spare_13, 3, 9, .ref behind_382), (spare_13, 3, 2, .ref text_354), (spare_13, 3, 4, .int qs_334), (kernel_330, 7, 1, .ref syntax_333), (r0, 13, 5, .ref kernel_330), (spare_13, 3, 11, .ref chk_236), (spare_13, 3, 10, .int pk_230), (spare_13, 3, 5, .ref yb_230), (spare_13, 3, 6, .ref ye_230), (r0, 13, 18, .int (-2)), (r0, 13, 16, .ref spare_13), (r0, 13, 15, .ref latest_19), (spare_13, 3, 3, .int ql_14), (ta, 2, 1, .int 0), (r0, 13, 0, .ref ta), (ta, 2, 0, .ref pr)]) [0, 1, 2, 3, 4, 5, 6, 7, 8, 9, 10, 11, 12, 13, 14, 15, 16, 17] rfl (M1 := [(yb_230, 171, 40, ca 1, gb_334), (ye_230, 172, 40, ca 1, ge_334)]) [0, 1] rfl (I1 := [(jFdo, jDcc dC dI ca G_357 none phn_336), ([(2, 0), (2, 1)], jOl (dC, dI) G0 2 [ta] s.heap)]) [1, 2] rfl
                  clear hh_393
                  have hh_412 := hh_411.addI (jYb.ie hd_410)
                  clear hh_411
                  have hd_413 := jDcc.grow (hh_412.iv 1 rfl) hb_3932 hE9_393 (by decide)
                  have hh_414 := hh_412.sub (L1 := [(spare_13, 3, 8, .ref early_391), (kernel_330, 7, 2, .ref start_385), (spare_13, 3, 9, .ref behind_382), (spare_13, 3, 2, .ref text_354), (spare_13, 3, 4, .int qs_334), (kernel_330, 7, 1, .ref syntax_333), (r0, 13, 5, .ref kernel_330), (spare_13, 3, 11, .ref chk_236), (spare_13, 3, 10, .int pk_230), (spare_13, 3, 5, .ref yb_230), (spare_13, 3, 6, .ref ye_230), (r0, 13, 18, .int (-2)), (r0, 13, 16, .ref spare_13), (r0, 13, 15, .ref latest_19), (spare_13, 3, 3, .int ql_14), (ta, 2, 1, .int 0), (r0, 13, 0, .ref ta), (ta, 2, 0, .ref pr)]) [0, 1, 2, 3, 4, 5, 6, 7, 8, 9, 10, 11, 12, 13, 14, 15, 16, 17] rfl (M1 := [(yb_230, 171, 40, ca 1, gb_334), (ye_230, 172, 40, ca 1, ge_334)]) [0, 1] rfl (I1 := [(jFy, jYb dC dI G_393), ([(2, 0), (2, 1)], jOl (dC, dI) G0 2 [ta] s.heap)]) [0, 2] rfl
                  clear hh_412
                  have hh_415 := hh_414.addI (jDcc.ie hd_413)
                  clear hh_414
                  have hh_416 := hh_415.addIs hbE_393
                  obtain ⟨hr_394, hr_394p⟩ := hr_394
                  try simp only at hr_394p
                  obtain ⟨ret_417, rfl, hg_ret_417⟩ := hr_394
                  refine j7_qast hx hb hK2 hh_416 hB hB210 2 rfl (by decide) (by decide) rfl rfl rfl hg_398 (x := v3_339.toInt) (rfl) (by omega) hB11 (T := TX9) (N := 9) rfl (by decide) hg_ret_417 (Or.inr ⟨_, rfl, hg_ret_417⟩) dX11_batch_158 (fun H_418 locs_418 hh_418 => ?_)
                  clear hh_416
                  obtain ⟨z_419, ez_419⟩ : ∃ y : Int32, y = v3_339 + 1 := ⟨_, rfl⟩
                  refine lv_iinc (v := z_419) (lv' := [(3, .int z_419), (4, .ref ret_379), (0, .ref r0), (1, .int a1), (2, .ref spare_13)]) hx hb dX11_batch_159 hl (k := 4) rfl (by rw [ez_419]; rfl) (by decide) rfl (fun ls hl => ?_)
                  have hz_419 : z_419.toInt = v3_339.toInt + 1 := by rw [ez_419]; exact jb_iadd2 (rfl) (by decide) (by omega)
                  have hje := jEd.to hnb.2.2.1 (k1 := (v3_339.toInt + 1)) (by omega)
                  refine lv_goto (tgt := 97) hx hb dX11_batch_162 (by decide) ?_
                  refine W.tight (c2 := ((zcx_339 + (1)) + (23))) (n2 := ((zsx_339 + (m_ret_357)) + ((183 + 336 * (min 1 (m_ret_357 / 3)))))) hh_418.2.2.2.2.2.1 hh_418.2.2.2.2.2.2.1 ?_
                  exact L97 G_393 ((zcx_339 + (1)) + (23)) ((zsx_339 + (m_ret_357)) + ((183 + 336 * (min 1 (m_ret_357 / 3))))) z_419 _ _ (hh_418.sub (L1 := [(spare_13, 3, 4, .int qs_334), (kernel_330, 7, 1, .ref syntax_333), (r0, 13, 5, .ref kernel_330), (spare_13, 3, 11, .ref chk_236), (spare_13, 3, 10, .int pk_230), (spare_13, 3, 5, .ref yb_230), (spare_13, 3, 6, .ref ye_230), (r0, 13, 18, .int (-2)), (r0, 13, 16, .ref spare_13), (r0, 13, 15, .ref latest_19), (spare_13, 3, 3, .int ql_14), (ta, 2, 1, .int 0), (r0, 13, 0, .ref ta), (ta, 2, 0, .ref pr)]) [4, 5, 6, 7, 8, 9, 10, 11, 12, 13, 14, 15, 16, 17] rfl (M1 := [(yb_230, 171, 40, ca 1, gb_334), (ye_230, 172, 40, ca 1, ge_334)]) [0, 1] rfl (I1 := [(jFdo, jDcc dC dI ca G_393 none phn_336), ([(2, 0), (2, 1)], jOl (dC, dI) G0 2 [ta] s.heap), (jFy, jYb dC dI G_393), (jFs11, jSef dC dI G_393)]) [1, 3, 2, 0] rfl) (hNn_393) (((hle_339).tr hb_3572).tr hb_3932) (by first | omega | (refine ⟨?_, ?_, ?_, ?_⟩ <;> (first | omega | rfl | assumption | decide | exact Or.inl rfl | exact Or.inr rfl | (simp only; omega)))) (by omega) _ (lv_sub hl [2, 3, 4, 0] rfl)
            refine W.tight (c2 := 0) (n2 := 0) hh_338.2.2.2.2.2.1 hh_338.2.2.2.2.2.2.1 ?_
            exact L97 (qs_334.toInt - (0 : Int32).toInt : Int).toNat.succ G0 0 0 0 _ _ hh_338 (jNk.rf) (jLe.rf) (by first | omega | (refine ⟨?_, ?_, ?_, ?_⟩ <;> (first | omega | rfl | assumption | decide | exact Or.inl rfl | exact Or.inr rfl | (simp only; omega)))) (by omega) _ (lv_sub hl [2, 3, 1, 0] rfl)
      · skip
        have c_16' : r_15.toInt = 0 := jb_ne_n (rfl) ((by decide)) c_16
        refine lv_bipush (v := (-2)) hx hb dX11_batch_45 (by decide) ?_
        have hsz_420 := hh_14.2.2.2.2.2.1
        have htt_420 := hh_14.2.2.2.2.2.2.1
        refine W.room (fun hrc_420 hrs_420 => ?_)
        refine W.widen (k := LC - s.heap.size) (n := LS - jTot s.heap) (by omega) (by omega) ?_
        rw [hQ]
        exact W.iret (v := (-2)) hx hb hr (fun t ht hW => ⟨⟨(-2), (0, ph, G0), rfl, by (try dsimp only); exact ⟨(by first | omega | rfl | assumption | fail), (by first | omega | rfl | assumption | fail)⟩, ⟨hh_14.ra (by first | omega | (simp only; omega)) (by first | omega | (simp only; omega)) (M1 := [(ta, 2, 1, .int 0)]) [2] rfl ht, jNk.rf, by rw [ht]; exact hh_14.iv 0 rfl, by rw [ht]; exact hh_14.2.2.2.2.2.2.2.2.sub (L1 := [(jFy, jYb dC dI G0), (jFs11, jSef dC dI G0), (jFdo, jDcc dC dI ca G0 none ph)]) [1, 2, 3] rfl⟩⟩, by rw [ht]; try exact hh_14.1.1, fun q h9 hq => by rw [ht]; try exact hh_14.1.2.1 q h9 hq⟩) hh_14.1.2.2 dX11_batch_47
    · skip
      have c_4' : a1.toInt > pt.toInt := jb_le_n (rfl) (rfl) c_4
      refine lv_iconst (v := (-1)) hx hb dX11_batch_15 (by decide) ?_
      have hsz_421 := hh_1.2.2.2.2.2.1
      have htt_421 := hh_1.2.2.2.2.2.2.1
      refine W.room (fun hrc_421 hrs_421 => ?_)
      refine W.widen (k := LC - s.heap.size) (n := LS - jTot s.heap) (by omega) (by omega) ?_
      rw [hQ]
      exact W.iret (v := (-1)) hx hb hr (fun t ht hW => ⟨⟨(-1), (pt, ph, G0), rfl, by (try dsimp only); exact ⟨(by first | omega | rfl | assumption | fail), (by first | omega | rfl | assumption | fail)⟩, ⟨hh_1.ra (by first | omega | (simp only; omega)) (by first | omega | (simp only; omega)) (M1 := [(ta, 2, 1, .int pt)]) [1] rfl ht, jNk.rf, by rw [ht]; exact hh_1.iv 0 rfl, by rw [ht]; exact hh_1.2.2.2.2.2.2.2.2.sub (L1 := [(jFy, jYb dC dI G0), (jFs11, jSef dC dI G0), (jFdo, jDcc dC dI ca G0 none ph)]) [1, 2, 3] rfl⟩⟩, by rw [ht]; try exact hh_1.1.1, fun q h9 hq => by rw [ht]; try exact hh_1.1.2.1 q h9 hq⟩) hh_1.1.2.2 dX11_batch_16
