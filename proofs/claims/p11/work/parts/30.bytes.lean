abbrev cX0_decoded : ByteArray := prog_2_method_10_code
def yX0_decoded : MethodName := ⟨RX0, "decoded", "([BII)I"⟩
def wsX0_decoded : List Cond := .code yX0_decoded cX0_decoded 8 (some .int) :: ([.constant RX0 60 (65536), .constant RX0 74 (1114111), .constant RX0 61 (55296), .constant RX0 73 (57344)])
theorem dX0_decoded_0 : decode cX0_decoded 0 = .ok (.iload_n 1, 1) := by decide +kernel
theorem dX0_decoded_1 : decode cX0_decoded 1 = .ok (.ifCond .lt 14, 3) := by decide +kernel
theorem dX0_decoded_4 : decode cX0_decoded 4 = .ok (.iload_n 1, 1) := by decide +kernel
theorem dX0_decoded_5 : decode cX0_decoded 5 = .ok (.iload_n 2, 1) := by decide +kernel
theorem dX0_decoded_6 : decode cX0_decoded 6 = .ok (.if_icmp .ge 9, 3) := by decide +kernel
theorem dX0_decoded_9 : decode cX0_decoded 9 = .ok (.iload_n 2, 1) := by decide +kernel
theorem dX0_decoded_10 : decode cX0_decoded 10 = .ok (.aload_n 0, 1) := by decide +kernel
theorem dX0_decoded_11 : decode cX0_decoded 11 = .ok (.arraylength, 1) := by decide +kernel
theorem dX0_decoded_12 : decode cX0_decoded 12 = .ok (.if_icmp .le 5, 3) := by decide +kernel
theorem dX0_decoded_15 : decode cX0_decoded 15 = .ok (.iconst (-1), 1) := by decide +kernel
theorem dX0_decoded_16 : decode cX0_decoded 16 = .ok (.ireturn, 1) := by decide +kernel
theorem dX0_decoded_17 : decode cX0_decoded 17 = .ok (.aload_n 0, 1) := by decide +kernel
theorem dX0_decoded_18 : decode cX0_decoded 18 = .ok (.iload_n 1, 1) := by decide +kernel
theorem dX0_decoded_19 : decode cX0_decoded 19 = .ok (.baload, 1) := by decide +kernel
theorem dX0_decoded_20 : decode cX0_decoded 20 = .ok (.sipush 255, 3) := by decide +kernel
theorem dX0_decoded_23 : decode cX0_decoded 23 = .ok (.iand, 1) := by decide +kernel
theorem dX0_decoded_24 : decode cX0_decoded 24 = .ok (.istore_n 3, 1) := by decide +kernel
theorem dX0_decoded_25 : decode cX0_decoded 25 = .ok (.iload_n 3, 1) := by decide +kernel
theorem dX0_decoded_26 : decode cX0_decoded 26 = .ok (.sipush 128, 3) := by decide +kernel
theorem dX0_decoded_29 : decode cX0_decoded 29 = .ok (.if_icmp .ge 5, 3) := by decide +kernel
theorem dX0_decoded_32 : decode cX0_decoded 32 = .ok (.iload_n 3, 1) := by decide +kernel
theorem dX0_decoded_33 : decode cX0_decoded 33 = .ok (.ireturn, 1) := by decide +kernel
theorem dX0_decoded_34 : decode cX0_decoded 34 = .ok (.iload_n 3, 1) := by decide +kernel
theorem dX0_decoded_35 : decode cX0_decoded 35 = .ok (.sipush 240, 3) := by decide +kernel
theorem dX0_decoded_38 : decode cX0_decoded 38 = .ok (.if_icmp .lt 7, 3) := by decide +kernel
theorem dX0_decoded_41 : decode cX0_decoded 41 = .ok (.iconst 3, 1) := by decide +kernel
theorem dX0_decoded_42 : decode cX0_decoded 42 = .ok (.goto 15, 3) := by decide +kernel
theorem dX0_decoded_45 : decode cX0_decoded 45 = .ok (.iload_n 3, 1) := by decide +kernel
theorem dX0_decoded_46 : decode cX0_decoded 46 = .ok (.sipush 224, 3) := by decide +kernel
theorem dX0_decoded_49 : decode cX0_decoded 49 = .ok (.if_icmp .lt 7, 3) := by decide +kernel
theorem dX0_decoded_52 : decode cX0_decoded 52 = .ok (.iconst 2, 1) := by decide +kernel
theorem dX0_decoded_53 : decode cX0_decoded 53 = .ok (.goto 4, 3) := by decide +kernel
theorem dX0_decoded_56 : decode cX0_decoded 56 = .ok (.iconst 1, 1) := by decide +kernel
theorem dX0_decoded_57 : decode cX0_decoded 57 = .ok (.istore 4, 2) := by decide +kernel
theorem dX0_decoded_59 : decode cX0_decoded 59 = .ok (.iload_n 3, 1) := by decide +kernel
theorem dX0_decoded_60 : decode cX0_decoded 60 = .ok (.sipush 194, 3) := by decide +kernel
theorem dX0_decoded_63 : decode cX0_decoded 63 = .ok (.if_icmp .lt 18, 3) := by decide +kernel
theorem dX0_decoded_66 : decode cX0_decoded 66 = .ok (.iload_n 3, 1) := by decide +kernel
theorem dX0_decoded_67 : decode cX0_decoded 67 = .ok (.sipush 244, 3) := by decide +kernel
theorem dX0_decoded_70 : decode cX0_decoded 70 = .ok (.if_icmp .gt 11, 3) := by decide +kernel
theorem dX0_decoded_73 : decode cX0_decoded 73 = .ok (.iload 4, 2) := by decide +kernel
theorem dX0_decoded_75 : decode cX0_decoded 75 = .ok (.iload_n 2, 1) := by decide +kernel
theorem dX0_decoded_76 : decode cX0_decoded 76 = .ok (.iload_n 1, 1) := by decide +kernel
theorem dX0_decoded_77 : decode cX0_decoded 77 = .ok (.isub, 1) := by decide +kernel
theorem dX0_decoded_78 : decode cX0_decoded 78 = .ok (.if_icmp .lt 5, 3) := by decide +kernel
theorem dX0_decoded_81 : decode cX0_decoded 81 = .ok (.iconst (-1), 1) := by decide +kernel
theorem dX0_decoded_82 : decode cX0_decoded 82 = .ok (.ireturn, 1) := by decide +kernel
theorem dX0_decoded_83 : decode cX0_decoded 83 = .ok (.iload_n 3, 1) := by decide +kernel
theorem dX0_decoded_84 : decode cX0_decoded 84 = .ok (.bipush 63, 2) := by decide +kernel
theorem dX0_decoded_86 : decode cX0_decoded 86 = .ok (.iload 4, 2) := by decide +kernel
theorem dX0_decoded_88 : decode cX0_decoded 88 = .ok (.ishr, 1) := by decide +kernel
theorem dX0_decoded_89 : decode cX0_decoded 89 = .ok (.iand, 1) := by decide +kernel
theorem dX0_decoded_90 : decode cX0_decoded 90 = .ok (.istore 5, 2) := by decide +kernel
theorem dX0_decoded_92 : decode cX0_decoded 92 = .ok (.iconst 1, 1) := by decide +kernel
theorem dX0_decoded_93 : decode cX0_decoded 93 = .ok (.istore 6, 2) := by decide +kernel
theorem dX0_decoded_95 : decode cX0_decoded 95 = .ok (.iload 6, 2) := by decide +kernel
theorem dX0_decoded_97 : decode cX0_decoded 97 = .ok (.iload 4, 2) := by decide +kernel
theorem dX0_decoded_99 : decode cX0_decoded 99 = .ok (.if_icmp .gt 48, 3) := by decide +kernel
theorem dX0_decoded_102 : decode cX0_decoded 102 = .ok (.aload_n 0, 1) := by decide +kernel
theorem dX0_decoded_103 : decode cX0_decoded 103 = .ok (.iload_n 1, 1) := by decide +kernel
theorem dX0_decoded_104 : decode cX0_decoded 104 = .ok (.iload 6, 2) := by decide +kernel
theorem dX0_decoded_106 : decode cX0_decoded 106 = .ok (.iadd, 1) := by decide +kernel
theorem dX0_decoded_107 : decode cX0_decoded 107 = .ok (.baload, 1) := by decide +kernel
theorem dX0_decoded_108 : decode cX0_decoded 108 = .ok (.sipush 255, 3) := by decide +kernel
theorem dX0_decoded_111 : decode cX0_decoded 111 = .ok (.iand, 1) := by decide +kernel
theorem dX0_decoded_112 : decode cX0_decoded 112 = .ok (.istore 7, 2) := by decide +kernel
theorem dX0_decoded_114 : decode cX0_decoded 114 = .ok (.iload 7, 2) := by decide +kernel
theorem dX0_decoded_116 : decode cX0_decoded 116 = .ok (.sipush 192, 3) := by decide +kernel
theorem dX0_decoded_119 : decode cX0_decoded 119 = .ok (.iand, 1) := by decide +kernel
theorem dX0_decoded_120 : decode cX0_decoded 120 = .ok (.sipush 128, 3) := by decide +kernel
theorem dX0_decoded_123 : decode cX0_decoded 123 = .ok (.if_icmp .eq 5, 3) := by decide +kernel
theorem dX0_decoded_126 : decode cX0_decoded 126 = .ok (.iconst (-1), 1) := by decide +kernel
theorem dX0_decoded_127 : decode cX0_decoded 127 = .ok (.ireturn, 1) := by decide +kernel
theorem dX0_decoded_128 : decode cX0_decoded 128 = .ok (.iload 5, 2) := by decide +kernel
theorem dX0_decoded_130 : decode cX0_decoded 130 = .ok (.bipush 6, 2) := by decide +kernel
theorem dX0_decoded_132 : decode cX0_decoded 132 = .ok (.ishl, 1) := by decide +kernel
theorem dX0_decoded_133 : decode cX0_decoded 133 = .ok (.iload 7, 2) := by decide +kernel
theorem dX0_decoded_135 : decode cX0_decoded 135 = .ok (.bipush 63, 2) := by decide +kernel
theorem dX0_decoded_137 : decode cX0_decoded 137 = .ok (.iand, 1) := by decide +kernel
theorem dX0_decoded_138 : decode cX0_decoded 138 = .ok (.ior, 1) := by decide +kernel
theorem dX0_decoded_139 : decode cX0_decoded 139 = .ok (.istore 5, 2) := by decide +kernel
theorem dX0_decoded_141 : decode cX0_decoded 141 = .ok (.iinc 6 1, 3) := by decide +kernel
theorem dX0_decoded_144 : decode cX0_decoded 144 = .ok (.goto (-49), 3) := by decide +kernel
theorem dX0_decoded_147 : decode cX0_decoded 147 = .ok (.iload 4, 2) := by decide +kernel
theorem dX0_decoded_149 : decode cX0_decoded 149 = .ok (.iconst 2, 1) := by decide +kernel
theorem dX0_decoded_150 : decode cX0_decoded 150 = .ok (.if_icmp .ne 11, 3) := by decide +kernel
theorem dX0_decoded_153 : decode cX0_decoded 153 = .ok (.iload 5, 2) := by decide +kernel
theorem dX0_decoded_155 : decode cX0_decoded 155 = .ok (.sipush 2048, 3) := by decide +kernel
theorem dX0_decoded_158 : decode cX0_decoded 158 = .ok (.if_icmp .lt 16, 3) := by decide +kernel
theorem dX0_decoded_161 : decode cX0_decoded 161 = .ok (.iload 4, 2) := by decide +kernel
theorem dX0_decoded_163 : decode cX0_decoded 163 = .ok (.iconst 3, 1) := by decide +kernel
theorem dX0_decoded_164 : decode cX0_decoded 164 = .ok (.if_icmp .ne 14, 3) := by decide +kernel
theorem dX0_decoded_167 : decode cX0_decoded 167 = .ok (.iload 5, 2) := by decide +kernel
theorem dX0_decoded_169 : decode cX0_decoded 169 = .ok (.ldc 60, 2) := by decide +kernel
theorem dX0_decoded_171 : decode cX0_decoded 171 = .ok (.if_icmp .ge 7, 3) := by decide +kernel
theorem dX0_decoded_174 : decode cX0_decoded 174 = .ok (.iconst 1, 1) := by decide +kernel
theorem dX0_decoded_175 : decode cX0_decoded 175 = .ok (.goto 4, 3) := by decide +kernel
theorem dX0_decoded_178 : decode cX0_decoded 178 = .ok (.iconst 0, 1) := by decide +kernel
theorem dX0_decoded_179 : decode cX0_decoded 179 = .ok (.istore 6, 2) := by decide +kernel
theorem dX0_decoded_181 : decode cX0_decoded 181 = .ok (.iload 6, 2) := by decide +kernel
theorem dX0_decoded_183 : decode cX0_decoded 183 = .ok (.ifCond .ne 24, 3) := by decide +kernel
theorem dX0_decoded_186 : decode cX0_decoded 186 = .ok (.iload 5, 2) := by decide +kernel
theorem dX0_decoded_188 : decode cX0_decoded 188 = .ok (.ldc 74, 2) := by decide +kernel
theorem dX0_decoded_190 : decode cX0_decoded 190 = .ok (.if_icmp .gt 17, 3) := by decide +kernel
theorem dX0_decoded_193 : decode cX0_decoded 193 = .ok (.iload 5, 2) := by decide +kernel
theorem dX0_decoded_195 : decode cX0_decoded 195 = .ok (.ldc 61, 2) := by decide +kernel
theorem dX0_decoded_197 : decode cX0_decoded 197 = .ok (.if_icmp .lt 14, 3) := by decide +kernel
theorem dX0_decoded_200 : decode cX0_decoded 200 = .ok (.iload 5, 2) := by decide +kernel
theorem dX0_decoded_202 : decode cX0_decoded 202 = .ok (.ldc 73, 2) := by decide +kernel
theorem dX0_decoded_204 : decode cX0_decoded 204 = .ok (.if_icmp .ge 7, 3) := by decide +kernel
theorem dX0_decoded_207 : decode cX0_decoded 207 = .ok (.iconst (-1), 1) := by decide +kernel
theorem dX0_decoded_208 : decode cX0_decoded 208 = .ok (.goto 5, 3) := by decide +kernel
theorem dX0_decoded_211 : decode cX0_decoded 211 = .ok (.iload 5, 2) := by decide +kernel
theorem dX0_decoded_213 : decode cX0_decoded 213 = .ok (.ireturn, 1) := by decide +kernel
set_option maxHeartbeats 4000000 in
set_option maxRecDepth 20000 in
theorem kX0_decoded (l : Launch) (dC : Nat → ClassId) (dI : Nat → Nat → Nat) (ca : Nat → ClassId) (base : Nat) (H0 : Heap) (ar n : Nat) (f : Nat → Int32) (a1 a2 : Int32) : Met l yX0_decoded wsX0_decoded ({ frames := 0, cells := 0, slots := 0, locals := 0 }) (va_Pc [.ref ar, .int a1, .int a2] (fun U => U.heap = H0 ∧ va_at (dC, dI) vwCl (ar, .inl (ca 0, n, .inl f)) H0 ∧ jG dC dI ca base U ∧ (n < 2000000))) (vp_Si (fun r => r.toInt ≤ 1114111)) 0 0 (fun _ => False) := by
  refine Met.ofW (cc := cX0_decoded) (maxL := 8) (ret := (some .int)) (by decide) rfl ?_
  intro p e s m args below meth c s₁ B hml hv
  obtain ⟨rfl, hH0, hat_ar, hG, hn0⟩ := hv
  have hK := hG.1
  have hx := B.exec
  have hb := B.bytes
  have hr := B.returns
  have hts := atoms_spec (ws := wsX0_decoded) B.pre
  have hown : s.vm.findClass RX0 = some m.cls := findClass_of_methodNamed B.named
  have hlocks := B.notSynchronized
  obtain ⟨Q, hQ⟩ : ∃ Q, Q = MQ below (vp_Si (fun r => r.toInt ≤ 1114111)) ([.ref ar, .int a1, .int a2] : List Value).toArray s 0 0 (fun _ => False) := ⟨_, rfl⟩
  rw [← hQ]
  have hl := lv_entry ([.ref ar, .int a1, .int a2]) (n := 8) (Nat.le_of_ble_eq_true rfl)
  rw [lg_entry_eq]
  generalize (lg_sl ([.ref ar, .int a1, .int a2]) ++ List.replicate (8 - (lg_sl ([.ref ar, .int a1, .int a2])).length) Slot.unset).toArray = ls at hl ⊢
  have hl : lv_has ls 8 [(0, .ref ar), (1, .int a1), (2, .int a2)] := hl
  generalize hR : (headSpec wsX0_decoded ({ frames := 0, cells := 0, slots := 0, locals := 0 })).room = R
  subst hH0
  have hS : va_S (jA base) s.heap s.heap [] := va_S.rf
  have hkm1 : ((-1) : Int32).toInt = (-1) := by decide
  have hk0 : (0 : Int32).toInt = 0 := by decide
  have hk1 : (1 : Int32).toInt = 1 := by decide
  have hk2 : (2 : Int32).toInt = 2 := by decide
  have hk3 : (3 : Int32).toInt = 3 := by decide
  have hk6 : (6 : Int32).toInt = 6 := by decide
  have hk63 : (63 : Int32).toInt = 63 := by decide
  have hk128 : (128 : Int32).toInt = 128 := by decide
  have hk192 : (192 : Int32).toInt = 192 := by decide
  have hk194 : (194 : Int32).toInt = 194 := by decide
  have hk224 : (224 : Int32).toInt = 224 := by decide
  have hk240 : (240 : Int32).toInt = 240 := by decide
  have hk244 : (244 : Int32).toInt = 244 := by decide
  have hk255 : (255 : Int32).toInt = 255 := by decide
  have hk2048 : (2048 : Int32).toInt = 2048 := by decide
  refine lv_iload_n hx hb dX0_decoded_0 rfl (lv_at hl 1 rfl) ?_
  refine lv_if_lt (tgt := 15) hx hb dX0_decoded_1 (by decide) (fun c_1 => ?_) (fun c_1 => ?_)
  · skip
    have c_1' : a1.toInt < 0 := jb_lt (rfl) ((by decide)) c_1
    refine lv_iconst (v := (-1)) hx hb dX0_decoded_15 (by decide) ?_
    rw [hQ]
    exact W.iret (v := (-1)) hx hb hr (fun t ht hW => ⟨(-1), rfl, by first | omega | decide, ht⟩) (fun _ h => nomatch h) dX0_decoded_16
  · skip
    have c_1' : a1.toInt ≥ 0 := jb_lt_n (rfl) ((by decide)) c_1
    refine lv_iload_n hx hb dX0_decoded_4 rfl (lv_at hl 1 rfl) ?_
    refine lv_iload_n hx hb dX0_decoded_5 rfl (lv_at hl 2 rfl) ?_
    refine lv_icmp_ge (tgt := 15) hx hb dX0_decoded_6 (by decide) (fun c_2 => ?_) (fun c_2 => ?_)
    · skip
      have c_2' : a1.toInt ≥ a2.toInt := jb_ge (rfl) (rfl) c_2
      refine lv_iconst (v := (-1)) hx hb dX0_decoded_15 (by decide) ?_
      rw [hQ]
      exact W.iret (v := (-1)) hx hb hr (fun t ht hW => ⟨(-1), rfl, by first | omega | decide, ht⟩) (fun _ h => nomatch h) dX0_decoded_16
    · skip
      have c_2' : a1.toInt < a2.toInt := jb_ge_n (rfl) (rfl) c_2
      refine lv_iload_n hx hb dX0_decoded_9 rfl (lv_at hl 2 rfl) ?_
      refine lv_aload_n hx hb dX0_decoded_10 rfl (lv_at hl 0 rfl) ?_
      refine va_alen (v := Int32.ofNat n) hx hb hK (jp_one hat_ar) 0 0 rfl rfl rfl dX0_decoded_11 ?_
      refine lv_topi (fun z_3 ez_3 => ?_)
      have hz_3 : z_3.toInt = n := by rw [ez_3]; exact jb_nat (by omega)
      refine lv_icmp_le (tgt := 17) hx hb dX0_decoded_12 (by decide) (fun c_4 => ?_) (fun c_4 => ?_)
      · skip
        have c_4' : a2.toInt ≤ z_3.toInt := jb_le (rfl) (rfl) c_4
        refine lv_aload_n hx hb dX0_decoded_17 rfl (lv_at hl 0 rfl) ?_
        refine lv_iload_n hx hb dX0_decoded_18 rfl (lv_at hl 1 rfl) ?_
        refine va_bald hx hb hK (jp_one hat_ar) 0 0 rfl rfl (jb_in (rfl) (by omega) (by omega)) dX0_decoded_19 ?_
        refine lv_topi (fun z_5 ez_5 => ?_)
        refine lv_sipush (v := 255) hx hb dX0_decoded_20 (by decide) ?_
        refine lv_iand hx hb dX0_decoded_23 ?_
        refine lv_topi (fun z_6 ez_6 => ?_)
        have hz_6 : 0 ≤ z_6.toInt ∧ z_6.toInt ≤ 255 := by rw [ez_6]; exact jb_and z_5 (m := 255) (k := 8) (by decide) (by decide)
        refine lv_istore_n (lv' := [(3, .int z_6), (0, .ref ar), (1, .int a1), (2, .int a2)]) hx hb dX0_decoded_24 rfl hl (by decide) rfl (fun ls hl => ?_)
        refine lv_iload_n hx hb dX0_decoded_25 rfl (lv_at hl 0 rfl) ?_
        refine lv_sipush (v := 128) hx hb dX0_decoded_26 (by decide) ?_
        refine lv_icmp_ge (tgt := 34) hx hb dX0_decoded_29 (by decide) (fun c_7 => ?_) (fun c_7 => ?_)
        · skip
          have c_7' : z_6.toInt ≥ 128 := jb_ge (rfl) ((by decide)) c_7
          refine lv_iload_n hx hb dX0_decoded_34 rfl (lv_at hl 0 rfl) ?_
          refine lv_sipush (v := 240) hx hb dX0_decoded_35 (by decide) ?_
          refine lv_icmp_lt (tgt := 45) hx hb dX0_decoded_38 (by decide) (fun c_8 => ?_) (fun c_8 => ?_)
          · skip
            have c_8' : z_6.toInt < 240 := jb_lt (rfl) ((by decide)) c_8
            refine lv_iload_n hx hb dX0_decoded_45 rfl (lv_at hl 0 rfl) ?_
            refine lv_sipush (v := 224) hx hb dX0_decoded_46 (by decide) ?_
            refine lv_icmp_lt (tgt := 56) hx hb dX0_decoded_49 (by decide) (fun c_9 => ?_) (fun c_9 => ?_)
            · skip
              have c_9' : z_6.toInt < 224 := jb_lt (rfl) ((by decide)) c_9
              refine lv_iconst (v := 1) hx hb dX0_decoded_56 (by decide) ?_
              refine lv_istore (lv' := [(4, .int 1), (3, .int z_6), (0, .ref ar), (1, .int a1), (2, .int a2)]) hx hb dX0_decoded_57 hl (by decide) rfl (fun ls hl => ?_)
              refine lv_iload_n hx hb dX0_decoded_59 rfl (lv_at hl 1 rfl) ?_
              refine lv_sipush (v := 194) hx hb dX0_decoded_60 (by decide) ?_
              refine lv_icmp_lt (tgt := 81) hx hb dX0_decoded_63 (by decide) (fun c_10 => ?_) (fun c_10 => ?_)
              · skip
                have c_10' : z_6.toInt < 194 := jb_lt (rfl) ((by decide)) c_10
                refine lv_iconst (v := (-1)) hx hb dX0_decoded_81 (by decide) ?_
                rw [hQ]
                exact W.iret (v := (-1)) hx hb hr (fun t ht hW => ⟨(-1), rfl, by first | omega | decide, ht⟩) (fun _ h => nomatch h) dX0_decoded_82
              · skip
                have c_10' : z_6.toInt ≥ 194 := jb_lt_n (rfl) ((by decide)) c_10
                refine lv_iload_n hx hb dX0_decoded_66 rfl (lv_at hl 1 rfl) ?_
                refine lv_sipush (v := 244) hx hb dX0_decoded_67 (by decide) ?_
                refine lv_icmp_gt (tgt := 81) hx hb dX0_decoded_70 (by decide) (fun c_11 => ?_) (fun c_11 => ?_)
                · skip
                  have c_11' : z_6.toInt > 244 := jb_gt (rfl) ((by decide)) c_11
                  refine lv_iconst (v := (-1)) hx hb dX0_decoded_81 (by decide) ?_
                  rw [hQ]
                  exact W.iret (v := (-1)) hx hb hr (fun t ht hW => ⟨(-1), rfl, by first | omega | decide, ht⟩) (fun _ h => nomatch h) dX0_decoded_82
                · skip
                  have c_11' : z_6.toInt ≤ 244 := jb_gt_n (rfl) ((by decide)) c_11
                  refine lv_iload hx hb dX0_decoded_73 (lv_at hl 0 rfl) ?_
                  refine lv_iload_n hx hb dX0_decoded_75 rfl (lv_at hl 4 rfl) ?_
                  refine lv_iload_n hx hb dX0_decoded_76 rfl (lv_at hl 3 rfl) ?_
                  refine lv_isub hx hb dX0_decoded_77 ?_
                  refine lv_topi (fun z_12 ez_12 => ?_)
                  have hz_12 : z_12.toInt = a2.toInt - a1.toInt := by rw [ez_12]; exact jb_isub (rfl) (rfl) (by omega) (by omega)
                  refine lv_icmp_lt (tgt := 83) hx hb dX0_decoded_78 (by decide) (fun c_13 => ?_) (fun c_13 => ?_)
                  · skip
                    have c_13' : 1 < z_12.toInt := jb_lt ((by decide)) (rfl) c_13
                    refine lv_iload_n hx hb dX0_decoded_83 rfl (lv_at hl 1 rfl) ?_
                    refine lv_bipush (v := 63) hx hb dX0_decoded_84 (by decide) ?_
                    refine lv_iload hx hb dX0_decoded_86 (lv_at hl 0 rfl) ?_
                    refine lv_ishr hx hb dX0_decoded_88 ?_
                    refine lv_topi (fun z_14 ez_14 => ?_)
                    have hz_14 : z_14.toInt = 63 / 2 ^ 1 := by rw [ez_14]; exact jb_ishr 1 ((by decide)) (by decide)
                    refine lv_iand hx hb dX0_decoded_89 ?_
                    refine lv_topi (fun z_15 ez_15 => ?_)
                    refine lv_istore (lv' := [(5, .int z_15), (4, .int 1), (3, .int z_6), (0, .ref ar), (1, .int a1), (2, .int a2)]) hx hb dX0_decoded_90 hl (by decide) rfl (fun ls hl => ?_)
                    refine lv_iconst (v := 1) hx hb dX0_decoded_92 (by decide) ?_
                    refine lv_istore (lv' := [(6, .int 1), (5, .int z_15), (4, .int 1), (3, .int z_6), (0, .ref ar), (1, .int a1), (2, .int a2)]) hx hb dX0_decoded_93 hl (by decide) rfl (fun ls hl => ?_)
                    have L95 : ∀ (N : Nat) (cv iv : Int32), (1 ≤ iv.toInt ∧ iv.toInt ≤ 4) → (4 - iv.toInt : Int) < N → ∀ ls : Array Slot, lv_has ls 8 [(0, .ref ar), (1, .int a1), (2, .int a2), (4, .int 1), (5, .int cv), (6, .int iv)] → W p l e R s m ([.ref ar, .int a1, .int a2] : List Value).toArray below meth c s.heap [] 0 0 Q (F0 m 95 ls []) := by
                      intro N
                      induction N with
                      | zero => intro cv iv hi hm; exact absurd hm (by omega)
                      | succ N ih =>
                        have L95 := ih
                        intro cv iv hi hm ls hl
                        refine lv_iload hx hb dX0_decoded_95 (lv_at hl 5 rfl) ?_
                        refine lv_iload hx hb dX0_decoded_97 (lv_at hl 3 rfl) ?_
                        refine lv_icmp_gt (tgt := 147) hx hb dX0_decoded_99 (by decide) (fun c_16 => ?_) (fun c_16 => ?_)
                        · skip
                          have c_16' : iv.toInt > 1 := jb_gt (rfl) ((by decide)) c_16
                          refine lv_iload hx hb dX0_decoded_147 (lv_at hl 3 rfl) ?_
                          refine lv_iconst (v := 2) hx hb dX0_decoded_149 (by decide) ?_
                          refine lv_icmp_ne (tgt := 161) hx hb dX0_decoded_150 (by decide) (fun c_17 => ?_) (fun c_17 => ?_)
                          · skip
                            refine lv_iload hx hb dX0_decoded_161 (lv_at hl 3 rfl) ?_
                            refine lv_iconst (v := 3) hx hb dX0_decoded_163 (by decide) ?_
                            refine lv_icmp_ne (tgt := 178) hx hb dX0_decoded_164 (by decide) (fun c_18 => ?_) (fun c_18 => ?_)
                            · skip
                              refine lv_iconst (v := 0) hx hb dX0_decoded_178 (by decide) ?_
                              refine lv_istore (lv' := [(6, .int 0), (0, .ref ar), (1, .int a1), (2, .int a2), (4, .int 1), (5, .int cv)]) hx hb dX0_decoded_179 hl (by decide) rfl (fun ls hl => ?_)
                              refine lv_iload hx hb dX0_decoded_181 (lv_at hl 0 rfl) ?_
                              refine lv_if_ne (tgt := 207) hx hb dX0_decoded_183 (by decide) (fun c_19 => ?_) (fun c_19 => ?_)
                              · skip
                                exact absurd c_19 (by decide)
                              · skip
                                refine lv_iload hx hb dX0_decoded_186 (lv_at hl 5 rfl) ?_
                                refine lv_ldc hx hb hown (hts (.constant RX0 74 1114111) (by decide +kernel)) dX0_decoded_188 ?_
                                refine lv_icmp_gt (tgt := 207) hx hb dX0_decoded_190 (by decide) (fun c_20 => ?_) (fun c_20 => ?_)
                                · skip
                                  have c_20' : cv.toInt > 1114111 := jb_gt (rfl) ((by decide)) c_20
                                  refine lv_iconst (v := (-1)) hx hb dX0_decoded_207 (by decide) ?_
                                  refine lv_goto (tgt := 213) hx hb dX0_decoded_208 (by decide) ?_
                                  rw [hQ]
                                  exact W.iret (v := (-1)) hx hb hr (fun t ht hW => ⟨(-1), rfl, by first | omega | decide, ht⟩) (fun _ h => nomatch h) dX0_decoded_213
                                · skip
                                  have c_20' : cv.toInt ≤ 1114111 := jb_gt_n (rfl) ((by decide)) c_20
                                  refine lv_iload hx hb dX0_decoded_193 (lv_at hl 5 rfl) ?_
                                  refine lv_ldc hx hb hown (hts (.constant RX0 61 55296) (by decide +kernel)) dX0_decoded_195 ?_
                                  refine lv_icmp_lt (tgt := 211) hx hb dX0_decoded_197 (by decide) (fun c_21 => ?_) (fun c_21 => ?_)
                                  · skip
                                    have c_21' : cv.toInt < 55296 := jb_lt (rfl) ((by decide)) c_21
                                    refine lv_iload hx hb dX0_decoded_211 (lv_at hl 5 rfl) ?_
                                    rw [hQ]
                                    exact W.iret (v := cv) hx hb hr (fun t ht hW => ⟨cv, rfl, by first | omega | decide, ht⟩) (fun _ h => nomatch h) dX0_decoded_213
                                  · skip
                                    have c_21' : cv.toInt ≥ 55296 := jb_lt_n (rfl) ((by decide)) c_21
                                    refine lv_iload hx hb dX0_decoded_200 (lv_at hl 5 rfl) ?_
                                    refine lv_ldc hx hb hown (hts (.constant RX0 73 57344) (by decide +kernel)) dX0_decoded_202 ?_
                                    refine lv_icmp_ge (tgt := 211) hx hb dX0_decoded_204 (by decide) (fun c_22 => ?_) (fun c_22 => ?_)
                                    · skip
                                      have c_22' : cv.toInt ≥ 57344 := jb_ge (rfl) ((by decide)) c_22
                                      refine lv_iload hx hb dX0_decoded_211 (lv_at hl 5 rfl) ?_
                                      rw [hQ]
                                      exact W.iret (v := cv) hx hb hr (fun t ht hW => ⟨cv, rfl, by first | omega | decide, ht⟩) (fun _ h => nomatch h) dX0_decoded_213
                                    · skip
                                      have c_22' : cv.toInt < 57344 := jb_ge_n (rfl) ((by decide)) c_22
                                      refine lv_iconst (v := (-1)) hx hb dX0_decoded_207 (by decide) ?_
                                      refine lv_goto (tgt := 213) hx hb dX0_decoded_208 (by decide) ?_
                                      rw [hQ]
                                      exact W.iret (v := (-1)) hx hb hr (fun t ht hW => ⟨(-1), rfl, by first | omega | decide, ht⟩) (fun _ h => nomatch h) dX0_decoded_213
                            · skip
                              exact absurd c_18 (by decide)
                          · skip
                            exact absurd c_17 (by decide)
                        · skip
                          have c_16' : iv.toInt ≤ 1 := jb_gt_n (rfl) ((by decide)) c_16
                          refine lv_aload_n hx hb dX0_decoded_102 rfl (lv_at hl 0 rfl) ?_
                          refine lv_iload_n hx hb dX0_decoded_103 rfl (lv_at hl 1 rfl) ?_
                          refine lv_iload hx hb dX0_decoded_104 (lv_at hl 5 rfl) ?_
                          refine lv_iadd hx hb dX0_decoded_106 ?_
                          refine lv_topi (fun z_23 ez_23 => ?_)
                          have hz_23 : z_23.toInt = a1.toInt + iv.toInt := by rw [ez_23]; exact jb_iadd (rfl) (rfl) (by omega) (by omega)
                          refine va_bald hx hb hK (jp_one hat_ar) 0 0 rfl rfl (jb_in (rfl) (by omega) (by omega)) dX0_decoded_107 ?_
                          refine lv_topi (fun z_24 ez_24 => ?_)
                          refine lv_sipush (v := 255) hx hb dX0_decoded_108 (by decide) ?_
                          refine lv_iand hx hb dX0_decoded_111 ?_
                          refine lv_topi (fun z_25 ez_25 => ?_)
                          have hz_25 : 0 ≤ z_25.toInt ∧ z_25.toInt ≤ 255 := by rw [ez_25]; exact jb_and z_24 (m := 255) (k := 8) (by decide) (by decide)
                          refine lv_istore (lv' := [(7, .int z_25), (0, .ref ar), (1, .int a1), (2, .int a2), (4, .int 1), (5, .int cv), (6, .int iv)]) hx hb dX0_decoded_112 hl (by decide) rfl (fun ls hl => ?_)
                          refine lv_iload hx hb dX0_decoded_114 (lv_at hl 0 rfl) ?_
                          refine lv_sipush (v := 192) hx hb dX0_decoded_116 (by decide) ?_
                          refine lv_iand hx hb dX0_decoded_119 ?_
                          refine lv_topi (fun z_26 ez_26 => ?_)
                          refine lv_sipush (v := 128) hx hb dX0_decoded_120 (by decide) ?_
                          refine lv_icmp_eq (tgt := 128) hx hb dX0_decoded_123 (by decide) (fun c_27 => ?_) (fun c_27 => ?_)
                          · skip
                            have c_27' : z_26.toInt = 128 := jb_eq (rfl) ((by decide)) c_27
                            refine lv_iload hx hb dX0_decoded_128 (lv_at hl 5 rfl) ?_
                            refine lv_bipush (v := 6) hx hb dX0_decoded_130 (by decide) ?_
                            refine lv_ishl hx hb dX0_decoded_132 ?_
                            refine lv_topi (fun z_28 ez_28 => ?_)
                            refine lv_iload hx hb dX0_decoded_133 (lv_at hl 0 rfl) ?_
                            refine lv_bipush (v := 63) hx hb dX0_decoded_135 (by decide) ?_
                            refine lv_iand hx hb dX0_decoded_137 ?_
                            refine lv_topi (fun z_29 ez_29 => ?_)
                            have hz_29 : 0 ≤ z_29.toInt ∧ z_29.toInt ≤ 63 := by rw [ez_29]; exact jb_and z_25 (m := 63) (k := 6) (by decide) (by decide)
                            refine lv_ior hx hb dX0_decoded_138 ?_
                            refine lv_topi (fun z_30 ez_30 => ?_)
                            refine lv_istore (lv' := [(5, .int z_30), (7, .int z_25), (0, .ref ar), (1, .int a1), (2, .int a2), (4, .int 1), (6, .int iv)]) hx hb dX0_decoded_139 hl (by decide) rfl (fun ls hl => ?_)
                            obtain ⟨z_31, ez_31⟩ : ∃ y : Int32, y = iv + 1 := ⟨_, rfl⟩
                            refine lv_iinc (v := z_31) (lv' := [(6, .int z_31), (5, .int z_30), (7, .int z_25), (0, .ref ar), (1, .int a1), (2, .int a2), (4, .int 1)]) hx hb dX0_decoded_141 hl (k := 6) rfl (by rw [ez_31]; rfl) (by decide) rfl (fun ls hl => ?_)
                            have hz_31 : z_31.toInt = iv.toInt + 1 := by rw [ez_31]; exact jb_iadd (rfl) (by decide) (by omega) (by omega)
                            refine lv_goto (tgt := 95) hx hb dX0_decoded_144 (by decide) ?_
                            exact L95 z_30 z_31 (⟨by omega, by omega⟩) (by omega) _ (lv_sub hl [3, 4, 5, 6, 1, 0] rfl)
                          · skip
                            have c_27' : z_26.toInt ≠ 128 := jb_eq_n (rfl) ((by decide)) c_27
                            refine lv_iconst (v := (-1)) hx hb dX0_decoded_126 (by decide) ?_
                            rw [hQ]
                            exact W.iret (v := (-1)) hx hb hr (fun t ht hW => ⟨(-1), rfl, by first | omega | decide, ht⟩) (fun _ h => nomatch h) dX0_decoded_127
                    exact L95 (4 - (1 : Int32).toInt : Int).toNat.succ z_15 1 (⟨by omega, by omega⟩) (by omega) _ (lv_sub hl [4, 5, 6, 2, 1, 0] rfl)
                  · skip
                    have c_13' : 1 ≥ z_12.toInt := jb_lt_n ((by decide)) (rfl) c_13
                    refine lv_iconst (v := (-1)) hx hb dX0_decoded_81 (by decide) ?_
                    rw [hQ]
                    exact W.iret (v := (-1)) hx hb hr (fun t ht hW => ⟨(-1), rfl, by first | omega | decide, ht⟩) (fun _ h => nomatch h) dX0_decoded_82
            · skip
              have c_9' : z_6.toInt ≥ 224 := jb_lt_n (rfl) ((by decide)) c_9
              refine lv_iconst (v := 2) hx hb dX0_decoded_52 (by decide) ?_
              refine lv_goto (tgt := 57) hx hb dX0_decoded_53 (by decide) ?_
              refine lv_istore (lv' := [(4, .int 2), (3, .int z_6), (0, .ref ar), (1, .int a1), (2, .int a2)]) hx hb dX0_decoded_57 hl (by decide) rfl (fun ls hl => ?_)
              refine lv_iload_n hx hb dX0_decoded_59 rfl (lv_at hl 1 rfl) ?_
              refine lv_sipush (v := 194) hx hb dX0_decoded_60 (by decide) ?_
              refine lv_icmp_lt (tgt := 81) hx hb dX0_decoded_63 (by decide) (fun c_32 => ?_) (fun c_32 => ?_)
              · skip
                have c_32' : z_6.toInt < 194 := jb_lt (rfl) ((by decide)) c_32
                refine lv_iconst (v := (-1)) hx hb dX0_decoded_81 (by decide) ?_
                rw [hQ]
                exact W.iret (v := (-1)) hx hb hr (fun t ht hW => ⟨(-1), rfl, by first | omega | decide, ht⟩) (fun _ h => nomatch h) dX0_decoded_82
              · skip
                have c_32' : z_6.toInt ≥ 194 := jb_lt_n (rfl) ((by decide)) c_32
                refine lv_iload_n hx hb dX0_decoded_66 rfl (lv_at hl 1 rfl) ?_
                refine lv_sipush (v := 244) hx hb dX0_decoded_67 (by decide) ?_
                refine lv_icmp_gt (tgt := 81) hx hb dX0_decoded_70 (by decide) (fun c_33 => ?_) (fun c_33 => ?_)
                · skip
                  have c_33' : z_6.toInt > 244 := jb_gt (rfl) ((by decide)) c_33
                  refine lv_iconst (v := (-1)) hx hb dX0_decoded_81 (by decide) ?_
                  rw [hQ]
                  exact W.iret (v := (-1)) hx hb hr (fun t ht hW => ⟨(-1), rfl, by first | omega | decide, ht⟩) (fun _ h => nomatch h) dX0_decoded_82
                · skip
                  have c_33' : z_6.toInt ≤ 244 := jb_gt_n (rfl) ((by decide)) c_33
                  refine lv_iload hx hb dX0_decoded_73 (lv_at hl 0 rfl) ?_
                  refine lv_iload_n hx hb dX0_decoded_75 rfl (lv_at hl 4 rfl) ?_
                  refine lv_iload_n hx hb dX0_decoded_76 rfl (lv_at hl 3 rfl) ?_
                  refine lv_isub hx hb dX0_decoded_77 ?_
                  refine lv_topi (fun z_34 ez_34 => ?_)
                  have hz_34 : z_34.toInt = a2.toInt - a1.toInt := by rw [ez_34]; exact jb_isub (rfl) (rfl) (by omega) (by omega)
                  refine lv_icmp_lt (tgt := 83) hx hb dX0_decoded_78 (by decide) (fun c_35 => ?_) (fun c_35 => ?_)
                  · skip
                    have c_35' : 2 < z_34.toInt := jb_lt ((by decide)) (rfl) c_35
                    refine lv_iload_n hx hb dX0_decoded_83 rfl (lv_at hl 1 rfl) ?_
                    refine lv_bipush (v := 63) hx hb dX0_decoded_84 (by decide) ?_
                    refine lv_iload hx hb dX0_decoded_86 (lv_at hl 0 rfl) ?_
                    refine lv_ishr hx hb dX0_decoded_88 ?_
                    refine lv_topi (fun z_36 ez_36 => ?_)
                    have hz_36 : z_36.toInt = 63 / 2 ^ 2 := by rw [ez_36]; exact jb_ishr 2 ((by decide)) (by decide)
                    refine lv_iand hx hb dX0_decoded_89 ?_
                    refine lv_topi (fun z_37 ez_37 => ?_)
                    refine lv_istore (lv' := [(5, .int z_37), (4, .int 2), (3, .int z_6), (0, .ref ar), (1, .int a1), (2, .int a2)]) hx hb dX0_decoded_90 hl (by decide) rfl (fun ls hl => ?_)
                    refine lv_iconst (v := 1) hx hb dX0_decoded_92 (by decide) ?_
                    refine lv_istore (lv' := [(6, .int 1), (5, .int z_37), (4, .int 2), (3, .int z_6), (0, .ref ar), (1, .int a1), (2, .int a2)]) hx hb dX0_decoded_93 hl (by decide) rfl (fun ls hl => ?_)
                    have L95 : ∀ (N : Nat) (cv iv : Int32), (1 ≤ iv.toInt ∧ iv.toInt ≤ 4) → (4 - iv.toInt : Int) < N → ∀ ls : Array Slot, lv_has ls 8 [(0, .ref ar), (1, .int a1), (2, .int a2), (4, .int 2), (5, .int cv), (6, .int iv)] → W p l e R s m ([.ref ar, .int a1, .int a2] : List Value).toArray below meth c s.heap [] 0 0 Q (F0 m 95 ls []) := by
                      intro N
                      induction N with
                      | zero => intro cv iv hi hm; exact absurd hm (by omega)
                      | succ N ih =>
                        have L95 := ih
                        intro cv iv hi hm ls hl
                        refine lv_iload hx hb dX0_decoded_95 (lv_at hl 5 rfl) ?_
                        refine lv_iload hx hb dX0_decoded_97 (lv_at hl 3 rfl) ?_
                        refine lv_icmp_gt (tgt := 147) hx hb dX0_decoded_99 (by decide) (fun c_38 => ?_) (fun c_38 => ?_)
                        · skip
                          have c_38' : iv.toInt > 2 := jb_gt (rfl) ((by decide)) c_38
                          refine lv_iload hx hb dX0_decoded_147 (lv_at hl 3 rfl) ?_
                          refine lv_iconst (v := 2) hx hb dX0_decoded_149 (by decide) ?_
                          refine lv_icmp_ne (tgt := 161) hx hb dX0_decoded_150 (by decide) (fun c_39 => ?_) (fun c_39 => ?_)
                          · skip
                            exact absurd c_39 (by decide)
                          · skip
                            refine lv_iload hx hb dX0_decoded_153 (lv_at hl 4 rfl) ?_
                            refine lv_sipush (v := 2048) hx hb dX0_decoded_155 (by decide) ?_
                            refine lv_icmp_lt (tgt := 174) hx hb dX0_decoded_158 (by decide) (fun c_40 => ?_) (fun c_40 => ?_)
                            · skip
                              have c_40' : cv.toInt < 2048 := jb_lt (rfl) ((by decide)) c_40
                              refine lv_iconst (v := 1) hx hb dX0_decoded_174 (by decide) ?_
                              refine lv_goto (tgt := 179) hx hb dX0_decoded_175 (by decide) ?_
                              refine lv_istore (lv' := [(6, .int 1), (0, .ref ar), (1, .int a1), (2, .int a2), (4, .int 2), (5, .int cv)]) hx hb dX0_decoded_179 hl (by decide) rfl (fun ls hl => ?_)
                              refine lv_iload hx hb dX0_decoded_181 (lv_at hl 0 rfl) ?_
                              refine lv_if_ne (tgt := 207) hx hb dX0_decoded_183 (by decide) (fun c_41 => ?_) (fun c_41 => ?_)
                              · skip
                                refine lv_iconst (v := (-1)) hx hb dX0_decoded_207 (by decide) ?_
                                refine lv_goto (tgt := 213) hx hb dX0_decoded_208 (by decide) ?_
                                rw [hQ]
                                exact W.iret (v := (-1)) hx hb hr (fun t ht hW => ⟨(-1), rfl, by first | omega | decide, ht⟩) (fun _ h => nomatch h) dX0_decoded_213
                              · skip
                                exact absurd c_41 (by decide)
                            · skip
                              have c_40' : cv.toInt ≥ 2048 := jb_lt_n (rfl) ((by decide)) c_40
                              refine lv_iload hx hb dX0_decoded_161 (lv_at hl 3 rfl) ?_
                              refine lv_iconst (v := 3) hx hb dX0_decoded_163 (by decide) ?_
                              refine lv_icmp_ne (tgt := 178) hx hb dX0_decoded_164 (by decide) (fun c_42 => ?_) (fun c_42 => ?_)
                              · skip
                                refine lv_iconst (v := 0) hx hb dX0_decoded_178 (by decide) ?_
                                refine lv_istore (lv' := [(6, .int 0), (0, .ref ar), (1, .int a1), (2, .int a2), (4, .int 2), (5, .int cv)]) hx hb dX0_decoded_179 hl (by decide) rfl (fun ls hl => ?_)
                                refine lv_iload hx hb dX0_decoded_181 (lv_at hl 0 rfl) ?_
                                refine lv_if_ne (tgt := 207) hx hb dX0_decoded_183 (by decide) (fun c_43 => ?_) (fun c_43 => ?_)
                                · skip
                                  exact absurd c_43 (by decide)
                                · skip
                                  refine lv_iload hx hb dX0_decoded_186 (lv_at hl 5 rfl) ?_
                                  refine lv_ldc hx hb hown (hts (.constant RX0 74 1114111) (by decide +kernel)) dX0_decoded_188 ?_
                                  refine lv_icmp_gt (tgt := 207) hx hb dX0_decoded_190 (by decide) (fun c_44 => ?_) (fun c_44 => ?_)
                                  · skip
                                    have c_44' : cv.toInt > 1114111 := jb_gt (rfl) ((by decide)) c_44
                                    refine lv_iconst (v := (-1)) hx hb dX0_decoded_207 (by decide) ?_
                                    refine lv_goto (tgt := 213) hx hb dX0_decoded_208 (by decide) ?_
                                    rw [hQ]
                                    exact W.iret (v := (-1)) hx hb hr (fun t ht hW => ⟨(-1), rfl, by first | omega | decide, ht⟩) (fun _ h => nomatch h) dX0_decoded_213
                                  · skip
                                    have c_44' : cv.toInt ≤ 1114111 := jb_gt_n (rfl) ((by decide)) c_44
                                    refine lv_iload hx hb dX0_decoded_193 (lv_at hl 5 rfl) ?_
                                    refine lv_ldc hx hb hown (hts (.constant RX0 61 55296) (by decide +kernel)) dX0_decoded_195 ?_
                                    refine lv_icmp_lt (tgt := 211) hx hb dX0_decoded_197 (by decide) (fun c_45 => ?_) (fun c_45 => ?_)
                                    · skip
                                      have c_45' : cv.toInt < 55296 := jb_lt (rfl) ((by decide)) c_45
                                      refine lv_iload hx hb dX0_decoded_211 (lv_at hl 5 rfl) ?_
                                      rw [hQ]
                                      exact W.iret (v := cv) hx hb hr (fun t ht hW => ⟨cv, rfl, by first | omega | decide, ht⟩) (fun _ h => nomatch h) dX0_decoded_213
                                    · skip
                                      have c_45' : cv.toInt ≥ 55296 := jb_lt_n (rfl) ((by decide)) c_45
                                      refine lv_iload hx hb dX0_decoded_200 (lv_at hl 5 rfl) ?_
                                      refine lv_ldc hx hb hown (hts (.constant RX0 73 57344) (by decide +kernel)) dX0_decoded_202 ?_
                                      refine lv_icmp_ge (tgt := 211) hx hb dX0_decoded_204 (by decide) (fun c_46 => ?_) (fun c_46 => ?_)
                                      · skip
                                        have c_46' : cv.toInt ≥ 57344 := jb_ge (rfl) ((by decide)) c_46
                                        refine lv_iload hx hb dX0_decoded_211 (lv_at hl 5 rfl) ?_
                                        rw [hQ]
                                        exact W.iret (v := cv) hx hb hr (fun t ht hW => ⟨cv, rfl, by first | omega | decide, ht⟩) (fun _ h => nomatch h) dX0_decoded_213
                                      · skip
                                        have c_46' : cv.toInt < 57344 := jb_ge_n (rfl) ((by decide)) c_46
                                        refine lv_iconst (v := (-1)) hx hb dX0_decoded_207 (by decide) ?_
                                        refine lv_goto (tgt := 213) hx hb dX0_decoded_208 (by decide) ?_
                                        rw [hQ]
                                        exact W.iret (v := (-1)) hx hb hr (fun t ht hW => ⟨(-1), rfl, by first | omega | decide, ht⟩) (fun _ h => nomatch h) dX0_decoded_213
                              · skip
                                exact absurd c_42 (by decide)
                        · skip
                          have c_38' : iv.toInt ≤ 2 := jb_gt_n (rfl) ((by decide)) c_38
                          refine lv_aload_n hx hb dX0_decoded_102 rfl (lv_at hl 0 rfl) ?_
                          refine lv_iload_n hx hb dX0_decoded_103 rfl (lv_at hl 1 rfl) ?_
                          refine lv_iload hx hb dX0_decoded_104 (lv_at hl 5 rfl) ?_
                          refine lv_iadd hx hb dX0_decoded_106 ?_
                          refine lv_topi (fun z_47 ez_47 => ?_)
                          have hz_47 : z_47.toInt = a1.toInt + iv.toInt := by rw [ez_47]; exact jb_iadd (rfl) (rfl) (by omega) (by omega)
                          refine va_bald hx hb hK (jp_one hat_ar) 0 0 rfl rfl (jb_in (rfl) (by omega) (by omega)) dX0_decoded_107 ?_
                          refine lv_topi (fun z_48 ez_48 => ?_)
                          refine lv_sipush (v := 255) hx hb dX0_decoded_108 (by decide) ?_
                          refine lv_iand hx hb dX0_decoded_111 ?_
                          refine lv_topi (fun z_49 ez_49 => ?_)
                          have hz_49 : 0 ≤ z_49.toInt ∧ z_49.toInt ≤ 255 := by rw [ez_49]; exact jb_and z_48 (m := 255) (k := 8) (by decide) (by decide)
                          refine lv_istore (lv' := [(7, .int z_49), (0, .ref ar), (1, .int a1), (2, .int a2), (4, .int 2), (5, .int cv), (6, .int iv)]) hx hb dX0_decoded_112 hl (by decide) rfl (fun ls hl => ?_)
                          refine lv_iload hx hb dX0_decoded_114 (lv_at hl 0 rfl) ?_
                          refine lv_sipush (v := 192) hx hb dX0_decoded_116 (by decide) ?_
                          refine lv_iand hx hb dX0_decoded_119 ?_
                          refine lv_topi (fun z_50 ez_50 => ?_)
                          refine lv_sipush (v := 128) hx hb dX0_decoded_120 (by decide) ?_
                          refine lv_icmp_eq (tgt := 128) hx hb dX0_decoded_123 (by decide) (fun c_51 => ?_) (fun c_51 => ?_)
                          · skip
                            have c_51' : z_50.toInt = 128 := jb_eq (rfl) ((by decide)) c_51
                            refine lv_iload hx hb dX0_decoded_128 (lv_at hl 5 rfl) ?_
                            refine lv_bipush (v := 6) hx hb dX0_decoded_130 (by decide) ?_
                            refine lv_ishl hx hb dX0_decoded_132 ?_
                            refine lv_topi (fun z_52 ez_52 => ?_)
                            refine lv_iload hx hb dX0_decoded_133 (lv_at hl 0 rfl) ?_
                            refine lv_bipush (v := 63) hx hb dX0_decoded_135 (by decide) ?_
                            refine lv_iand hx hb dX0_decoded_137 ?_
                            refine lv_topi (fun z_53 ez_53 => ?_)
                            have hz_53 : 0 ≤ z_53.toInt ∧ z_53.toInt ≤ 63 := by rw [ez_53]; exact jb_and z_49 (m := 63) (k := 6) (by decide) (by decide)
                            refine lv_ior hx hb dX0_decoded_138 ?_
                            refine lv_topi (fun z_54 ez_54 => ?_)
                            refine lv_istore (lv' := [(5, .int z_54), (7, .int z_49), (0, .ref ar), (1, .int a1), (2, .int a2), (4, .int 2), (6, .int iv)]) hx hb dX0_decoded_139 hl (by decide) rfl (fun ls hl => ?_)
                            obtain ⟨z_55, ez_55⟩ : ∃ y : Int32, y = iv + 1 := ⟨_, rfl⟩
                            refine lv_iinc (v := z_55) (lv' := [(6, .int z_55), (5, .int z_54), (7, .int z_49), (0, .ref ar), (1, .int a1), (2, .int a2), (4, .int 2)]) hx hb dX0_decoded_141 hl (k := 6) rfl (by rw [ez_55]; rfl) (by decide) rfl (fun ls hl => ?_)
                            have hz_55 : z_55.toInt = iv.toInt + 1 := by rw [ez_55]; exact jb_iadd (rfl) (by decide) (by omega) (by omega)
                            refine lv_goto (tgt := 95) hx hb dX0_decoded_144 (by decide) ?_
                            exact L95 z_54 z_55 (⟨by omega, by omega⟩) (by omega) _ (lv_sub hl [3, 4, 5, 6, 1, 0] rfl)
                          · skip
                            have c_51' : z_50.toInt ≠ 128 := jb_eq_n (rfl) ((by decide)) c_51
                            refine lv_iconst (v := (-1)) hx hb dX0_decoded_126 (by decide) ?_
                            rw [hQ]
                            exact W.iret (v := (-1)) hx hb hr (fun t ht hW => ⟨(-1), rfl, by first | omega | decide, ht⟩) (fun _ h => nomatch h) dX0_decoded_127
                    exact L95 (4 - (1 : Int32).toInt : Int).toNat.succ z_37 1 (⟨by omega, by omega⟩) (by omega) _ (lv_sub hl [4, 5, 6, 2, 1, 0] rfl)
                  · skip
                    have c_35' : 2 ≥ z_34.toInt := jb_lt_n ((by decide)) (rfl) c_35
                    refine lv_iconst (v := (-1)) hx hb dX0_decoded_81 (by decide) ?_
                    rw [hQ]
                    exact W.iret (v := (-1)) hx hb hr (fun t ht hW => ⟨(-1), rfl, by first | omega | decide, ht⟩) (fun _ h => nomatch h) dX0_decoded_82
          · skip
            have c_8' : z_6.toInt ≥ 240 := jb_lt_n (rfl) ((by decide)) c_8
            refine lv_iconst (v := 3) hx hb dX0_decoded_41 (by decide) ?_
            refine lv_goto (tgt := 57) hx hb dX0_decoded_42 (by decide) ?_
            refine lv_istore (lv' := [(4, .int 3), (3, .int z_6), (0, .ref ar), (1, .int a1), (2, .int a2)]) hx hb dX0_decoded_57 hl (by decide) rfl (fun ls hl => ?_)
            refine lv_iload_n hx hb dX0_decoded_59 rfl (lv_at hl 1 rfl) ?_
            refine lv_sipush (v := 194) hx hb dX0_decoded_60 (by decide) ?_
            refine lv_icmp_lt (tgt := 81) hx hb dX0_decoded_63 (by decide) (fun c_56 => ?_) (fun c_56 => ?_)
            · skip
              have c_56' : z_6.toInt < 194 := jb_lt (rfl) ((by decide)) c_56
              refine lv_iconst (v := (-1)) hx hb dX0_decoded_81 (by decide) ?_
              rw [hQ]
              exact W.iret (v := (-1)) hx hb hr (fun t ht hW => ⟨(-1), rfl, by first | omega | decide, ht⟩) (fun _ h => nomatch h) dX0_decoded_82
            · skip
              have c_56' : z_6.toInt ≥ 194 := jb_lt_n (rfl) ((by decide)) c_56
              refine lv_iload_n hx hb dX0_decoded_66 rfl (lv_at hl 1 rfl) ?_
              refine lv_sipush (v := 244) hx hb dX0_decoded_67 (by decide) ?_
              refine lv_icmp_gt (tgt := 81) hx hb dX0_decoded_70 (by decide) (fun c_57 => ?_) (fun c_57 => ?_)
              · skip
                have c_57' : z_6.toInt > 244 := jb_gt (rfl) ((by decide)) c_57
                refine lv_iconst (v := (-1)) hx hb dX0_decoded_81 (by decide) ?_
                rw [hQ]
                exact W.iret (v := (-1)) hx hb hr (fun t ht hW => ⟨(-1), rfl, by first | omega | decide, ht⟩) (fun _ h => nomatch h) dX0_decoded_82
              · skip
                have c_57' : z_6.toInt ≤ 244 := jb_gt_n (rfl) ((by decide)) c_57
                refine lv_iload hx hb dX0_decoded_73 (lv_at hl 0 rfl) ?_
                refine lv_iload_n hx hb dX0_decoded_75 rfl (lv_at hl 4 rfl) ?_
                refine lv_iload_n hx hb dX0_decoded_76 rfl (lv_at hl 3 rfl) ?_
                refine lv_isub hx hb dX0_decoded_77 ?_
                refine lv_topi (fun z_58 ez_58 => ?_)
                have hz_58 : z_58.toInt = a2.toInt - a1.toInt := by rw [ez_58]; exact jb_isub (rfl) (rfl) (by omega) (by omega)
                refine lv_icmp_lt (tgt := 83) hx hb dX0_decoded_78 (by decide) (fun c_59 => ?_) (fun c_59 => ?_)
                · skip
                  have c_59' : 3 < z_58.toInt := jb_lt ((by decide)) (rfl) c_59
                  refine lv_iload_n hx hb dX0_decoded_83 rfl (lv_at hl 1 rfl) ?_
                  refine lv_bipush (v := 63) hx hb dX0_decoded_84 (by decide) ?_
                  refine lv_iload hx hb dX0_decoded_86 (lv_at hl 0 rfl) ?_
                  refine lv_ishr hx hb dX0_decoded_88 ?_
                  refine lv_topi (fun z_60 ez_60 => ?_)
                  have hz_60 : z_60.toInt = 63 / 2 ^ 3 := by rw [ez_60]; exact jb_ishr 3 ((by decide)) (by decide)
                  refine lv_iand hx hb dX0_decoded_89 ?_
                  refine lv_topi (fun z_61 ez_61 => ?_)
                  refine lv_istore (lv' := [(5, .int z_61), (4, .int 3), (3, .int z_6), (0, .ref ar), (1, .int a1), (2, .int a2)]) hx hb dX0_decoded_90 hl (by decide) rfl (fun ls hl => ?_)
                  refine lv_iconst (v := 1) hx hb dX0_decoded_92 (by decide) ?_
                  refine lv_istore (lv' := [(6, .int 1), (5, .int z_61), (4, .int 3), (3, .int z_6), (0, .ref ar), (1, .int a1), (2, .int a2)]) hx hb dX0_decoded_93 hl (by decide) rfl (fun ls hl => ?_)
                  have L95 : ∀ (N : Nat) (cv iv : Int32), (1 ≤ iv.toInt ∧ iv.toInt ≤ 4) → (4 - iv.toInt : Int) < N → ∀ ls : Array Slot, lv_has ls 8 [(0, .ref ar), (1, .int a1), (2, .int a2), (4, .int 3), (5, .int cv), (6, .int iv)] → W p l e R s m ([.ref ar, .int a1, .int a2] : List Value).toArray below meth c s.heap [] 0 0 Q (F0 m 95 ls []) := by
                    intro N
                    induction N with
                    | zero => intro cv iv hi hm; exact absurd hm (by omega)
                    | succ N ih =>
                      have L95 := ih
                      intro cv iv hi hm ls hl
                      refine lv_iload hx hb dX0_decoded_95 (lv_at hl 5 rfl) ?_
                      refine lv_iload hx hb dX0_decoded_97 (lv_at hl 3 rfl) ?_
                      refine lv_icmp_gt (tgt := 147) hx hb dX0_decoded_99 (by decide) (fun c_62 => ?_) (fun c_62 => ?_)
                      · skip
                        have c_62' : iv.toInt > 3 := jb_gt (rfl) ((by decide)) c_62
                        refine lv_iload hx hb dX0_decoded_147 (lv_at hl 3 rfl) ?_
                        refine lv_iconst (v := 2) hx hb dX0_decoded_149 (by decide) ?_
                        refine lv_icmp_ne (tgt := 161) hx hb dX0_decoded_150 (by decide) (fun c_63 => ?_) (fun c_63 => ?_)
                        · skip
                          refine lv_iload hx hb dX0_decoded_161 (lv_at hl 3 rfl) ?_
                          refine lv_iconst (v := 3) hx hb dX0_decoded_163 (by decide) ?_
                          refine lv_icmp_ne (tgt := 178) hx hb dX0_decoded_164 (by decide) (fun c_64 => ?_) (fun c_64 => ?_)
                          · skip
                            exact absurd c_64 (by decide)
                          · skip
                            refine lv_iload hx hb dX0_decoded_167 (lv_at hl 4 rfl) ?_
                            refine lv_ldc hx hb hown (hts (.constant RX0 60 65536) (by decide +kernel)) dX0_decoded_169 ?_
                            refine lv_icmp_ge (tgt := 178) hx hb dX0_decoded_171 (by decide) (fun c_65 => ?_) (fun c_65 => ?_)
                            · skip
                              have c_65' : cv.toInt ≥ 65536 := jb_ge (rfl) ((by decide)) c_65
                              refine lv_iconst (v := 0) hx hb dX0_decoded_178 (by decide) ?_
                              refine lv_istore (lv' := [(6, .int 0), (0, .ref ar), (1, .int a1), (2, .int a2), (4, .int 3), (5, .int cv)]) hx hb dX0_decoded_179 hl (by decide) rfl (fun ls hl => ?_)
                              refine lv_iload hx hb dX0_decoded_181 (lv_at hl 0 rfl) ?_
                              refine lv_if_ne (tgt := 207) hx hb dX0_decoded_183 (by decide) (fun c_66 => ?_) (fun c_66 => ?_)
                              · skip
                                exact absurd c_66 (by decide)
                              · skip
                                refine lv_iload hx hb dX0_decoded_186 (lv_at hl 5 rfl) ?_
                                refine lv_ldc hx hb hown (hts (.constant RX0 74 1114111) (by decide +kernel)) dX0_decoded_188 ?_
                                refine lv_icmp_gt (tgt := 207) hx hb dX0_decoded_190 (by decide) (fun c_67 => ?_) (fun c_67 => ?_)
                                · skip
                                  have c_67' : cv.toInt > 1114111 := jb_gt (rfl) ((by decide)) c_67
                                  refine lv_iconst (v := (-1)) hx hb dX0_decoded_207 (by decide) ?_
                                  refine lv_goto (tgt := 213) hx hb dX0_decoded_208 (by decide) ?_
                                  rw [hQ]
                                  exact W.iret (v := (-1)) hx hb hr (fun t ht hW => ⟨(-1), rfl, by first | omega | decide, ht⟩) (fun _ h => nomatch h) dX0_decoded_213
                                · skip
                                  have c_67' : cv.toInt ≤ 1114111 := jb_gt_n (rfl) ((by decide)) c_67
                                  refine lv_iload hx hb dX0_decoded_193 (lv_at hl 5 rfl) ?_
                                  refine lv_ldc hx hb hown (hts (.constant RX0 61 55296) (by decide +kernel)) dX0_decoded_195 ?_
                                  refine lv_icmp_lt (tgt := 211) hx hb dX0_decoded_197 (by decide) (fun c_68 => ?_) (fun c_68 => ?_)
                                  · skip
                                    have c_68' : cv.toInt < 55296 := jb_lt (rfl) ((by decide)) c_68
                                    refine lv_iload hx hb dX0_decoded_211 (lv_at hl 5 rfl) ?_
                                    rw [hQ]
                                    exact W.iret (v := cv) hx hb hr (fun t ht hW => ⟨cv, rfl, by first | omega | decide, ht⟩) (fun _ h => nomatch h) dX0_decoded_213
                                  · skip
                                    have c_68' : cv.toInt ≥ 55296 := jb_lt_n (rfl) ((by decide)) c_68
                                    refine lv_iload hx hb dX0_decoded_200 (lv_at hl 5 rfl) ?_
                                    refine lv_ldc hx hb hown (hts (.constant RX0 73 57344) (by decide +kernel)) dX0_decoded_202 ?_
                                    refine lv_icmp_ge (tgt := 211) hx hb dX0_decoded_204 (by decide) (fun c_69 => ?_) (fun c_69 => ?_)
                                    · skip
                                      have c_69' : cv.toInt ≥ 57344 := jb_ge (rfl) ((by decide)) c_69
                                      refine lv_iload hx hb dX0_decoded_211 (lv_at hl 5 rfl) ?_
                                      rw [hQ]
                                      exact W.iret (v := cv) hx hb hr (fun t ht hW => ⟨cv, rfl, by first | omega | decide, ht⟩) (fun _ h => nomatch h) dX0_decoded_213
                                    · skip
                                      have c_69' : cv.toInt < 57344 := jb_ge_n (rfl) ((by decide)) c_69
                                      refine lv_iconst (v := (-1)) hx hb dX0_decoded_207 (by decide) ?_
                                      refine lv_goto (tgt := 213) hx hb dX0_decoded_208 (by decide) ?_
                                      rw [hQ]
                                      exact W.iret (v := (-1)) hx hb hr (fun t ht hW => ⟨(-1), rfl, by first | omega | decide, ht⟩) (fun _ h => nomatch h) dX0_decoded_213
                            · skip
                              have c_65' : cv.toInt < 65536 := jb_ge_n (rfl) ((by decide)) c_65
                              refine lv_iconst (v := 1) hx hb dX0_decoded_174 (by decide) ?_
                              refine lv_goto (tgt := 179) hx hb dX0_decoded_175 (by decide) ?_
                              refine lv_istore (lv' := [(6, .int 1), (0, .ref ar), (1, .int a1), (2, .int a2), (4, .int 3), (5, .int cv)]) hx hb dX0_decoded_179 hl (by decide) rfl (fun ls hl => ?_)
                              refine lv_iload hx hb dX0_decoded_181 (lv_at hl 0 rfl) ?_
                              refine lv_if_ne (tgt := 207) hx hb dX0_decoded_183 (by decide) (fun c_70 => ?_) (fun c_70 => ?_)
                              · skip
                                refine lv_iconst (v := (-1)) hx hb dX0_decoded_207 (by decide) ?_
                                refine lv_goto (tgt := 213) hx hb dX0_decoded_208 (by decide) ?_
                                rw [hQ]
                                exact W.iret (v := (-1)) hx hb hr (fun t ht hW => ⟨(-1), rfl, by first | omega | decide, ht⟩) (fun _ h => nomatch h) dX0_decoded_213
                              · skip
                                exact absurd c_70 (by decide)
                        · skip
                          exact absurd c_63 (by decide)
                      · skip
                        have c_62' : iv.toInt ≤ 3 := jb_gt_n (rfl) ((by decide)) c_62
                        refine lv_aload_n hx hb dX0_decoded_102 rfl (lv_at hl 0 rfl) ?_
                        refine lv_iload_n hx hb dX0_decoded_103 rfl (lv_at hl 1 rfl) ?_
                        refine lv_iload hx hb dX0_decoded_104 (lv_at hl 5 rfl) ?_
                        refine lv_iadd hx hb dX0_decoded_106 ?_
                        refine lv_topi (fun z_71 ez_71 => ?_)
                        have hz_71 : z_71.toInt = a1.toInt + iv.toInt := by rw [ez_71]; exact jb_iadd (rfl) (rfl) (by omega) (by omega)
                        refine va_bald hx hb hK (jp_one hat_ar) 0 0 rfl rfl (jb_in (rfl) (by omega) (by omega)) dX0_decoded_107 ?_
                        refine lv_topi (fun z_72 ez_72 => ?_)
                        refine lv_sipush (v := 255) hx hb dX0_decoded_108 (by decide) ?_
                        refine lv_iand hx hb dX0_decoded_111 ?_
                        refine lv_topi (fun z_73 ez_73 => ?_)
                        have hz_73 : 0 ≤ z_73.toInt ∧ z_73.toInt ≤ 255 := by rw [ez_73]; exact jb_and z_72 (m := 255) (k := 8) (by decide) (by decide)
                        refine lv_istore (lv' := [(7, .int z_73), (0, .ref ar), (1, .int a1), (2, .int a2), (4, .int 3), (5, .int cv), (6, .int iv)]) hx hb dX0_decoded_112 hl (by decide) rfl (fun ls hl => ?_)
                        refine lv_iload hx hb dX0_decoded_114 (lv_at hl 0 rfl) ?_
                        refine lv_sipush (v := 192) hx hb dX0_decoded_116 (by decide) ?_
                        refine lv_iand hx hb dX0_decoded_119 ?_
                        refine lv_topi (fun z_74 ez_74 => ?_)
                        refine lv_sipush (v := 128) hx hb dX0_decoded_120 (by decide) ?_
                        refine lv_icmp_eq (tgt := 128) hx hb dX0_decoded_123 (by decide) (fun c_75 => ?_) (fun c_75 => ?_)
                        · skip
                          have c_75' : z_74.toInt = 128 := jb_eq (rfl) ((by decide)) c_75
                          refine lv_iload hx hb dX0_decoded_128 (lv_at hl 5 rfl) ?_
                          refine lv_bipush (v := 6) hx hb dX0_decoded_130 (by decide) ?_
                          refine lv_ishl hx hb dX0_decoded_132 ?_
                          refine lv_topi (fun z_76 ez_76 => ?_)
                          refine lv_iload hx hb dX0_decoded_133 (lv_at hl 0 rfl) ?_
                          refine lv_bipush (v := 63) hx hb dX0_decoded_135 (by decide) ?_
                          refine lv_iand hx hb dX0_decoded_137 ?_
                          refine lv_topi (fun z_77 ez_77 => ?_)
                          have hz_77 : 0 ≤ z_77.toInt ∧ z_77.toInt ≤ 63 := by rw [ez_77]; exact jb_and z_73 (m := 63) (k := 6) (by decide) (by decide)
                          refine lv_ior hx hb dX0_decoded_138 ?_
                          refine lv_topi (fun z_78 ez_78 => ?_)
                          refine lv_istore (lv' := [(5, .int z_78), (7, .int z_73), (0, .ref ar), (1, .int a1), (2, .int a2), (4, .int 3), (6, .int iv)]) hx hb dX0_decoded_139 hl (by decide) rfl (fun ls hl => ?_)
                          obtain ⟨z_79, ez_79⟩ : ∃ y : Int32, y = iv + 1 := ⟨_, rfl⟩
                          refine lv_iinc (v := z_79) (lv' := [(6, .int z_79), (5, .int z_78), (7, .int z_73), (0, .ref ar), (1, .int a1), (2, .int a2), (4, .int 3)]) hx hb dX0_decoded_141 hl (k := 6) rfl (by rw [ez_79]; rfl) (by decide) rfl (fun ls hl => ?_)
                          have hz_79 : z_79.toInt = iv.toInt + 1 := by rw [ez_79]; exact jb_iadd (rfl) (by decide) (by omega) (by omega)
                          refine lv_goto (tgt := 95) hx hb dX0_decoded_144 (by decide) ?_
                          exact L95 z_78 z_79 (⟨by omega, by omega⟩) (by omega) _ (lv_sub hl [3, 4, 5, 6, 1, 0] rfl)
                        · skip
                          have c_75' : z_74.toInt ≠ 128 := jb_eq_n (rfl) ((by decide)) c_75
                          refine lv_iconst (v := (-1)) hx hb dX0_decoded_126 (by decide) ?_
                          rw [hQ]
                          exact W.iret (v := (-1)) hx hb hr (fun t ht hW => ⟨(-1), rfl, by first | omega | decide, ht⟩) (fun _ h => nomatch h) dX0_decoded_127
                  exact L95 (4 - (1 : Int32).toInt : Int).toNat.succ z_61 1 (⟨by omega, by omega⟩) (by omega) _ (lv_sub hl [4, 5, 6, 2, 1, 0] rfl)
                · skip
                  have c_59' : 3 ≥ z_58.toInt := jb_lt_n ((by decide)) (rfl) c_59
                  refine lv_iconst (v := (-1)) hx hb dX0_decoded_81 (by decide) ?_
                  rw [hQ]
                  exact W.iret (v := (-1)) hx hb hr (fun t ht hW => ⟨(-1), rfl, by first | omega | decide, ht⟩) (fun _ h => nomatch h) dX0_decoded_82
        · skip
          have c_7' : z_6.toInt < 128 := jb_ge_n (rfl) ((by decide)) c_7
          refine lv_iload_n hx hb dX0_decoded_32 rfl (lv_at hl 0 rfl) ?_
          rw [hQ]
          exact W.iret (v := z_6) hx hb hr (fun t ht hW => ⟨z_6, rfl, by first | omega | decide, ht⟩) (fun _ h => nomatch h) dX0_decoded_33
      · skip
        have c_4' : a2.toInt > z_3.toInt := jb_le_n (rfl) (rfl) c_4
        refine lv_iconst (v := (-1)) hx hb dX0_decoded_15 (by decide) ?_
        rw [hQ]
        exact W.iret (v := (-1)) hx hb hr (fun t ht hW => ⟨(-1), rfl, by first | omega | decide, ht⟩) (fun _ h => nomatch h) dX0_decoded_16
