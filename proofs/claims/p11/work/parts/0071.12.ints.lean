section
theorem dX11_isBlank_0 : decode cX11_isBlank 0 = .ok (.iload_n 0, 1) := by decide +kernel
theorem dX11_isBlank_1 : decode cX11_isBlank 1 = .ok (.bipush 32, 2) := by decide +kernel
theorem dX11_isBlank_3 : decode cX11_isBlank 3 = .ok (.if_icmp .eq 21, 3) := by decide +kernel
theorem dX11_isBlank_6 : decode cX11_isBlank 6 = .ok (.iload_n 0, 1) := by decide +kernel
theorem dX11_isBlank_7 : decode cX11_isBlank 7 = .ok (.bipush 9, 2) := by decide +kernel
theorem dX11_isBlank_9 : decode cX11_isBlank 9 = .ok (.if_icmp .eq 15, 3) := by decide +kernel
theorem dX11_isBlank_12 : decode cX11_isBlank 12 = .ok (.iload_n 0, 1) := by decide +kernel
theorem dX11_isBlank_13 : decode cX11_isBlank 13 = .ok (.bipush 10, 2) := by decide +kernel
theorem dX11_isBlank_15 : decode cX11_isBlank 15 = .ok (.if_icmp .eq 9, 3) := by decide +kernel
theorem dX11_isBlank_18 : decode cX11_isBlank 18 = .ok (.iload_n 0, 1) := by decide +kernel
theorem dX11_isBlank_19 : decode cX11_isBlank 19 = .ok (.bipush 13, 2) := by decide +kernel
theorem dX11_isBlank_21 : decode cX11_isBlank 21 = .ok (.if_icmp .ne 7, 3) := by decide +kernel
theorem dX11_isBlank_24 : decode cX11_isBlank 24 = .ok (.iconst 1, 1) := by decide +kernel
theorem dX11_isBlank_25 : decode cX11_isBlank 25 = .ok (.goto 4, 3) := by decide +kernel
theorem dX11_isBlank_28 : decode cX11_isBlank 28 = .ok (.iconst 0, 1) := by decide +kernel
theorem dX11_isBlank_29 : decode cX11_isBlank 29 = .ok (.ireturn, 1) := by decide +kernel
theorem dX11_isDigit_0 : decode cX11_isDigit 0 = .ok (.iload_n 0, 1) := by decide +kernel
theorem dX11_isDigit_1 : decode cX11_isDigit 1 = .ok (.bipush 48, 2) := by decide +kernel
theorem dX11_isDigit_3 : decode cX11_isDigit 3 = .ok (.if_icmp .lt 13, 3) := by decide +kernel
theorem dX11_isDigit_6 : decode cX11_isDigit 6 = .ok (.iload_n 0, 1) := by decide +kernel
theorem dX11_isDigit_7 : decode cX11_isDigit 7 = .ok (.bipush 57, 2) := by decide +kernel
theorem dX11_isDigit_9 : decode cX11_isDigit 9 = .ok (.if_icmp .gt 7, 3) := by decide +kernel
theorem dX11_isDigit_12 : decode cX11_isDigit 12 = .ok (.iconst 1, 1) := by decide +kernel
theorem dX11_isDigit_13 : decode cX11_isDigit 13 = .ok (.goto 4, 3) := by decide +kernel
theorem dX11_isDigit_16 : decode cX11_isDigit 16 = .ok (.iconst 0, 1) := by decide +kernel
theorem dX11_isDigit_17 : decode cX11_isDigit 17 = .ok (.ireturn, 1) := by decide +kernel
end
section
theorem jWr_22 : ∀ w ∈ wsL_law_r22, w ∈ jWl := fun w h => jT22 w (List.mem_append_left _ h)
theorem jWr_36 : ∀ w ∈ wsL_law_r36, w ∈ jWl := fun w h => jT36 w (List.mem_append_left _ h)
theorem jWc_wsX100 : ∀ w ∈ wsX100, w ∈ jWl := fun w h => (List.mem_append_left _ (List.mem_append_left _ (List.mem_append_left _ (List.mem_append_left _ (List.mem_append_left _ (List.mem_append_left _ (List.mem_append_left _ (List.mem_append_right _ h))))))))
end
section
set_option maxHeartbeats 4000000 in
set_option maxRecDepth 20000 in
theorem wX11_isBlank (l : Launch) (dC : Nat → ClassId) (dI : Nat → Nat → Nat) (ca : Nat → ClassId) (base : Nat) (H0 : Heap) (a0 : Int32) : Met l yX11_isBlank (jw yX11_isBlank cX11_isBlank 1 (some .boolean)) ({ frames := 0, cells := 0, slots := 0, locals := 0 }) (va_Pc [.int a0] (fun U => U.heap = H0 ∧ jG dC dI ca base U ∧ (True))) (vp_Si (fun r => r = 0 ∨ r = 1)) 0 0 (fun _ => False) := by
  refine Met.ofW (cc := cX11_isBlank) (maxL := 1) (ret := (some .boolean)) (by decide) rfl ?_
  intro p e s m args below meth c s₁ B hml hv
  obtain ⟨rfl, hH0, hG, hpre⟩ := hv
  have hK := hG.1
  have hx := B.exec
  have hb := B.bytes
  have hr := B.returns
  have hts := atoms_spec (ws := (jw yX11_isBlank cX11_isBlank 1 (some .boolean))) B.pre
  have htw : ∀ w ∈ jWl, w.before _ s = true := fun w h => hts w (List.mem_cons_of_mem _ h)
  have hown : s.vm.findClass RX11 = some m.cls := findClass_of_methodNamed B.named
  have hlocks := B.notSynchronized
  obtain ⟨Q, hQ⟩ : ∃ Q, Q = MQ below (vp_Si (fun r => r = 0 ∨ r = 1)) ([.int a0] : List Value).toArray s 0 0 (fun _ => False) := ⟨_, rfl⟩
  rw [← hQ]
  have hl := lv_entry ([.int a0]) (n := 1) (Nat.le_of_ble_eq_true rfl)
  rw [lg_entry_eq]
  generalize (lg_sl ([.int a0]) ++ List.replicate (1 - (lg_sl ([.int a0])).length) Slot.unset).toArray = ls at hl ⊢
  have hl : lv_has ls 1 [(0, .int a0)] := hl
  generalize hR : (headSpec (jw yX11_isBlank cX11_isBlank 1 (some .boolean)) ({ frames := 0, cells := 0, slots := 0, locals := 0 })).room = R
  subst hH0
  have hS : va_S (jA base) s.heap s.heap [] := va_S.rf
  have hk0 : (0 : Int32).toInt = 0 := by decide
  have hk1 : (1 : Int32).toInt = 1 := by decide
  have hk9 : (9 : Int32).toInt = 9 := by decide
  have hk10 : (10 : Int32).toInt = 10 := by decide
  have hk13 : (13 : Int32).toInt = 13 := by decide
  have hk32 : (32 : Int32).toInt = 32 := by decide
  refine lv_iload_n hx hb dX11_isBlank_0 rfl (lv_at hl 0 rfl) ?_
  refine lv_bipush (v := 32) hx hb dX11_isBlank_1 (by decide) ?_
  refine lv_icmp_eq (tgt := 24) hx hb dX11_isBlank_3 (by decide) (fun c_1 => ?_) (fun c_1 => ?_)
  · skip
    have c_1' : a0.toInt = 32 := jb_eq (rfl) ((by decide)) c_1
    refine lv_iconst (v := 1) hx hb dX11_isBlank_24 (by decide) ?_
    refine lv_goto (tgt := 29) hx hb dX11_isBlank_25 (by decide) ?_
    rw [hQ]
    exact W.zret (v := 1) hx hb hr (jb_nz (Or.inr rfl)) (fun t ht hW => ⟨1, rfl, by first | exact Or.inl rfl | exact Or.inr rfl | assumption, ht⟩) (fun _ h => nomatch h) dX11_isBlank_29
  · skip
    have c_1' : a0.toInt ≠ 32 := jb_eq_n (rfl) ((by decide)) c_1
    refine lv_iload_n hx hb dX11_isBlank_6 rfl (lv_at hl 0 rfl) ?_
    refine lv_bipush (v := 9) hx hb dX11_isBlank_7 (by decide) ?_
    refine lv_icmp_eq (tgt := 24) hx hb dX11_isBlank_9 (by decide) (fun c_2 => ?_) (fun c_2 => ?_)
    · skip
      have c_2' : a0.toInt = 9 := jb_eq (rfl) ((by decide)) c_2
      refine lv_iconst (v := 1) hx hb dX11_isBlank_24 (by decide) ?_
      refine lv_goto (tgt := 29) hx hb dX11_isBlank_25 (by decide) ?_
      rw [hQ]
      exact W.zret (v := 1) hx hb hr (jb_nz (Or.inr rfl)) (fun t ht hW => ⟨1, rfl, by first | exact Or.inl rfl | exact Or.inr rfl | assumption, ht⟩) (fun _ h => nomatch h) dX11_isBlank_29
    · skip
      have c_2' : a0.toInt ≠ 9 := jb_eq_n (rfl) ((by decide)) c_2
      refine lv_iload_n hx hb dX11_isBlank_12 rfl (lv_at hl 0 rfl) ?_
      refine lv_bipush (v := 10) hx hb dX11_isBlank_13 (by decide) ?_
      refine lv_icmp_eq (tgt := 24) hx hb dX11_isBlank_15 (by decide) (fun c_3 => ?_) (fun c_3 => ?_)
      · skip
        have c_3' : a0.toInt = 10 := jb_eq (rfl) ((by decide)) c_3
        refine lv_iconst (v := 1) hx hb dX11_isBlank_24 (by decide) ?_
        refine lv_goto (tgt := 29) hx hb dX11_isBlank_25 (by decide) ?_
        rw [hQ]
        exact W.zret (v := 1) hx hb hr (jb_nz (Or.inr rfl)) (fun t ht hW => ⟨1, rfl, by first | exact Or.inl rfl | exact Or.inr rfl | assumption, ht⟩) (fun _ h => nomatch h) dX11_isBlank_29
      · skip
        have c_3' : a0.toInt ≠ 10 := jb_eq_n (rfl) ((by decide)) c_3
        refine lv_iload_n hx hb dX11_isBlank_18 rfl (lv_at hl 0 rfl) ?_
        refine lv_bipush (v := 13) hx hb dX11_isBlank_19 (by decide) ?_
        refine lv_icmp_ne (tgt := 28) hx hb dX11_isBlank_21 (by decide) (fun c_4 => ?_) (fun c_4 => ?_)
        · skip
          have c_4' : a0.toInt ≠ 13 := jb_ne (rfl) ((by decide)) c_4
          refine lv_iconst (v := 0) hx hb dX11_isBlank_28 (by decide) ?_
          rw [hQ]
          exact W.zret (v := 0) hx hb hr (jb_nz (Or.inl rfl)) (fun t ht hW => ⟨0, rfl, by first | exact Or.inl rfl | exact Or.inr rfl | assumption, ht⟩) (fun _ h => nomatch h) dX11_isBlank_29
        · skip
          have c_4' : a0.toInt = 13 := jb_ne_n (rfl) ((by decide)) c_4
          refine lv_iconst (v := 1) hx hb dX11_isBlank_24 (by decide) ?_
          refine lv_goto (tgt := 29) hx hb dX11_isBlank_25 (by decide) ?_
          rw [hQ]
          exact W.zret (v := 1) hx hb hr (jb_nz (Or.inr rfl)) (fun t ht hW => ⟨1, rfl, by first | exact Or.inl rfl | exact Or.inr rfl | assumption, ht⟩) (fun _ h => nomatch h) dX11_isBlank_29
end
section
theorem dX10_scan_0 : decode cX10_scan 0 = .ok (.aload_n 0, 1) := by decide +kernel
theorem dX10_scan_1 : decode cX10_scan 1 = .ok (.iconst 0, 1) := by decide +kernel
theorem dX10_scan_2 : decode cX10_scan 2 = .ok (.putfield 28, 3) := by decide +kernel
theorem dX10_scan_5 : decode cX10_scan 5 = .ok (.iload_n 3, 1) := by decide +kernel
theorem dX10_scan_6 : decode cX10_scan 6 = .ok (.aload_n 1, 1) := by decide +kernel
theorem dX10_scan_7 : decode cX10_scan 7 = .ok (.arraylength, 1) := by decide +kernel
theorem dX10_scan_8 : decode cX10_scan 8 = .ok (.invokestatic 32, 3) := by decide +kernel
theorem dX10_scan_11 : decode cX10_scan 11 = .ok (.istore 4, 2) := by decide +kernel
theorem dX10_scan_13 : decode cX10_scan 13 = .ok (.iload_n 2, 1) := by decide +kernel
theorem dX10_scan_14 : decode cX10_scan 14 = .ok (.iconst 0, 1) := by decide +kernel
theorem dX10_scan_15 : decode cX10_scan 15 = .ok (.invokestatic 38, 3) := by decide +kernel
theorem dX10_scan_18 : decode cX10_scan 18 = .ok (.istore 5, 2) := by decide +kernel
theorem dX10_scan_20 : decode cX10_scan 20 = .ok (.iload 5, 2) := by decide +kernel
theorem dX10_scan_22 : decode cX10_scan 22 = .ok (.iload 4, 2) := by decide +kernel
theorem dX10_scan_24 : decode cX10_scan 24 = .ok (.if_icmp .ge 216, 3) := by decide +kernel
theorem dX10_scan_27 : decode cX10_scan 27 = .ok (.iload 5, 2) := by decide +kernel
theorem dX10_scan_29 : decode cX10_scan 29 = .ok (.iconst 1, 1) := by decide +kernel
theorem dX10_scan_30 : decode cX10_scan 30 = .ok (.iadd, 1) := by decide +kernel
theorem dX10_scan_31 : decode cX10_scan 31 = .ok (.istore 6, 2) := by decide +kernel
theorem dX10_scan_33 : decode cX10_scan 33 = .ok (.aload_n 1, 1) := by decide +kernel
theorem dX10_scan_34 : decode cX10_scan 34 = .ok (.iload 5, 2) := by decide +kernel
theorem dX10_scan_36 : decode cX10_scan 36 = .ok (.iload 4, 2) := by decide +kernel
theorem dX10_scan_38 : decode cX10_scan 38 = .ok (.invokestatic 41, 3) := by decide +kernel
theorem dX10_scan_41 : decode cX10_scan 41 = .ok (.ifCond .eq 16, 3) := by decide +kernel
theorem dX10_scan_44 : decode cX10_scan 44 = .ok (.aload_n 1, 1) := by decide +kernel
theorem dX10_scan_45 : decode cX10_scan 45 = .ok (.iload 5, 2) := by decide +kernel
theorem dX10_scan_47 : decode cX10_scan 47 = .ok (.iload 4, 2) := by decide +kernel
theorem dX10_scan_49 : decode cX10_scan 49 = .ok (.invokestatic 45, 3) := by decide +kernel
theorem dX10_scan_52 : decode cX10_scan 52 = .ok (.istore 6, 2) := by decide +kernel
theorem dX10_scan_54 : decode cX10_scan 54 = .ok (.goto 172, 3) := by decide +kernel
theorem dX10_scan_57 : decode cX10_scan 57 = .ok (.aload_n 1, 1) := by decide +kernel
theorem dX10_scan_58 : decode cX10_scan 58 = .ok (.iload 5, 2) := by decide +kernel
theorem dX10_scan_60 : decode cX10_scan 60 = .ok (.iaload, 1) := by decide +kernel
theorem dX10_scan_61 : decode cX10_scan 61 = .ok (.invokestatic 49, 3) := by decide +kernel
theorem dX10_scan_64 : decode cX10_scan 64 = .ok (.ifCond .eq 17, 3) := by decide +kernel
theorem dX10_scan_67 : decode cX10_scan 67 = .ok (.aload_n 0, 1) := by decide +kernel
theorem dX10_scan_68 : decode cX10_scan 68 = .ok (.aload_n 1, 1) := by decide +kernel
theorem dX10_scan_69 : decode cX10_scan 69 = .ok (.iload 5, 2) := by decide +kernel
theorem dX10_scan_71 : decode cX10_scan 71 = .ok (.iload 4, 2) := by decide +kernel
theorem dX10_scan_73 : decode cX10_scan 73 = .ok (.invokevirtual 53, 3) := by decide +kernel
theorem dX10_scan_76 : decode cX10_scan 76 = .ok (.istore 6, 2) := by decide +kernel
theorem dX10_scan_78 : decode cX10_scan 78 = .ok (.goto 148, 3) := by decide +kernel
theorem dX10_scan_81 : decode cX10_scan 81 = .ok (.aload_n 1, 1) := by decide +kernel
theorem dX10_scan_82 : decode cX10_scan 82 = .ok (.iload 5, 2) := by decide +kernel
theorem dX10_scan_84 : decode cX10_scan 84 = .ok (.iaload, 1) := by decide +kernel
theorem dX10_scan_85 : decode cX10_scan 85 = .ok (.bipush 45, 2) := by decide +kernel
theorem dX10_scan_87 : decode cX10_scan 87 = .ok (.if_icmp .ne 39, 3) := by decide +kernel
theorem dX10_scan_90 : decode cX10_scan 90 = .ok (.iload 5, 2) := by decide +kernel
theorem dX10_scan_92 : decode cX10_scan 92 = .ok (.iconst 1, 1) := by decide +kernel
theorem dX10_scan_93 : decode cX10_scan 93 = .ok (.iadd, 1) := by decide +kernel
theorem dX10_scan_94 : decode cX10_scan 94 = .ok (.iload 4, 2) := by decide +kernel
theorem dX10_scan_96 : decode cX10_scan 96 = .ok (.if_icmp .ge 30, 3) := by decide +kernel
theorem dX10_scan_99 : decode cX10_scan 99 = .ok (.aload_n 1, 1) := by decide +kernel
theorem dX10_scan_100 : decode cX10_scan 100 = .ok (.iload 5, 2) := by decide +kernel
theorem dX10_scan_102 : decode cX10_scan 102 = .ok (.iconst 1, 1) := by decide +kernel
theorem dX10_scan_103 : decode cX10_scan 103 = .ok (.iadd, 1) := by decide +kernel
theorem dX10_scan_104 : decode cX10_scan 104 = .ok (.iaload, 1) := by decide +kernel
theorem dX10_scan_105 : decode cX10_scan 105 = .ok (.bipush 62, 2) := by decide +kernel
theorem dX10_scan_107 : decode cX10_scan 107 = .ok (.if_icmp .ne 19, 3) := by decide +kernel
theorem dX10_scan_110 : decode cX10_scan 110 = .ok (.aload_n 0, 1) := by decide +kernel
theorem dX10_scan_111 : decode cX10_scan 111 = .ok (.bipush 62, 2) := by decide +kernel
theorem dX10_scan_113 : decode cX10_scan 113 = .ok (.iconst 0, 1) := by decide +kernel
theorem dX10_scan_114 : decode cX10_scan 114 = .ok (.invokevirtual 56, 3) := by decide +kernel
theorem dX10_scan_117 : decode cX10_scan 117 = .ok (.iload 5, 2) := by decide +kernel
theorem dX10_scan_119 : decode cX10_scan 119 = .ok (.iconst 2, 1) := by decide +kernel
theorem dX10_scan_120 : decode cX10_scan 120 = .ok (.iadd, 1) := by decide +kernel
theorem dX10_scan_121 : decode cX10_scan 121 = .ok (.istore 6, 2) := by decide +kernel
theorem dX10_scan_123 : decode cX10_scan 123 = .ok (.goto 103, 3) := by decide +kernel
theorem dX10_scan_126 : decode cX10_scan 126 = .ok (.aload_n 1, 1) := by decide +kernel
theorem dX10_scan_127 : decode cX10_scan 127 = .ok (.iload 5, 2) := by decide +kernel
theorem dX10_scan_129 : decode cX10_scan 129 = .ok (.iaload, 1) := by decide +kernel
theorem dX10_scan_130 : decode cX10_scan 130 = .ok (.invokestatic 60, 3) := by decide +kernel
theorem dX10_scan_133 : decode cX10_scan 133 = .ok (.ifCond .eq 19, 3) := by decide +kernel
theorem dX10_scan_136 : decode cX10_scan 136 = .ok (.aload_n 0, 1) := by decide +kernel
theorem dX10_scan_137 : decode cX10_scan 137 = .ok (.bipush 100, 2) := by decide +kernel
theorem dX10_scan_139 : decode cX10_scan 139 = .ok (.aload_n 1, 1) := by decide +kernel
theorem dX10_scan_140 : decode cX10_scan 140 = .ok (.iload 5, 2) := by decide +kernel
theorem dX10_scan_142 : decode cX10_scan 142 = .ok (.iaload, 1) := by decide +kernel
theorem dX10_scan_143 : decode cX10_scan 143 = .ok (.bipush 48, 2) := by decide +kernel
theorem dX10_scan_145 : decode cX10_scan 145 = .ok (.isub, 1) := by decide +kernel
theorem dX10_scan_146 : decode cX10_scan 146 = .ok (.invokevirtual 56, 3) := by decide +kernel
theorem dX10_scan_149 : decode cX10_scan 149 = .ok (.goto 77, 3) := by decide +kernel
theorem dX10_scan_152 : decode cX10_scan 152 = .ok (.aload_n 1, 1) := by decide +kernel
theorem dX10_scan_153 : decode cX10_scan 153 = .ok (.iload 5, 2) := by decide +kernel
theorem dX10_scan_155 : decode cX10_scan 155 = .ok (.iaload, 1) := by decide +kernel
theorem dX10_scan_156 : decode cX10_scan 156 = .ok (.invokestatic 63, 3) := by decide +kernel
theorem dX10_scan_159 : decode cX10_scan 159 = .ok (.ifCond .ne 67, 3) := by decide +kernel
theorem dX10_scan_162 : decode cX10_scan 162 = .ok (.aload_n 1, 1) := by decide +kernel
theorem dX10_scan_163 : decode cX10_scan 163 = .ok (.iload 5, 2) := by decide +kernel
theorem dX10_scan_165 : decode cX10_scan 165 = .ok (.iaload, 1) := by decide +kernel
theorem dX10_scan_166 : decode cX10_scan 166 = .ok (.bipush 46, 2) := by decide +kernel
theorem dX10_scan_168 : decode cX10_scan 168 = .ok (.if_icmp .ne 10, 3) := by decide +kernel
theorem dX10_scan_171 : decode cX10_scan 171 = .ok (.iload 6, 2) := by decide +kernel
theorem dX10_scan_173 : decode cX10_scan 173 = .ok (.iload 4, 2) := by decide +kernel
theorem dX10_scan_175 : decode cX10_scan 175 = .ok (.if_icmp .eq 26, 3) := by decide +kernel
theorem dX10_scan_178 : decode cX10_scan 178 = .ok (.aload_n 1, 1) := by decide +kernel
theorem dX10_scan_179 : decode cX10_scan 179 = .ok (.iload 5, 2) := by decide +kernel
theorem dX10_scan_181 : decode cX10_scan 181 = .ok (.iaload, 1) := by decide +kernel
theorem dX10_scan_182 : decode cX10_scan 182 = .ok (.sipush 128, 3) := by decide +kernel
theorem dX10_scan_185 : decode cX10_scan 185 = .ok (.if_icmp .ge 20, 3) := by decide +kernel
theorem dX10_scan_188 : decode cX10_scan 188 = .ok (.ldc 66, 2) := by decide +kernel
theorem dX10_scan_190 : decode cX10_scan 190 = .ok (.aload_n 1, 1) := by decide +kernel
theorem dX10_scan_191 : decode cX10_scan 191 = .ok (.iload 5, 2) := by decide +kernel
theorem dX10_scan_193 : decode cX10_scan 193 = .ok (.iaload, 1) := by decide +kernel
theorem dX10_scan_194 : decode cX10_scan 194 = .ok (.i2c, 1) := by decide +kernel
theorem dX10_scan_195 : decode cX10_scan 195 = .ok (.invokevirtual 68, 3) := by decide +kernel
theorem dX10_scan_198 : decode cX10_scan 198 = .ok (.ifCond .lt 7, 3) := by decide +kernel
theorem dX10_scan_201 : decode cX10_scan 201 = .ok (.iconst 1, 1) := by decide +kernel
theorem dX10_scan_202 : decode cX10_scan 202 = .ok (.goto 4, 3) := by decide +kernel
theorem dX10_scan_205 : decode cX10_scan 205 = .ok (.iconst 0, 1) := by decide +kernel
theorem dX10_scan_206 : decode cX10_scan 206 = .ok (.istore 7, 2) := by decide +kernel
theorem dX10_scan_208 : decode cX10_scan 208 = .ok (.aload_n 0, 1) := by decide +kernel
theorem dX10_scan_209 : decode cX10_scan 209 = .ok (.iload 7, 2) := by decide +kernel
theorem dX10_scan_211 : decode cX10_scan 211 = .ok (.ifCond .eq 10, 3) := by decide +kernel
theorem dX10_scan_214 : decode cX10_scan 214 = .ok (.aload_n 1, 1) := by decide +kernel
theorem dX10_scan_215 : decode cX10_scan 215 = .ok (.iload 5, 2) := by decide +kernel
theorem dX10_scan_217 : decode cX10_scan 217 = .ok (.iaload, 1) := by decide +kernel
theorem dX10_scan_218 : decode cX10_scan 218 = .ok (.goto 4, 3) := by decide +kernel
theorem dX10_scan_221 : decode cX10_scan 221 = .ok (.iconst 0, 1) := by decide +kernel
theorem dX10_scan_222 : decode cX10_scan 222 = .ok (.iconst 0, 1) := by decide +kernel
theorem dX10_scan_223 : decode cX10_scan 223 = .ok (.invokevirtual 56, 3) := by decide +kernel
theorem dX10_scan_226 : decode cX10_scan 226 = .ok (.iload 5, 2) := by decide +kernel
theorem dX10_scan_228 : decode cX10_scan 228 = .ok (.iconst 1, 1) := by decide +kernel
theorem dX10_scan_229 : decode cX10_scan 229 = .ok (.iadd, 1) := by decide +kernel
theorem dX10_scan_230 : decode cX10_scan 230 = .ok (.iload 6, 2) := by decide +kernel
theorem dX10_scan_232 : decode cX10_scan 232 = .ok (.invokestatic 38, 3) := by decide +kernel
theorem dX10_scan_235 : decode cX10_scan 235 = .ok (.istore 5, 2) := by decide +kernel
theorem dX10_scan_237 : decode cX10_scan 237 = .ok (.goto (-217), 3) := by decide +kernel
theorem dX10_scan_240 : decode cX10_scan 240 = .ok (.aload_n 0, 1) := by decide +kernel
theorem dX10_scan_241 : decode cX10_scan 241 = .ok (.getfield 28, 3) := by decide +kernel
theorem dX10_scan_244 : decode cX10_scan 244 = .ok (.ireturn, 1) := by decide +kernel
theorem dX10_scanName_0 : decode cX10_scanName 0 = .ok (.iload_n 2, 1) := by decide +kernel
theorem dX10_scanName_1 : decode cX10_scanName 1 = .ok (.iconst 1, 1) := by decide +kernel
theorem dX10_scanName_2 : decode cX10_scanName 2 = .ok (.iadd, 1) := by decide +kernel
theorem dX10_scanName_3 : decode cX10_scanName 3 = .ok (.istore 4, 2) := by decide +kernel
theorem dX10_scanName_5 : decode cX10_scanName 5 = .ok (.iload 4, 2) := by decide +kernel
theorem dX10_scanName_7 : decode cX10_scanName 7 = .ok (.iload_n 3, 1) := by decide +kernel
theorem dX10_scanName_8 : decode cX10_scanName 8 = .ok (.if_icmp .ge 19, 3) := by decide +kernel
theorem dX10_scanName_11 : decode cX10_scanName 11 = .ok (.aload_n 1, 1) := by decide +kernel
theorem dX10_scanName_12 : decode cX10_scanName 12 = .ok (.iload 4, 2) := by decide +kernel
theorem dX10_scanName_14 : decode cX10_scanName 14 = .ok (.iaload, 1) := by decide +kernel
theorem dX10_scanName_15 : decode cX10_scanName 15 = .ok (.invokestatic 74, 3) := by decide +kernel
theorem dX10_scanName_18 : decode cX10_scanName 18 = .ok (.ifCond .lt 9, 3) := by decide +kernel
theorem dX10_scanName_21 : decode cX10_scanName 21 = .ok (.iinc 4 1, 3) := by decide +kernel
theorem dX10_scanName_24 : decode cX10_scanName 24 = .ok (.goto (-19), 3) := by decide +kernel
theorem dX10_scanName_27 : decode cX10_scanName 27 = .ok (.iload 4, 2) := by decide +kernel
theorem dX10_scanName_29 : decode cX10_scanName 29 = .ok (.iload_n 2, 1) := by decide +kernel
theorem dX10_scanName_30 : decode cX10_scanName 30 = .ok (.isub, 1) := by decide +kernel
theorem dX10_scanName_31 : decode cX10_scanName 31 = .ok (.bipush 10, 2) := by decide +kernel
theorem dX10_scanName_33 : decode cX10_scanName 33 = .ok (.if_icmp .gt 37, 3) := by decide +kernel
theorem dX10_scanName_36 : decode cX10_scanName 36 = .ok (.aload_n 0, 1) := by decide +kernel
theorem dX10_scanName_37 : decode cX10_scanName 37 = .ok (.getfield 24, 3) := by decide +kernel
theorem dX10_scanName_40 : decode cX10_scanName 40 = .ok (.aload_n 1, 1) := by decide +kernel
theorem dX10_scanName_41 : decode cX10_scanName 41 = .ok (.iload_n 2, 1) := by decide +kernel
theorem dX10_scanName_42 : decode cX10_scanName 42 = .ok (.iload 4, 2) := by decide +kernel
theorem dX10_scanName_44 : decode cX10_scanName 44 = .ok (.iconst 1, 1) := by decide +kernel
theorem dX10_scanName_45 : decode cX10_scanName 45 = .ok (.invokevirtual 79, 3) := by decide +kernel
theorem dX10_scanName_48 : decode cX10_scanName 48 = .ok (.istore 5, 2) := by decide +kernel
theorem dX10_scanName_50 : decode cX10_scanName 50 = .ok (.aload_n 0, 1) := by decide +kernel
theorem dX10_scanName_51 : decode cX10_scanName 51 = .ok (.iload 5, 2) := by decide +kernel
theorem dX10_scanName_53 : decode cX10_scanName 53 = .ok (.ifCond .ge 7, 3) := by decide +kernel
theorem dX10_scanName_56 : decode cX10_scanName 56 = .ok (.iconst 0, 1) := by decide +kernel
theorem dX10_scanName_57 : decode cX10_scanName 57 = .ok (.goto 5, 3) := by decide +kernel
theorem dX10_scanName_60 : decode cX10_scanName 60 = .ok (.bipush 110, 2) := by decide +kernel
theorem dX10_scanName_62 : decode cX10_scanName 62 = .ok (.iload 5, 2) := by decide +kernel
theorem dX10_scanName_64 : decode cX10_scanName 64 = .ok (.invokevirtual 56, 3) := by decide +kernel
theorem dX10_scanName_67 : decode cX10_scanName 67 = .ok (.goto 25, 3) := by decide +kernel
theorem dX10_scanName_70 : decode cX10_scanName 70 = .ok (.iload_n 2, 1) := by decide +kernel
theorem dX10_scanName_71 : decode cX10_scanName 71 = .ok (.istore 5, 2) := by decide +kernel
theorem dX10_scanName_73 : decode cX10_scanName 73 = .ok (.iload 5, 2) := by decide +kernel
theorem dX10_scanName_75 : decode cX10_scanName 75 = .ok (.iload 4, 2) := by decide +kernel
theorem dX10_scanName_77 : decode cX10_scanName 77 = .ok (.if_icmp .ge 15, 3) := by decide +kernel
theorem dX10_scanName_80 : decode cX10_scanName 80 = .ok (.aload_n 0, 1) := by decide +kernel
theorem dX10_scanName_81 : decode cX10_scanName 81 = .ok (.iconst 0, 1) := by decide +kernel
theorem dX10_scanName_82 : decode cX10_scanName 82 = .ok (.iconst 0, 1) := by decide +kernel
theorem dX10_scanName_83 : decode cX10_scanName 83 = .ok (.invokevirtual 56, 3) := by decide +kernel
theorem dX10_scanName_86 : decode cX10_scanName 86 = .ok (.iinc 5 1, 3) := by decide +kernel
theorem dX10_scanName_89 : decode cX10_scanName 89 = .ok (.goto (-16), 3) := by decide +kernel
theorem dX10_scanName_92 : decode cX10_scanName 92 = .ok (.iload 4, 2) := by decide +kernel
theorem dX10_scanName_94 : decode cX10_scanName 94 = .ok (.ireturn, 1) := by decide +kernel
theorem dX10_add_0 : decode cX10_add 0 = .ok (.aload_n 0, 1) := by decide +kernel
theorem dX10_add_1 : decode cX10_add 1 = .ok (.getfield 28, 3) := by decide +kernel
theorem dX10_add_4 : decode cX10_add 4 = .ok (.sipush 1500, 3) := by decide +kernel
theorem dX10_add_7 : decode cX10_add 7 = .ok (.if_icmp .ge 33, 3) := by decide +kernel
theorem dX10_add_10 : decode cX10_add 10 = .ok (.aload_n 0, 1) := by decide +kernel
theorem dX10_add_11 : decode cX10_add 11 = .ok (.getfield 9, 3) := by decide +kernel
theorem dX10_add_14 : decode cX10_add 14 = .ok (.aload_n 0, 1) := by decide +kernel
theorem dX10_add_15 : decode cX10_add 15 = .ok (.getfield 28, 3) := by decide +kernel
theorem dX10_add_18 : decode cX10_add 18 = .ok (.iload_n 1, 1) := by decide +kernel
theorem dX10_add_19 : decode cX10_add 19 = .ok (.iastore, 1) := by decide +kernel
theorem dX10_add_20 : decode cX10_add 20 = .ok (.aload_n 0, 1) := by decide +kernel
theorem dX10_add_21 : decode cX10_add 21 = .ok (.getfield 15, 3) := by decide +kernel
theorem dX10_add_24 : decode cX10_add 24 = .ok (.aload_n 0, 1) := by decide +kernel
theorem dX10_add_25 : decode cX10_add 25 = .ok (.getfield 28, 3) := by decide +kernel
theorem dX10_add_28 : decode cX10_add 28 = .ok (.iload_n 2, 1) := by decide +kernel
theorem dX10_add_29 : decode cX10_add 29 = .ok (.iastore, 1) := by decide +kernel
theorem dX10_add_30 : decode cX10_add 30 = .ok (.aload_n 0, 1) := by decide +kernel
theorem dX10_add_31 : decode cX10_add 31 = .ok (.dup, 1) := by decide +kernel
theorem dX10_add_32 : decode cX10_add 32 = .ok (.getfield 28, 3) := by decide +kernel
theorem dX10_add_35 : decode cX10_add 35 = .ok (.iconst 1, 1) := by decide +kernel
theorem dX10_add_36 : decode cX10_add 36 = .ok (.iadd, 1) := by decide +kernel
theorem dX10_add_37 : decode cX10_add 37 = .ok (.putfield 28, 3) := by decide +kernel
theorem dX10_add_40 : decode cX10_add 40 = .ok (.return_, 1) := by decide +kernel
theorem dX11_opensComment_0 : decode cX11_opensComment 0 = .ok (.iload_n 1, 1) := by decide +kernel
theorem dX11_opensComment_1 : decode cX11_opensComment 1 = .ok (.ifCond .lt 38, 3) := by decide +kernel
theorem dX11_opensComment_4 : decode cX11_opensComment 4 = .ok (.iload_n 1, 1) := by decide +kernel
theorem dX11_opensComment_5 : decode cX11_opensComment 5 = .ok (.iconst 1, 1) := by decide +kernel
theorem dX11_opensComment_6 : decode cX11_opensComment 6 = .ok (.iadd, 1) := by decide +kernel
theorem dX11_opensComment_7 : decode cX11_opensComment 7 = .ok (.iload_n 2, 1) := by decide +kernel
theorem dX11_opensComment_8 : decode cX11_opensComment 8 = .ok (.if_icmp .ge 31, 3) := by decide +kernel
theorem dX11_opensComment_11 : decode cX11_opensComment 11 = .ok (.iload_n 2, 1) := by decide +kernel
theorem dX11_opensComment_12 : decode cX11_opensComment 12 = .ok (.aload_n 0, 1) := by decide +kernel
theorem dX11_opensComment_13 : decode cX11_opensComment 13 = .ok (.arraylength, 1) := by decide +kernel
theorem dX11_opensComment_14 : decode cX11_opensComment 14 = .ok (.if_icmp .gt 25, 3) := by decide +kernel
theorem dX11_opensComment_17 : decode cX11_opensComment 17 = .ok (.aload_n 0, 1) := by decide +kernel
theorem dX11_opensComment_18 : decode cX11_opensComment 18 = .ok (.iload_n 1, 1) := by decide +kernel
theorem dX11_opensComment_19 : decode cX11_opensComment 19 = .ok (.iaload, 1) := by decide +kernel
theorem dX11_opensComment_20 : decode cX11_opensComment 20 = .ok (.bipush 40, 2) := by decide +kernel
theorem dX11_opensComment_22 : decode cX11_opensComment 22 = .ok (.if_icmp .ne 17, 3) := by decide +kernel
theorem dX11_opensComment_25 : decode cX11_opensComment 25 = .ok (.aload_n 0, 1) := by decide +kernel
theorem dX11_opensComment_26 : decode cX11_opensComment 26 = .ok (.iload_n 1, 1) := by decide +kernel
theorem dX11_opensComment_27 : decode cX11_opensComment 27 = .ok (.iconst 1, 1) := by decide +kernel
theorem dX11_opensComment_28 : decode cX11_opensComment 28 = .ok (.iadd, 1) := by decide +kernel
theorem dX11_opensComment_29 : decode cX11_opensComment 29 = .ok (.iaload, 1) := by decide +kernel
theorem dX11_opensComment_30 : decode cX11_opensComment 30 = .ok (.bipush 42, 2) := by decide +kernel
theorem dX11_opensComment_32 : decode cX11_opensComment 32 = .ok (.if_icmp .ne 7, 3) := by decide +kernel
theorem dX11_opensComment_35 : decode cX11_opensComment 35 = .ok (.iconst 1, 1) := by decide +kernel
theorem dX11_opensComment_36 : decode cX11_opensComment 36 = .ok (.goto 4, 3) := by decide +kernel
theorem dX11_opensComment_39 : decode cX11_opensComment 39 = .ok (.iconst 0, 1) := by decide +kernel
theorem dX11_opensComment_40 : decode cX11_opensComment 40 = .ok (.ireturn, 1) := by decide +kernel
theorem dX11_commentEnd_0 : decode cX11_commentEnd 0 = .ok (.aload_n 0, 1) := by decide +kernel
theorem dX11_commentEnd_1 : decode cX11_commentEnd 1 = .ok (.iload_n 1, 1) := by decide +kernel
theorem dX11_commentEnd_2 : decode cX11_commentEnd 2 = .ok (.iload_n 2, 1) := by decide +kernel
theorem dX11_commentEnd_3 : decode cX11_commentEnd 3 = .ok (.invokestatic 609, 3) := by decide +kernel
theorem dX11_commentEnd_6 : decode cX11_commentEnd 6 = .ok (.ifCond .ne 5, 3) := by decide +kernel
theorem dX11_commentEnd_9 : decode cX11_commentEnd 9 = .ok (.iconst (-1), 1) := by decide +kernel
theorem dX11_commentEnd_10 : decode cX11_commentEnd 10 = .ok (.ireturn, 1) := by decide +kernel
theorem dX11_commentEnd_11 : decode cX11_commentEnd 11 = .ok (.iconst 1, 1) := by decide +kernel
theorem dX11_commentEnd_12 : decode cX11_commentEnd 12 = .ok (.istore_n 3, 1) := by decide +kernel
theorem dX11_commentEnd_13 : decode cX11_commentEnd 13 = .ok (.iload_n 1, 1) := by decide +kernel
theorem dX11_commentEnd_14 : decode cX11_commentEnd 14 = .ok (.iconst 2, 1) := by decide +kernel
theorem dX11_commentEnd_15 : decode cX11_commentEnd 15 = .ok (.iadd, 1) := by decide +kernel
theorem dX11_commentEnd_16 : decode cX11_commentEnd 16 = .ok (.istore 4, 2) := by decide +kernel
theorem dX11_commentEnd_18 : decode cX11_commentEnd 18 = .ok (.iload 4, 2) := by decide +kernel
theorem dX11_commentEnd_20 : decode cX11_commentEnd 20 = .ok (.iconst 1, 1) := by decide +kernel
theorem dX11_commentEnd_21 : decode cX11_commentEnd 21 = .ok (.iadd, 1) := by decide +kernel
theorem dX11_commentEnd_22 : decode cX11_commentEnd 22 = .ok (.iload_n 2, 1) := by decide +kernel
theorem dX11_commentEnd_23 : decode cX11_commentEnd 23 = .ok (.if_icmp .ge 73, 3) := by decide +kernel
theorem dX11_commentEnd_26 : decode cX11_commentEnd 26 = .ok (.aload_n 0, 1) := by decide +kernel
theorem dX11_commentEnd_27 : decode cX11_commentEnd 27 = .ok (.iload 4, 2) := by decide +kernel
theorem dX11_commentEnd_29 : decode cX11_commentEnd 29 = .ok (.iaload, 1) := by decide +kernel
theorem dX11_commentEnd_30 : decode cX11_commentEnd 30 = .ok (.bipush 40, 2) := by decide +kernel
theorem dX11_commentEnd_32 : decode cX11_commentEnd 32 = .ok (.if_icmp .ne 23, 3) := by decide +kernel
theorem dX11_commentEnd_35 : decode cX11_commentEnd 35 = .ok (.aload_n 0, 1) := by decide +kernel
theorem dX11_commentEnd_36 : decode cX11_commentEnd 36 = .ok (.iload 4, 2) := by decide +kernel
theorem dX11_commentEnd_38 : decode cX11_commentEnd 38 = .ok (.iconst 1, 1) := by decide +kernel
theorem dX11_commentEnd_39 : decode cX11_commentEnd 39 = .ok (.iadd, 1) := by decide +kernel
theorem dX11_commentEnd_40 : decode cX11_commentEnd 40 = .ok (.iaload, 1) := by decide +kernel
theorem dX11_commentEnd_41 : decode cX11_commentEnd 41 = .ok (.bipush 42, 2) := by decide +kernel
theorem dX11_commentEnd_43 : decode cX11_commentEnd 43 = .ok (.if_icmp .ne 12, 3) := by decide +kernel
theorem dX11_commentEnd_46 : decode cX11_commentEnd 46 = .ok (.iinc 3 1, 3) := by decide +kernel
theorem dX11_commentEnd_49 : decode cX11_commentEnd 49 = .ok (.iinc 4 1, 3) := by decide +kernel
theorem dX11_commentEnd_52 : decode cX11_commentEnd 52 = .ok (.goto 38, 3) := by decide +kernel
theorem dX11_commentEnd_55 : decode cX11_commentEnd 55 = .ok (.aload_n 0, 1) := by decide +kernel
theorem dX11_commentEnd_56 : decode cX11_commentEnd 56 = .ok (.iload 4, 2) := by decide +kernel
theorem dX11_commentEnd_58 : decode cX11_commentEnd 58 = .ok (.iaload, 1) := by decide +kernel
theorem dX11_commentEnd_59 : decode cX11_commentEnd 59 = .ok (.bipush 42, 2) := by decide +kernel
theorem dX11_commentEnd_61 : decode cX11_commentEnd 61 = .ok (.if_icmp .ne 29, 3) := by decide +kernel
theorem dX11_commentEnd_64 : decode cX11_commentEnd 64 = .ok (.aload_n 0, 1) := by decide +kernel
theorem dX11_commentEnd_65 : decode cX11_commentEnd 65 = .ok (.iload 4, 2) := by decide +kernel
theorem dX11_commentEnd_67 : decode cX11_commentEnd 67 = .ok (.iconst 1, 1) := by decide +kernel
theorem dX11_commentEnd_68 : decode cX11_commentEnd 68 = .ok (.iadd, 1) := by decide +kernel
theorem dX11_commentEnd_69 : decode cX11_commentEnd 69 = .ok (.iaload, 1) := by decide +kernel
theorem dX11_commentEnd_70 : decode cX11_commentEnd 70 = .ok (.bipush 41, 2) := by decide +kernel
theorem dX11_commentEnd_72 : decode cX11_commentEnd 72 = .ok (.if_icmp .ne 18, 3) := by decide +kernel
theorem dX11_commentEnd_75 : decode cX11_commentEnd 75 = .ok (.iinc 3 (-1), 3) := by decide +kernel
theorem dX11_commentEnd_78 : decode cX11_commentEnd 78 = .ok (.iinc 4 1, 3) := by decide +kernel
theorem dX11_commentEnd_81 : decode cX11_commentEnd 81 = .ok (.iload_n 3, 1) := by decide +kernel
theorem dX11_commentEnd_82 : decode cX11_commentEnd 82 = .ok (.ifCond .ne 8, 3) := by decide +kernel
theorem dX11_commentEnd_85 : decode cX11_commentEnd 85 = .ok (.iload 4, 2) := by decide +kernel
theorem dX11_commentEnd_87 : decode cX11_commentEnd 87 = .ok (.iconst 1, 1) := by decide +kernel
theorem dX11_commentEnd_88 : decode cX11_commentEnd 88 = .ok (.iadd, 1) := by decide +kernel
theorem dX11_commentEnd_89 : decode cX11_commentEnd 89 = .ok (.ireturn, 1) := by decide +kernel
theorem dX11_commentEnd_90 : decode cX11_commentEnd 90 = .ok (.iinc 4 1, 3) := by decide +kernel
theorem dX11_commentEnd_93 : decode cX11_commentEnd 93 = .ok (.goto (-75), 3) := by decide +kernel
theorem dX11_commentEnd_96 : decode cX11_commentEnd 96 = .ok (.iconst (-1), 1) := by decide +kernel
theorem dX11_commentEnd_97 : decode cX11_commentEnd 97 = .ok (.ireturn, 1) := by decide +kernel
def EX11_opensComment : List (Nat × Nat) := []
def EX11_commentEnd : List (Nat × Nat) := []
set_option maxHeartbeats 4000000 in
set_option maxRecDepth 20000 in
theorem uX11_opensComment (l : Launch) (dC : Nat → ClassId) (dI : Nat → Nat → Nat) (ca : Nat → ClassId) (base : Nat) (B : jF) (hB : jBok B) (hAp : jAp (dC, dI)) (hB101 : ∀ n G a H, B 101 n G a H ↔ jAr (dC, dI) (ca 1) (fun j z => True) n a H) (G0 : jT) (H0 : Heap) (r0 : Nat) (a1 : Int32) (a2 : Int32) (n0 : Nat) : Met l yX11_opensComment (jw yX11_opensComment cX11_opensComment 3 (some .boolean)) ({ frames := 0, cells := 0, slots := 0, locals := 0 }) (va_Pc [.ref r0, .int a1, .int a2] (fun U => U.heap = H0 ∧ jX B base G0 [] H0 ∧ jG dC dI ca base U ∧ G0 r0 = some (101, n0) ∧ jP (dC, dI) G0 H0 [] ∧ n0 < 1000000 ∧ a1.toInt ≤ 1000000)) (va_Qi (S := Unit) (fun r u => (r = 0 ∨ r = 1) ∧ (r.toInt = 0 ∨ (0 ≤ a1.toInt ∧ a1.toInt + 1 < a2.toInt ∧ a2.toInt ≤ n0))) (fun u t => jRt (dC, dI) B base G0 EX11_opensComment H0 [] t.heap) (jA base)) 0 0 (jA base) := by
  refine Met.ofW (cc := cX11_opensComment) (maxL := 3) (ret := (some .boolean)) (by decide) rfl ?_
  intro p e s m args below meth c s₁ Bd hml hv
  obtain ⟨rfl, hH0, hX, hG, hg_r0, hP0, hp0, hp1⟩ := hv
  have hK := hG.1
  have hx := Bd.exec
  have hb := Bd.bytes
  have hr := Bd.returns
  have hts := atoms_spec (ws := (jw yX11_opensComment cX11_opensComment 3 (some .boolean))) Bd.pre
  have htw : ∀ w ∈ jWl, w.before _ s = true := fun w h => hts w (List.mem_cons_of_mem _ h)
  have hown : s.vm.findClass RX11 = some m.cls := findClass_of_methodNamed Bd.named
  have hlocks := Bd.notSynchronized
  obtain ⟨Q, hQ⟩ : ∃ Q, Q = MQ below (va_Qi (S := Unit) (fun r u => (r = 0 ∨ r = 1) ∧ (r.toInt = 0 ∨ (0 ≤ a1.toInt ∧ a1.toInt + 1 < a2.toInt ∧ a2.toInt ≤ n0))) (fun u t => jRt (dC, dI) B base G0 EX11_opensComment H0 [] t.heap) (jA base)) ([.ref r0, .int a1, .int a2] : List Value).toArray s 0 0 (jA base) := ⟨_, rfl⟩
  rw [← hQ]
  have hl := lv_entry ([.ref r0, .int a1, .int a2]) (n := 3) (Nat.le_of_ble_eq_true rfl)
  rw [lg_entry_eq]
  generalize (lg_sl ([.ref r0, .int a1, .int a2]) ++ List.replicate (3 - (lg_sl ([.ref r0, .int a1, .int a2])).length) Slot.unset).toArray = ls at hl ⊢
  have hl : lv_has ls 3 [(0, .ref r0), (1, .int a1), (2, .int a2)] := hl
  generalize hR : (headSpec (jw yX11_opensComment cX11_opensComment 3 (some .boolean)) ({ frames := 0, cells := 0, slots := 0, locals := 0 })).room = R
  subst hH0
  have hh : jSt (dC, dI) B base G0 G0 EX11_opensComment s.heap 0 0 [] [] [] s.heap [] := jSt.start hX hP0 jMc.nil jIs.nil
  clear hX hP0
  have hk0 : (0 : Int32).toInt = 0 := by decide
  have hk1 : (1 : Int32).toInt = 1 := by decide
  have hk40 : (40 : Int32).toInt = 40 := by decide
  have hk42 : (42 : Int32).toInt = 42 := by decide
  have hrg_a1 := jb_rng a1
  have hrg_a2 := jb_rng a2
  refine lv_iload_n hx hb dX11_opensComment_0 rfl (lv_at hl 1 rfl) ?_
  refine lv_if_lt (tgt := 39) hx hb dX11_opensComment_1 (by decide) (fun c_1 => ?_) (fun c_1 => ?_)
  · skip
    have c_1' : a1.toInt < 0 := jb_lt (rfl) ((by decide)) c_1
    refine lv_iconst (v := 0) hx hb dX11_opensComment_39 (by decide) ?_
    rw [hQ]
    exact W.zret (v := 0) hx hb hr (jb_nz (Or.inl rfl)) (fun t ht hW => ⟨⟨0, (), rfl, ⟨(Or.inl rfl), by first | omega | rfl | assumption | decide | exact Or.inl rfl | exact Or.inr rfl | (simp only; omega)⟩, hh.rt (M1 := []) [] rfl ht⟩, by rw [ht]; try exact hh.1.1, fun q h9 hq => by rw [ht]; try exact hh.1.2.1 q h9 hq⟩) hh.1.2.2 dX11_opensComment_40
  · skip
    have c_1' : a1.toInt ≥ 0 := jb_lt_n (rfl) ((by decide)) c_1
    refine lv_iload_n hx hb dX11_opensComment_4 rfl (lv_at hl 1 rfl) ?_
    refine lv_iconst (v := 1) hx hb dX11_opensComment_5 (by decide) ?_
    refine lv_iadd hx hb dX11_opensComment_6 ?_
    refine lv_topi (fun z_2 ez_2 => ?_)
    have hz_2 : z_2.toInt = a1.toInt + 1 := by rw [ez_2]; exact jb_iadd2 (rfl) ((by decide)) (by omega)
    refine lv_iload_n hx hb dX11_opensComment_7 rfl (lv_at hl 2 rfl) ?_
    refine lv_icmp_ge (tgt := 39) hx hb dX11_opensComment_8 (by decide) (fun c_3 => ?_) (fun c_3 => ?_)
    · skip
      have c_3' : z_2.toInt ≥ a2.toInt := jb_ge (rfl) (rfl) c_3
      refine lv_iconst (v := 0) hx hb dX11_opensComment_39 (by decide) ?_
      rw [hQ]
      exact W.zret (v := 0) hx hb hr (jb_nz (Or.inl rfl)) (fun t ht hW => ⟨⟨0, (), rfl, ⟨(Or.inl rfl), by first | omega | rfl | assumption | decide | exact Or.inl rfl | exact Or.inr rfl | (simp only; omega)⟩, hh.rt (M1 := []) [] rfl ht⟩, by rw [ht]; try exact hh.1.1, fun q h9 hq => by rw [ht]; try exact hh.1.2.1 q h9 hq⟩) hh.1.2.2 dX11_opensComment_40
    · skip
      have c_3' : z_2.toInt < a2.toInt := jb_ge_n (rfl) (rfl) c_3
      refine lv_iload_n hx hb dX11_opensComment_11 rfl (lv_at hl 2 rfl) ?_
      refine lv_aload_n hx hb dX11_opensComment_12 rfl (lv_at hl 0 rfl) ?_
      refine j7_len hx hb hK hh hB101 1 rfl (by decide) hg_r0 (by omega) dX11_opensComment_13 (fun z_4 hz_4 => ?_)
      refine lv_icmp_gt (tgt := 39) hx hb dX11_opensComment_14 (by decide) (fun c_5 => ?_) (fun c_5 => ?_)
      · skip
        have c_5' : a2.toInt > z_4.toInt := jb_gt (rfl) (rfl) c_5
        refine lv_iconst (v := 0) hx hb dX11_opensComment_39 (by decide) ?_
        rw [hQ]
        exact W.zret (v := 0) hx hb hr (jb_nz (Or.inl rfl)) (fun t ht hW => ⟨⟨0, (), rfl, ⟨(Or.inl rfl), by first | omega | rfl | assumption | decide | exact Or.inl rfl | exact Or.inr rfl | (simp only; omega)⟩, hh.rt (M1 := []) [] rfl ht⟩, by rw [ht]; try exact hh.1.1, fun q h9 hq => by rw [ht]; try exact hh.1.2.1 q h9 hq⟩) hh.1.2.2 dX11_opensComment_40
      · skip
        have c_5' : a2.toInt ≤ z_4.toInt := jb_gt_n (rfl) (rfl) c_5
        refine lv_aload_n hx hb dX11_opensComment_17 rfl (lv_at hl 0 rfl) ?_
        refine lv_iload_n hx hb dX11_opensComment_18 rfl (lv_at hl 1 rfl) ?_
        refine j7_iald hx hb hK hh hB101 1 rfl (by decide) hg_r0 (x := a1.toInt) (rfl) (by omega) dX11_opensComment_19 (fun z_6 (hz_6 : True) => ?_)
        refine lv_bipush (v := 40) hx hb dX11_opensComment_20 (by decide) ?_
        refine lv_icmp_ne (tgt := 39) hx hb dX11_opensComment_22 (by decide) (fun c_7 => ?_) (fun c_7 => ?_)
        · skip
          have c_7' : z_6.toInt ≠ 40 := jb_ne (rfl) ((by decide)) c_7
          refine lv_iconst (v := 0) hx hb dX11_opensComment_39 (by decide) ?_
          rw [hQ]
          exact W.zret (v := 0) hx hb hr (jb_nz (Or.inl rfl)) (fun t ht hW => ⟨⟨0, (), rfl, ⟨(Or.inl rfl), by first | omega | rfl | assumption | decide | exact Or.inl rfl | exact Or.inr rfl | (simp only; omega)⟩, hh.rt (M1 := []) [] rfl ht⟩, by rw [ht]; try exact hh.1.1, fun q h9 hq => by rw [ht]; try exact hh.1.2.1 q h9 hq⟩) hh.1.2.2 dX11_opensComment_40
        · skip
          have c_7' : z_6.toInt = 40 := jb_ne_n (rfl) ((by decide)) c_7
          refine lv_aload_n hx hb dX11_opensComment_25 rfl (lv_at hl 0 rfl) ?_
          refine lv_iload_n hx hb dX11_opensComment_26 rfl (lv_at hl 1 rfl) ?_
          refine lv_iconst (v := 1) hx hb dX11_opensComment_27 (by decide) ?_
          refine lv_iadd hx hb dX11_opensComment_28 ?_
          refine lv_topi (fun z_8 ez_8 => ?_)
          have hz_8 : z_8.toInt = a1.toInt + 1 := by rw [ez_8]; exact jb_iadd2 (rfl) ((by decide)) (by omega)
          refine j7_iald hx hb hK hh hB101 1 rfl (by decide) hg_r0 (x := z_8.toInt) (rfl) (by omega) dX11_opensComment_29 (fun z_9 (hz_9 : True) => ?_)
          refine lv_bipush (v := 42) hx hb dX11_opensComment_30 (by decide) ?_
          refine lv_icmp_ne (tgt := 39) hx hb dX11_opensComment_32 (by decide) (fun c_10 => ?_) (fun c_10 => ?_)
          · skip
            have c_10' : z_9.toInt ≠ 42 := jb_ne (rfl) ((by decide)) c_10
            refine lv_iconst (v := 0) hx hb dX11_opensComment_39 (by decide) ?_
            rw [hQ]
            exact W.zret (v := 0) hx hb hr (jb_nz (Or.inl rfl)) (fun t ht hW => ⟨⟨0, (), rfl, ⟨(Or.inl rfl), by first | omega | rfl | assumption | decide | exact Or.inl rfl | exact Or.inr rfl | (simp only; omega)⟩, hh.rt (M1 := []) [] rfl ht⟩, by rw [ht]; try exact hh.1.1, fun q h9 hq => by rw [ht]; try exact hh.1.2.1 q h9 hq⟩) hh.1.2.2 dX11_opensComment_40
          · skip
            have c_10' : z_9.toInt = 42 := jb_ne_n (rfl) ((by decide)) c_10
            refine lv_iconst (v := 1) hx hb dX11_opensComment_35 (by decide) ?_
            refine lv_goto (tgt := 40) hx hb dX11_opensComment_36 (by decide) ?_
            rw [hQ]
            exact W.zret (v := 1) hx hb hr (jb_nz (Or.inr rfl)) (fun t ht hW => ⟨⟨1, (), rfl, ⟨(Or.inr rfl), by first | omega | rfl | assumption | decide | exact Or.inl rfl | exact Or.inr rfl | (simp only; omega)⟩, hh.rt (M1 := []) [] rfl ht⟩, by rw [ht]; try exact hh.1.1, fun q h9 hq => by rw [ht]; try exact hh.1.2.1 q h9 hq⟩) hh.1.2.2 dX11_opensComment_40
set_option maxHeartbeats 4000000 in
set_option maxRecDepth 20000 in
theorem uX11_commentEnd (l : Launch) (dC : Nat → ClassId) (dI : Nat → Nat → Nat) (ca : Nat → ClassId) (base : Nat) (B : jF) (hB : jBok B) (hAp : jAp (dC, dI)) (hB101 : ∀ n G a H, B 101 n G a H ↔ jAr (dC, dI) (ca 1) (fun j z => True) n a H) (G0 : jT) (H0 : Heap) (r0 : Nat) (a1 : Int32) (a2 : Int32) (n0 : Nat) : Met l yX11_commentEnd (jw yX11_commentEnd cX11_commentEnd 5 (some .int)) ({ frames := 1, cells := 0, slots := 0, locals := 22 }) (va_Pc [.ref r0, .int a1, .int a2] (fun U => U.heap = H0 ∧ jX B base G0 [] H0 ∧ jG dC dI ca base U ∧ G0 r0 = some (101, n0) ∧ jP (dC, dI) G0 H0 [] ∧ n0 < 1000000 ∧ a1.toInt ≤ 1000000)) (va_Qi (S := Unit) (fun r u => (r.toInt = -1 ∨ (a1.toInt + 4 ≤ r.toInt ∧ r.toInt ≤ a2.toInt))) (fun u t => jRt (dC, dI) B base G0 EX11_commentEnd H0 [] t.heap) (jA base)) 0 0 (jA base) := by
  refine Met.ofW (cc := cX11_commentEnd) (maxL := 5) (ret := (some .int)) (by decide) rfl ?_
  intro p e s m args below meth c s₁ Bd hml hv
  obtain ⟨rfl, hH0, hX, hG, hg_r0, hP0, hp0, hp1⟩ := hv
  have hK := hG.1
  have hx := Bd.exec
  have hb := Bd.bytes
  have hr := Bd.returns
  have hts := atoms_spec (ws := (jw yX11_commentEnd cX11_commentEnd 5 (some .int))) Bd.pre
  have htw : ∀ w ∈ jWl, w.before _ s = true := fun w h => hts w (List.mem_cons_of_mem _ h)
  have hown : s.vm.findClass RX11 = some m.cls := findClass_of_methodNamed Bd.named
  have hlocks := Bd.notSynchronized
  obtain ⟨Q, hQ⟩ : ∃ Q, Q = MQ below (va_Qi (S := Unit) (fun r u => (r.toInt = -1 ∨ (a1.toInt + 4 ≤ r.toInt ∧ r.toInt ≤ a2.toInt))) (fun u t => jRt (dC, dI) B base G0 EX11_commentEnd H0 [] t.heap) (jA base)) ([.ref r0, .int a1, .int a2] : List Value).toArray s 0 0 (jA base) := ⟨_, rfl⟩
  rw [← hQ]
  have hl := lv_entry ([.ref r0, .int a1, .int a2]) (n := 5) (Nat.le_of_ble_eq_true rfl)
  rw [lg_entry_eq]
  generalize (lg_sl ([.ref r0, .int a1, .int a2]) ++ List.replicate (5 - (lg_sl ([.ref r0, .int a1, .int a2])).length) Slot.unset).toArray = ls at hl ⊢
  have hl : lv_has ls 5 [(0, .ref r0), (1, .int a1), (2, .int a2)] := hl
  generalize hR : (headSpec (jw yX11_commentEnd cX11_commentEnd 5 (some .int)) ({ frames := 1, cells := 0, slots := 0, locals := 22 })).room = R
  subst hH0
  have hh : jSt (dC, dI) B base G0 G0 EX11_commentEnd s.heap 0 0 [] [] [] s.heap [] := jSt.start hX hP0 jMc.nil jIs.nil
  clear hX hP0
  have hkm1 : ((-1) : Int32).toInt = (-1) := by decide
  have hk0 : (0 : Int32).toInt = 0 := by decide
  have hk1 : (1 : Int32).toInt = 1 := by decide
  have hk2 : (2 : Int32).toInt = 2 := by decide
  have hk40 : (40 : Int32).toInt = 40 := by decide
  have hk41 : (41 : Int32).toInt = 41 := by decide
  have hk42 : (42 : Int32).toInt = 42 := by decide
  have hrg_a1 := jb_rng a1
  have hrg_a2 := jb_rng a2
  refine lv_aload_n hx hb dX11_commentEnd_0 rfl (lv_at hl 0 rfl) ?_
  refine lv_iload_n hx hb dX11_commentEnd_1 rfl (lv_at hl 1 rfl) ?_
  refine lv_iload_n hx hb dX11_commentEnd_2 rfl (lv_at hl 2 rfl) ?_
  refine va_calli (A0 := jA base) (H0 := s.heap) (va_runS (As := [.ref r0, .int a1, .int a2]) (rest := []) ⟨hx, hb, hml, hown, hts⟩ (uX11_opensComment l dC dI ca base B hB hAp hB101 G0 s.heap r0 a1 a2 n0) (va_cwS 3 hts (jgS (jWr_36 _ (List.mem_of_getElem? (i := 12) rfl)) (jWr_36 _ (List.mem_of_getElem? (i := 13) rfl)) (jWr_1 _ (List.mem_of_getElem? (i := 2) rfl)) (jWr_36 _ (List.mem_of_getElem? (i := 14) rfl))) rfl rfl rfl (by decide +kernel) ⟨by rw [← hR]; exact Nat.le_of_ble_eq_true rfl, by rw [← hR]; exact Nat.le_of_ble_eq_true rfl⟩) ⟨fun a U g mk q => by obtain ⟨q0, q1, q2, qK, q10, q11, q12⟩ := q; exact ⟨q0, q1, q2, jG.calling g mk a qK, q10, q11, q12⟩, fun U hU hW => ⟨rfl, hU, hh.2.1, hG.step hW hU hh.1, hg_r0, jP.nil, by first | omega | (refine ⟨?_, ?_⟩ <;> (first | omega | rfl | assumption | decide | exact Or.inl rfl | exact Or.inr rfl | (simp only; omega)))⟩⟩ rfl rfl hl.1 rfl (lv_room (Nat.le_of_ble_eq_true rfl)) dX11_commentEnd_3 ⟨Nat.zero_le _, Nat.zero_le _⟩) hh.1 (fun q _ h => h) (fun q h => h) (fun r_2 u_1 t_1 H_1 locs_1 ht_1 hvm_1 hr_2 hb_1 hz_1 hk_1 hS_1 => ?_)
  rw [ht_1] at hb_1
  obtain ⟨hb_11, hb_12, hb_13, hb_14, hb_15⟩ := hb_1
  have hh_1 : jSt (dC, dI) B base G0 G0 EX11_commentEnd s.heap 0 0 [] [] [] H_1 locs_1 := ((hh.call hb_11 hb_12 hb_13 hb_14 hS_1 rfl (L1 := []) [] rfl rfl (M1 := []) [] rfl rfl (I1 := []) [] rfl rfl).more hb_15)
  clear hh ht_1 hvm_1 hz_1 hk_1 hS_1 hb_11 hb_12 hb_13 hb_14 hb_15
  obtain ⟨hr_2b, hr_2p⟩ := hr_2
  have hr_2' := jb_01 hr_2b
  refine lv_if_ne (tgt := 11) hx hb dX11_commentEnd_6 (by decide) (fun c_3 => ?_) (fun c_3 => ?_)
  · skip
    have c_3' : r_2.toInt ≠ 0 := jb_ne (rfl) ((by decide)) c_3
    first | (have hr_2pq := hr_2p.resolve_left (by omega); clear hr_2p) | (have hr_2pq := hr_2p.resolve_right (by omega); clear hr_2p) | try clear hr_2p
    refine lv_iconst (v := 1) hx hb dX11_commentEnd_11 (by decide) ?_
    refine lv_istore_n (lv' := [(3, .int 1), (0, .ref r0), (1, .int a1), (2, .int a2)]) hx hb dX11_commentEnd_12 rfl hl (by decide) rfl (fun ls hl => ?_)
    refine lv_iload_n hx hb dX11_commentEnd_13 rfl (lv_at hl 2 rfl) ?_
    refine lv_iconst (v := 2) hx hb dX11_commentEnd_14 (by decide) ?_
    refine lv_iadd hx hb dX11_commentEnd_15 ?_
    refine lv_topi (fun z_4 ez_4 => ?_)
    have hz_4 : z_4.toInt = a1.toInt + 2 := by rw [ez_4]; exact jb_iadd2 (rfl) ((by decide)) (by omega)
    refine lv_istore (lv' := [(4, .int z_4), (3, .int 1), (0, .ref r0), (1, .int a1), (2, .int a2)]) hx hb dX11_commentEnd_16 hl (by decide) rfl (fun ls hl => ?_)
    have L18 : ∀ (N : Nat) (v3_5 : Int32) (v4_5 : Int32) (H_5 : Heap) (locs_5 : List Loc), jSt (dC, dI) B base G0 G0 EX11_commentEnd s.heap 0 0 [] [] [] H_5 locs_5 → (a1.toInt + 2 ≤ v4_5.toInt ∧ v4_5.toInt ≤ a2.toInt + 2 ∧ 1 ≤ v3_5.toInt ∧ v3_5.toInt ≤ v4_5.toInt) → (((a2.toInt - v4_5.toInt).toNat : Int) : Int) < N → ∀ ls : Array Slot, lv_has ls 5 [(0, .ref r0), (1, .int a1), (2, .int a2), (3, .int v3_5), (4, .int v4_5)] → W p l e R s m ([.ref r0, .int a1, .int a2] : List Value).toArray below meth c H_5 locs_5 0 0 Q (F0 m 18 ls []) := by
      intro N
      induction N with
      | zero => intro v3_5 v4_5 H_5 locs_5 hh_5  hi_5 hm; exact absurd hm (by omega)
      | succ N L18 =>
        intro v3_5 v4_5 H_5 locs_5 hh_5  hi_5 hm_5 ls hl
        obtain ⟨hi_5_0, hi_5_1, hi_5_2, hi_5_3⟩ := hi_5
        refine lv_iload hx hb dX11_commentEnd_18 (lv_at hl 4 rfl) ?_
        refine lv_iconst (v := 1) hx hb dX11_commentEnd_20 (by decide) ?_
        refine lv_iadd hx hb dX11_commentEnd_21 ?_
        refine lv_topi (fun z_6 ez_6 => ?_)
        have hz_6 : z_6.toInt = v4_5.toInt + 1 := by rw [ez_6]; exact jb_iadd2 (rfl) ((by decide)) (by omega)
        refine lv_iload_n hx hb dX11_commentEnd_22 rfl (lv_at hl 2 rfl) ?_
        refine lv_icmp_ge (tgt := 96) hx hb dX11_commentEnd_23 (by decide) (fun c_7 => ?_) (fun c_7 => ?_)
        · skip
          have c_7' : z_6.toInt ≥ a2.toInt := jb_ge (rfl) (rfl) c_7
          refine lv_iconst (v := (-1)) hx hb dX11_commentEnd_96 (by decide) ?_
          rw [hQ]
          exact W.iret (v := (-1)) hx hb hr (fun t ht hW => ⟨⟨(-1), (), rfl, by first | omega | rfl | assumption | decide | exact Or.inl rfl | exact Or.inr rfl | (simp only; omega), hh_5.rt (M1 := []) [] rfl ht⟩, by rw [ht]; try exact hh_5.1.1, fun q h9 hq => by rw [ht]; try exact hh_5.1.2.1 q h9 hq⟩) hh_5.1.2.2 dX11_commentEnd_97
        · skip
          have c_7' : z_6.toInt < a2.toInt := jb_ge_n (rfl) (rfl) c_7
          refine lv_aload_n hx hb dX11_commentEnd_26 rfl (lv_at hl 0 rfl) ?_
          refine lv_iload hx hb dX11_commentEnd_27 (lv_at hl 4 rfl) ?_
          refine j7_iald hx hb hK hh_5 hB101 1 rfl (by decide) hg_r0 (x := v4_5.toInt) (rfl) (by omega) dX11_commentEnd_29 (fun z_8 (hz_8 : True) => ?_)
          refine lv_bipush (v := 40) hx hb dX11_commentEnd_30 (by decide) ?_
          refine lv_icmp_ne (tgt := 55) hx hb dX11_commentEnd_32 (by decide) (fun c_9 => ?_) (fun c_9 => ?_)
          · skip
            have c_9' : z_8.toInt ≠ 40 := jb_ne (rfl) ((by decide)) c_9
            refine lv_aload_n hx hb dX11_commentEnd_55 rfl (lv_at hl 0 rfl) ?_
            refine lv_iload hx hb dX11_commentEnd_56 (lv_at hl 4 rfl) ?_
            refine j7_iald hx hb hK hh_5 hB101 1 rfl (by decide) hg_r0 (x := v4_5.toInt) (rfl) (by omega) dX11_commentEnd_58 (fun z_10 (hz_10 : True) => ?_)
            refine lv_bipush (v := 42) hx hb dX11_commentEnd_59 (by decide) ?_
            refine lv_icmp_ne (tgt := 90) hx hb dX11_commentEnd_61 (by decide) (fun c_11 => ?_) (fun c_11 => ?_)
            · skip
              have c_11' : z_10.toInt ≠ 42 := jb_ne (rfl) ((by decide)) c_11
              obtain ⟨z_12, ez_12⟩ : ∃ y : Int32, y = v4_5 + 1 := ⟨_, rfl⟩
              refine lv_iinc (v := z_12) (lv' := [(4, .int z_12), (0, .ref r0), (1, .int a1), (2, .int a2), (3, .int v3_5)]) hx hb dX11_commentEnd_90 hl (k := 4) rfl (by rw [ez_12]; rfl) (by decide) rfl (fun ls hl => ?_)
              have hz_12 : z_12.toInt = v4_5.toInt + 1 := by rw [ez_12]; exact jb_iadd2 (rfl) (by decide) (by omega)
              refine lv_goto (tgt := 18) hx hb dX11_commentEnd_93 (by decide) ?_
              exact L18 v3_5 z_12 _ _ hh_5 (by first | omega | (refine ⟨?_, ?_, ?_, ?_⟩ <;> (first | omega | rfl | assumption | decide | exact Or.inl rfl | exact Or.inr rfl | (simp only; omega)))) (by omega) _ (lv_sub hl [1, 2, 3, 4, 0] rfl)
            · skip
              have c_11' : z_10.toInt = 42 := jb_ne_n (rfl) ((by decide)) c_11
              refine lv_aload_n hx hb dX11_commentEnd_64 rfl (lv_at hl 0 rfl) ?_
              refine lv_iload hx hb dX11_commentEnd_65 (lv_at hl 4 rfl) ?_
              refine lv_iconst (v := 1) hx hb dX11_commentEnd_67 (by decide) ?_
              refine lv_iadd hx hb dX11_commentEnd_68 ?_
              refine lv_topi (fun z_13 ez_13 => ?_)
              have hz_13 : z_13.toInt = v4_5.toInt + 1 := by rw [ez_13]; exact jb_iadd2 (rfl) ((by decide)) (by omega)
              refine j7_iald hx hb hK hh_5 hB101 1 rfl (by decide) hg_r0 (x := z_13.toInt) (rfl) (by omega) dX11_commentEnd_69 (fun z_14 (hz_14 : True) => ?_)
              refine lv_bipush (v := 41) hx hb dX11_commentEnd_70 (by decide) ?_
              refine lv_icmp_ne (tgt := 90) hx hb dX11_commentEnd_72 (by decide) (fun c_15 => ?_) (fun c_15 => ?_)
              · skip
                have c_15' : z_14.toInt ≠ 41 := jb_ne (rfl) ((by decide)) c_15
                obtain ⟨z_16, ez_16⟩ : ∃ y : Int32, y = v4_5 + 1 := ⟨_, rfl⟩
                refine lv_iinc (v := z_16) (lv' := [(4, .int z_16), (0, .ref r0), (1, .int a1), (2, .int a2), (3, .int v3_5)]) hx hb dX11_commentEnd_90 hl (k := 4) rfl (by rw [ez_16]; rfl) (by decide) rfl (fun ls hl => ?_)
                have hz_16 : z_16.toInt = v4_5.toInt + 1 := by rw [ez_16]; exact jb_iadd2 (rfl) (by decide) (by omega)
                refine lv_goto (tgt := 18) hx hb dX11_commentEnd_93 (by decide) ?_
                exact L18 v3_5 z_16 _ _ hh_5 (by first | omega | (refine ⟨?_, ?_, ?_, ?_⟩ <;> (first | omega | rfl | assumption | decide | exact Or.inl rfl | exact Or.inr rfl | (simp only; omega)))) (by omega) _ (lv_sub hl [1, 2, 3, 4, 0] rfl)
              · skip
                have c_15' : z_14.toInt = 41 := jb_ne_n (rfl) ((by decide)) c_15
                obtain ⟨z_17, ez_17⟩ : ∃ y : Int32, y = v3_5 + (-1) := ⟨_, rfl⟩
                refine lv_iinc (v := z_17) (lv' := [(3, .int z_17), (0, .ref r0), (1, .int a1), (2, .int a2), (4, .int v4_5)]) hx hb dX11_commentEnd_75 hl (k := 3) rfl (by rw [ez_17]; rfl) (by decide) rfl (fun ls hl => ?_)
                have hz_17 : z_17.toInt = v3_5.toInt + (-1) := by rw [ez_17]; exact jb_iadd2 (rfl) (by decide) (by omega)
                obtain ⟨z_18, ez_18⟩ : ∃ y : Int32, y = v4_5 + 1 := ⟨_, rfl⟩
                refine lv_iinc (v := z_18) (lv' := [(4, .int z_18), (3, .int z_17), (0, .ref r0), (1, .int a1), (2, .int a2)]) hx hb dX11_commentEnd_78 hl (k := 4) rfl (by rw [ez_18]; rfl) (by decide) rfl (fun ls hl => ?_)
                have hz_18 : z_18.toInt = v4_5.toInt + 1 := by rw [ez_18]; exact jb_iadd2 (rfl) (by decide) (by omega)
                refine lv_iload_n hx hb dX11_commentEnd_81 rfl (lv_at hl 1 rfl) ?_
                refine lv_if_ne (tgt := 90) hx hb dX11_commentEnd_82 (by decide) (fun c_19 => ?_) (fun c_19 => ?_)
                · skip
                  have c_19' : z_17.toInt ≠ 0 := jb_ne (rfl) ((by decide)) c_19
                  obtain ⟨z_20, ez_20⟩ : ∃ y : Int32, y = z_18 + 1 := ⟨_, rfl⟩
                  refine lv_iinc (v := z_20) (lv' := [(4, .int z_20), (3, .int z_17), (0, .ref r0), (1, .int a1), (2, .int a2)]) hx hb dX11_commentEnd_90 hl (k := 0) rfl (by rw [ez_20]; rfl) (by decide) rfl (fun ls hl => ?_)
                  have hz_20 : z_20.toInt = z_18.toInt + 1 := by rw [ez_20]; exact jb_iadd2 (rfl) (by decide) (by omega)
                  refine lv_goto (tgt := 18) hx hb dX11_commentEnd_93 (by decide) ?_
                  exact L18 z_17 z_20 _ _ hh_5 (by first | omega | (refine ⟨?_, ?_, ?_, ?_⟩ <;> (first | omega | rfl | assumption | decide | exact Or.inl rfl | exact Or.inr rfl | (simp only; omega)))) (by omega) _ (lv_sub hl [2, 3, 4, 1, 0] rfl)
                · skip
                  have c_19' : z_17.toInt = 0 := jb_ne_n (rfl) ((by decide)) c_19
                  refine lv_iload hx hb dX11_commentEnd_85 (lv_at hl 0 rfl) ?_
                  refine lv_iconst (v := 1) hx hb dX11_commentEnd_87 (by decide) ?_
                  refine lv_iadd hx hb dX11_commentEnd_88 ?_
                  refine lv_topi (fun z_21 ez_21 => ?_)
                  have hz_21 : z_21.toInt = z_18.toInt + 1 := by rw [ez_21]; exact jb_iadd2 (rfl) ((by decide)) (by omega)
                  rw [hQ]
                  exact W.iret (v := z_21) hx hb hr (fun t ht hW => ⟨⟨z_21, (), rfl, by first | omega | rfl | assumption | decide | exact Or.inl rfl | exact Or.inr rfl | (simp only; omega), hh_5.rt (M1 := []) [] rfl ht⟩, by rw [ht]; try exact hh_5.1.1, fun q h9 hq => by rw [ht]; try exact hh_5.1.2.1 q h9 hq⟩) hh_5.1.2.2 dX11_commentEnd_89
          · skip
            have c_9' : z_8.toInt = 40 := jb_ne_n (rfl) ((by decide)) c_9
            refine lv_aload_n hx hb dX11_commentEnd_35 rfl (lv_at hl 0 rfl) ?_
            refine lv_iload hx hb dX11_commentEnd_36 (lv_at hl 4 rfl) ?_
            refine lv_iconst (v := 1) hx hb dX11_commentEnd_38 (by decide) ?_
            refine lv_iadd hx hb dX11_commentEnd_39 ?_
            refine lv_topi (fun z_22 ez_22 => ?_)
            have hz_22 : z_22.toInt = v4_5.toInt + 1 := by rw [ez_22]; exact jb_iadd2 (rfl) ((by decide)) (by omega)
            refine j7_iald hx hb hK hh_5 hB101 1 rfl (by decide) hg_r0 (x := z_22.toInt) (rfl) (by omega) dX11_commentEnd_40 (fun z_23 (hz_23 : True) => ?_)
            refine lv_bipush (v := 42) hx hb dX11_commentEnd_41 (by decide) ?_
            refine lv_icmp_ne (tgt := 55) hx hb dX11_commentEnd_43 (by decide) (fun c_24 => ?_) (fun c_24 => ?_)
            · skip
              have c_24' : z_23.toInt ≠ 42 := jb_ne (rfl) ((by decide)) c_24
              refine lv_aload_n hx hb dX11_commentEnd_55 rfl (lv_at hl 0 rfl) ?_
              refine lv_iload hx hb dX11_commentEnd_56 (lv_at hl 4 rfl) ?_
              refine j7_iald hx hb hK hh_5 hB101 1 rfl (by decide) hg_r0 (x := v4_5.toInt) (rfl) (by omega) dX11_commentEnd_58 (fun z_25 (hz_25 : True) => ?_)
              refine lv_bipush (v := 42) hx hb dX11_commentEnd_59 (by decide) ?_
              refine lv_icmp_ne (tgt := 90) hx hb dX11_commentEnd_61 (by decide) (fun c_26 => ?_) (fun c_26 => ?_)
              · skip
                have c_26' : z_25.toInt ≠ 42 := jb_ne (rfl) ((by decide)) c_26
                obtain ⟨z_27, ez_27⟩ : ∃ y : Int32, y = v4_5 + 1 := ⟨_, rfl⟩
                refine lv_iinc (v := z_27) (lv' := [(4, .int z_27), (0, .ref r0), (1, .int a1), (2, .int a2), (3, .int v3_5)]) hx hb dX11_commentEnd_90 hl (k := 4) rfl (by rw [ez_27]; rfl) (by decide) rfl (fun ls hl => ?_)
                have hz_27 : z_27.toInt = v4_5.toInt + 1 := by rw [ez_27]; exact jb_iadd2 (rfl) (by decide) (by omega)
                refine lv_goto (tgt := 18) hx hb dX11_commentEnd_93 (by decide) ?_
                exact L18 v3_5 z_27 _ _ hh_5 (by first | omega | (refine ⟨?_, ?_, ?_, ?_⟩ <;> (first | omega | rfl | assumption | decide | exact Or.inl rfl | exact Or.inr rfl | (simp only; omega)))) (by omega) _ (lv_sub hl [1, 2, 3, 4, 0] rfl)
              · skip
                have c_26' : z_25.toInt = 42 := jb_ne_n (rfl) ((by decide)) c_26
                refine lv_aload_n hx hb dX11_commentEnd_64 rfl (lv_at hl 0 rfl) ?_
                refine lv_iload hx hb dX11_commentEnd_65 (lv_at hl 4 rfl) ?_
                refine lv_iconst (v := 1) hx hb dX11_commentEnd_67 (by decide) ?_
                refine lv_iadd hx hb dX11_commentEnd_68 ?_
                refine lv_topi (fun z_28 ez_28 => ?_)
                have hz_28 : z_28.toInt = v4_5.toInt + 1 := by rw [ez_28]; exact jb_iadd2 (rfl) ((by decide)) (by omega)
                refine j7_iald hx hb hK hh_5 hB101 1 rfl (by decide) hg_r0 (x := z_28.toInt) (rfl) (by omega) dX11_commentEnd_69 (fun z_29 (hz_29 : True) => ?_)
                refine lv_bipush (v := 41) hx hb dX11_commentEnd_70 (by decide) ?_
                refine lv_icmp_ne (tgt := 90) hx hb dX11_commentEnd_72 (by decide) (fun c_30 => ?_) (fun c_30 => ?_)
                · skip
                  have c_30' : z_29.toInt ≠ 41 := jb_ne (rfl) ((by decide)) c_30
                  obtain ⟨z_31, ez_31⟩ : ∃ y : Int32, y = v4_5 + 1 := ⟨_, rfl⟩
                  refine lv_iinc (v := z_31) (lv' := [(4, .int z_31), (0, .ref r0), (1, .int a1), (2, .int a2), (3, .int v3_5)]) hx hb dX11_commentEnd_90 hl (k := 4) rfl (by rw [ez_31]; rfl) (by decide) rfl (fun ls hl => ?_)
                  have hz_31 : z_31.toInt = v4_5.toInt + 1 := by rw [ez_31]; exact jb_iadd2 (rfl) (by decide) (by omega)
                  refine lv_goto (tgt := 18) hx hb dX11_commentEnd_93 (by decide) ?_
                  exact L18 v3_5 z_31 _ _ hh_5 (by first | omega | (refine ⟨?_, ?_, ?_, ?_⟩ <;> (first | omega | rfl | assumption | decide | exact Or.inl rfl | exact Or.inr rfl | (simp only; omega)))) (by omega) _ (lv_sub hl [1, 2, 3, 4, 0] rfl)
                · skip
                  have c_30' : z_29.toInt = 41 := jb_ne_n (rfl) ((by decide)) c_30
                  obtain ⟨z_32, ez_32⟩ : ∃ y : Int32, y = v3_5 + (-1) := ⟨_, rfl⟩
                  refine lv_iinc (v := z_32) (lv' := [(3, .int z_32), (0, .ref r0), (1, .int a1), (2, .int a2), (4, .int v4_5)]) hx hb dX11_commentEnd_75 hl (k := 3) rfl (by rw [ez_32]; rfl) (by decide) rfl (fun ls hl => ?_)
                  have hz_32 : z_32.toInt = v3_5.toInt + (-1) := by rw [ez_32]; exact jb_iadd2 (rfl) (by decide) (by omega)
                  obtain ⟨z_33, ez_33⟩ : ∃ y : Int32, y = v4_5 + 1 := ⟨_, rfl⟩
                  refine lv_iinc (v := z_33) (lv' := [(4, .int z_33), (3, .int z_32), (0, .ref r0), (1, .int a1), (2, .int a2)]) hx hb dX11_commentEnd_78 hl (k := 4) rfl (by rw [ez_33]; rfl) (by decide) rfl (fun ls hl => ?_)
                  have hz_33 : z_33.toInt = v4_5.toInt + 1 := by rw [ez_33]; exact jb_iadd2 (rfl) (by decide) (by omega)
                  refine lv_iload_n hx hb dX11_commentEnd_81 rfl (lv_at hl 1 rfl) ?_
                  refine lv_if_ne (tgt := 90) hx hb dX11_commentEnd_82 (by decide) (fun c_34 => ?_) (fun c_34 => ?_)
                  · skip
                    have c_34' : z_32.toInt ≠ 0 := jb_ne (rfl) ((by decide)) c_34
                    obtain ⟨z_35, ez_35⟩ : ∃ y : Int32, y = z_33 + 1 := ⟨_, rfl⟩
                    refine lv_iinc (v := z_35) (lv' := [(4, .int z_35), (3, .int z_32), (0, .ref r0), (1, .int a1), (2, .int a2)]) hx hb dX11_commentEnd_90 hl (k := 0) rfl (by rw [ez_35]; rfl) (by decide) rfl (fun ls hl => ?_)
                    have hz_35 : z_35.toInt = z_33.toInt + 1 := by rw [ez_35]; exact jb_iadd2 (rfl) (by decide) (by omega)
                    refine lv_goto (tgt := 18) hx hb dX11_commentEnd_93 (by decide) ?_
                    exact L18 z_32 z_35 _ _ hh_5 (by first | omega | (refine ⟨?_, ?_, ?_, ?_⟩ <;> (first | omega | rfl | assumption | decide | exact Or.inl rfl | exact Or.inr rfl | (simp only; omega)))) (by omega) _ (lv_sub hl [2, 3, 4, 1, 0] rfl)
                  · skip
                    have c_34' : z_32.toInt = 0 := jb_ne_n (rfl) ((by decide)) c_34
                    refine lv_iload hx hb dX11_commentEnd_85 (lv_at hl 0 rfl) ?_
                    refine lv_iconst (v := 1) hx hb dX11_commentEnd_87 (by decide) ?_
                    refine lv_iadd hx hb dX11_commentEnd_88 ?_
                    refine lv_topi (fun z_36 ez_36 => ?_)
                    have hz_36 : z_36.toInt = z_33.toInt + 1 := by rw [ez_36]; exact jb_iadd2 (rfl) ((by decide)) (by omega)
                    rw [hQ]
                    exact W.iret (v := z_36) hx hb hr (fun t ht hW => ⟨⟨z_36, (), rfl, by first | omega | rfl | assumption | decide | exact Or.inl rfl | exact Or.inr rfl | (simp only; omega), hh_5.rt (M1 := []) [] rfl ht⟩, by rw [ht]; try exact hh_5.1.1, fun q h9 hq => by rw [ht]; try exact hh_5.1.2.1 q h9 hq⟩) hh_5.1.2.2 dX11_commentEnd_89
            · skip
              have c_24' : z_23.toInt = 42 := jb_ne_n (rfl) ((by decide)) c_24
              obtain ⟨z_37, ez_37⟩ : ∃ y : Int32, y = v3_5 + 1 := ⟨_, rfl⟩
              refine lv_iinc (v := z_37) (lv' := [(3, .int z_37), (0, .ref r0), (1, .int a1), (2, .int a2), (4, .int v4_5)]) hx hb dX11_commentEnd_46 hl (k := 3) rfl (by rw [ez_37]; rfl) (by decide) rfl (fun ls hl => ?_)
              have hz_37 : z_37.toInt = v3_5.toInt + 1 := by rw [ez_37]; exact jb_iadd2 (rfl) (by decide) (by omega)
              obtain ⟨z_38, ez_38⟩ : ∃ y : Int32, y = v4_5 + 1 := ⟨_, rfl⟩
              refine lv_iinc (v := z_38) (lv' := [(4, .int z_38), (3, .int z_37), (0, .ref r0), (1, .int a1), (2, .int a2)]) hx hb dX11_commentEnd_49 hl (k := 4) rfl (by rw [ez_38]; rfl) (by decide) rfl (fun ls hl => ?_)
              have hz_38 : z_38.toInt = v4_5.toInt + 1 := by rw [ez_38]; exact jb_iadd2 (rfl) (by decide) (by omega)
              refine lv_goto (tgt := 90) hx hb dX11_commentEnd_52 (by decide) ?_
              obtain ⟨z_39, ez_39⟩ : ∃ y : Int32, y = z_38 + 1 := ⟨_, rfl⟩
              refine lv_iinc (v := z_39) (lv' := [(4, .int z_39), (3, .int z_37), (0, .ref r0), (1, .int a1), (2, .int a2)]) hx hb dX11_commentEnd_90 hl (k := 0) rfl (by rw [ez_39]; rfl) (by decide) rfl (fun ls hl => ?_)
              have hz_39 : z_39.toInt = z_38.toInt + 1 := by rw [ez_39]; exact jb_iadd2 (rfl) (by decide) (by omega)
              refine lv_goto (tgt := 18) hx hb dX11_commentEnd_93 (by decide) ?_
              exact L18 z_37 z_39 _ _ hh_5 (by first | omega | (refine ⟨?_, ?_, ?_, ?_⟩ <;> (first | omega | rfl | assumption | decide | exact Or.inl rfl | exact Or.inr rfl | (simp only; omega)))) (by omega) _ (lv_sub hl [2, 3, 4, 1, 0] rfl)
    exact L18 (((a2.toInt - (z_4 : Int32).toInt).toNat : Int) : Int).toNat.succ 1 z_4 _ _ hh_1 (by first | omega | (refine ⟨?_, ?_, ?_, ?_⟩ <;> (first | omega | rfl | assumption | decide | exact Or.inl rfl | exact Or.inr rfl | (simp only; omega)))) (by omega) _ (lv_sub hl [2, 3, 4, 1, 0] rfl)
  · skip
    have c_3' : r_2.toInt = 0 := jb_ne_n (rfl) ((by decide)) c_3
    first | (have hr_2pq := hr_2p.resolve_left (by omega); clear hr_2p) | (have hr_2pq := hr_2p.resolve_right (by omega); clear hr_2p) | try clear hr_2p
    refine lv_iconst (v := (-1)) hx hb dX11_commentEnd_9 (by decide) ?_
    rw [hQ]
    exact W.iret (v := (-1)) hx hb hr (fun t ht hW => ⟨⟨(-1), (), rfl, by first | omega | rfl | assumption | decide | exact Or.inl rfl | exact Or.inr rfl | (simp only; omega), hh_1.rt (M1 := []) [] rfl ht⟩, by rw [ht]; try exact hh_1.1.1, fun q h9 hq => by rw [ht]; try exact hh_1.1.2.1 q h9 hq⟩) hh_1.1.2.2 dX11_commentEnd_10
end
section
theorem dX1_part_0 : decode cX1_part 0 = .ok (.aload_n 0, 1) := by decide +kernel
theorem dX1_part_1 : decode cX1_part 1 = .ok (.iconst 0, 1) := by decide +kernel
theorem dX1_part_2 : decode cX1_part 2 = .ok (.putfield 69, 3) := by decide +kernel
theorem dX1_part_5 : decode cX1_part 5 = .ok (.aload_n 0, 1) := by decide +kernel
theorem dX1_part_6 : decode cX1_part 6 = .ok (.iconst 0, 1) := by decide +kernel
theorem dX1_part_7 : decode cX1_part 7 = .ok (.invokevirtual 75, 3) := by decide +kernel
theorem dX1_part_10 : decode cX1_part 10 = .ok (.istore_n 2, 1) := by decide +kernel
theorem dX1_part_11 : decode cX1_part 11 = .ok (.iconst 0, 1) := by decide +kernel
theorem dX1_part_12 : decode cX1_part 12 = .ok (.istore_n 3, 1) := by decide +kernel
theorem dX1_part_13 : decode cX1_part 13 = .ok (.iload_n 3, 1) := by decide +kernel
theorem dX1_part_14 : decode cX1_part 14 = .ok (.bipush 40, 2) := by decide +kernel
theorem dX1_part_16 : decode cX1_part 16 = .ok (.if_icmp .ge 85, 3) := by decide +kernel
theorem dX1_part_19 : decode cX1_part 19 = .ok (.iload_n 2, 1) := by decide +kernel
theorem dX1_part_20 : decode cX1_part 20 = .ok (.aload_n 0, 1) := by decide +kernel
theorem dX1_part_21 : decode cX1_part 21 = .ok (.getfield 42, 3) := by decide +kernel
theorem dX1_part_24 : decode cX1_part 24 = .ok (.if_icmp .ge 77, 3) := by decide +kernel
theorem dX1_part_27 : decode cX1_part 27 = .ok (.aload_n 0, 1) := by decide +kernel
theorem dX1_part_28 : decode cX1_part 28 = .ok (.iload_n 2, 1) := by decide +kernel
theorem dX1_part_29 : decode cX1_part 29 = .ok (.invokevirtual 78, 3) := by decide +kernel
theorem dX1_part_32 : decode cX1_part 32 = .ok (.istore 4, 2) := by decide +kernel
theorem dX1_part_34 : decode cX1_part 34 = .ok (.aload_n 0, 1) := by decide +kernel
theorem dX1_part_35 : decode cX1_part 35 = .ok (.getfield 18, 3) := by decide +kernel
theorem dX1_part_38 : decode cX1_part 38 = .ok (.iload_n 3, 1) := by decide +kernel
theorem dX1_part_39 : decode cX1_part 39 = .ok (.iload_n 2, 1) := by decide +kernel
theorem dX1_part_40 : decode cX1_part 40 = .ok (.iastore, 1) := by decide +kernel
theorem dX1_part_41 : decode cX1_part 41 = .ok (.aload_n 0, 1) := by decide +kernel
theorem dX1_part_42 : decode cX1_part 42 = .ok (.getfield 21, 3) := by decide +kernel
theorem dX1_part_45 : decode cX1_part 45 = .ok (.iload_n 3, 1) := by decide +kernel
theorem dX1_part_46 : decode cX1_part 46 = .ok (.iload 4, 2) := by decide +kernel
theorem dX1_part_48 : decode cX1_part 48 = .ok (.ifCond .ge 10, 3) := by decide +kernel
theorem dX1_part_51 : decode cX1_part 51 = .ok (.aload_n 0, 1) := by decide +kernel
theorem dX1_part_52 : decode cX1_part 52 = .ok (.getfield 42, 3) := by decide +kernel
theorem dX1_part_55 : decode cX1_part 55 = .ok (.goto 5, 3) := by decide +kernel
theorem dX1_part_58 : decode cX1_part 58 = .ok (.iload 4, 2) := by decide +kernel
theorem dX1_part_60 : decode cX1_part 60 = .ok (.iastore, 1) := by decide +kernel
theorem dX1_part_61 : decode cX1_part 61 = .ok (.aload_n 0, 1) := by decide +kernel
theorem dX1_part_62 : decode cX1_part 62 = .ok (.getfield 27, 3) := by decide +kernel
theorem dX1_part_65 : decode cX1_part 65 = .ok (.iload_n 3, 1) := by decide +kernel
theorem dX1_part_66 : decode cX1_part 66 = .ok (.iload 4, 2) := by decide +kernel
theorem dX1_part_68 : decode cX1_part 68 = .ok (.ifCond .ge 7, 3) := by decide +kernel
theorem dX1_part_71 : decode cX1_part 71 = .ok (.iconst 1, 1) := by decide +kernel
theorem dX1_part_72 : decode cX1_part 72 = .ok (.goto 4, 3) := by decide +kernel
theorem dX1_part_75 : decode cX1_part 75 = .ok (.iconst 0, 1) := by decide +kernel
theorem dX1_part_76 : decode cX1_part 76 = .ok (.iastore, 1) := by decide +kernel
theorem dX1_part_77 : decode cX1_part 77 = .ok (.aload_n 0, 1) := by decide +kernel
theorem dX1_part_78 : decode cX1_part 78 = .ok (.iload_n 3, 1) := by decide +kernel
theorem dX1_part_79 : decode cX1_part 79 = .ok (.iconst 1, 1) := by decide +kernel
theorem dX1_part_80 : decode cX1_part 80 = .ok (.iadd, 1) := by decide +kernel
theorem dX1_part_81 : decode cX1_part 81 = .ok (.putfield 69, 3) := by decide +kernel
theorem dX1_part_84 : decode cX1_part 84 = .ok (.aload_n 0, 1) := by decide +kernel
theorem dX1_part_85 : decode cX1_part 85 = .ok (.aload_n 0, 1) := by decide +kernel
theorem dX1_part_86 : decode cX1_part 86 = .ok (.getfield 21, 3) := by decide +kernel
theorem dX1_part_89 : decode cX1_part 89 = .ok (.iload_n 3, 1) := by decide +kernel
theorem dX1_part_90 : decode cX1_part 90 = .ok (.iaload, 1) := by decide +kernel
theorem dX1_part_91 : decode cX1_part 91 = .ok (.invokevirtual 75, 3) := by decide +kernel
theorem dX1_part_94 : decode cX1_part 94 = .ok (.istore_n 2, 1) := by decide +kernel
theorem dX1_part_95 : decode cX1_part 95 = .ok (.iinc 3 1, 3) := by decide +kernel
theorem dX1_part_98 : decode cX1_part 98 = .ok (.goto (-85), 3) := by decide +kernel
theorem dX1_part_101 : decode cX1_part 101 = .ok (.iload_n 2, 1) := by decide +kernel
theorem dX1_part_102 : decode cX1_part 102 = .ok (.aload_n 0, 1) := by decide +kernel
theorem dX1_part_103 : decode cX1_part 103 = .ok (.getfield 42, 3) := by decide +kernel
theorem dX1_part_106 : decode cX1_part 106 = .ok (.if_icmp .ge 31, 3) := by decide +kernel
theorem dX1_part_109 : decode cX1_part 109 = .ok (.aload_n 0, 1) := by decide +kernel
theorem dX1_part_110 : decode cX1_part 110 = .ok (.getfield 69, 3) := by decide +kernel
theorem dX1_part_113 : decode cX1_part 113 = .ok (.bipush 40, 2) := by decide +kernel
theorem dX1_part_115 : decode cX1_part 115 = .ok (.if_icmp .ne 22, 3) := by decide +kernel
theorem dX1_part_118 : decode cX1_part 118 = .ok (.aload_n 0, 1) := by decide +kernel
theorem dX1_part_119 : decode cX1_part 119 = .ok (.getfield 21, 3) := by decide +kernel
theorem dX1_part_122 : decode cX1_part 122 = .ok (.bipush 39, 2) := by decide +kernel
theorem dX1_part_124 : decode cX1_part 124 = .ok (.aload_n 0, 1) := by decide +kernel
theorem dX1_part_125 : decode cX1_part 125 = .ok (.getfield 42, 3) := by decide +kernel
theorem dX1_part_128 : decode cX1_part 128 = .ok (.iastore, 1) := by decide +kernel
theorem dX1_part_129 : decode cX1_part 129 = .ok (.aload_n 0, 1) := by decide +kernel
theorem dX1_part_130 : decode cX1_part 130 = .ok (.getfield 27, 3) := by decide +kernel
theorem dX1_part_133 : decode cX1_part 133 = .ok (.bipush 39, 2) := by decide +kernel
theorem dX1_part_135 : decode cX1_part 135 = .ok (.iconst 2, 1) := by decide +kernel
theorem dX1_part_136 : decode cX1_part 136 = .ok (.iastore, 1) := by decide +kernel
theorem dX1_part_137 : decode cX1_part 137 = .ok (.iconst 0, 1) := by decide +kernel
theorem dX1_part_138 : decode cX1_part 138 = .ok (.istore_n 3, 1) := by decide +kernel
theorem dX1_part_139 : decode cX1_part 139 = .ok (.iload_n 3, 1) := by decide +kernel
theorem dX1_part_140 : decode cX1_part 140 = .ok (.aload_n 0, 1) := by decide +kernel
theorem dX1_part_141 : decode cX1_part 141 = .ok (.getfield 69, 3) := by decide +kernel
theorem dX1_part_144 : decode cX1_part 144 = .ok (.if_icmp .ge 50, 3) := by decide +kernel
theorem dX1_part_147 : decode cX1_part 147 = .ok (.aload_n 0, 1) := by decide +kernel
theorem dX1_part_148 : decode cX1_part 148 = .ok (.getfield 24, 3) := by decide +kernel
theorem dX1_part_151 : decode cX1_part 151 = .ok (.iload_n 3, 1) := by decide +kernel
theorem dX1_part_152 : decode cX1_part 152 = .ok (.iconst 3, 1) := by decide +kernel
theorem dX1_part_153 : decode cX1_part 153 = .ok (.aload_n 0, 1) := by decide +kernel
theorem dX1_part_154 : decode cX1_part 154 = .ok (.getfield 27, 3) := by decide +kernel
theorem dX1_part_157 : decode cX1_part 157 = .ok (.iload_n 3, 1) := by decide +kernel
theorem dX1_part_158 : decode cX1_part 158 = .ok (.iaload, 1) := by decide +kernel
theorem dX1_part_159 : decode cX1_part 159 = .ok (.ifCond .le 7, 3) := by decide +kernel
theorem dX1_part_162 : decode cX1_part 162 = .ok (.iconst 1, 1) := by decide +kernel
theorem dX1_part_163 : decode cX1_part 163 = .ok (.goto 23, 3) := by decide +kernel
theorem dX1_part_166 : decode cX1_part 166 = .ok (.aload_n 1, 1) := by decide +kernel
theorem dX1_part_167 : decode cX1_part 167 = .ok (.aload_n 0, 1) := by decide +kernel
theorem dX1_part_168 : decode cX1_part 168 = .ok (.getfield 15, 3) := by decide +kernel
theorem dX1_part_171 : decode cX1_part 171 = .ok (.aload_n 0, 1) := by decide +kernel
theorem dX1_part_172 : decode cX1_part 172 = .ok (.getfield 18, 3) := by decide +kernel
theorem dX1_part_175 : decode cX1_part 175 = .ok (.iload_n 3, 1) := by decide +kernel
theorem dX1_part_176 : decode cX1_part 176 = .ok (.iaload, 1) := by decide +kernel
theorem dX1_part_177 : decode cX1_part 177 = .ok (.aload_n 0, 1) := by decide +kernel
theorem dX1_part_178 : decode cX1_part 178 = .ok (.getfield 21, 3) := by decide +kernel
theorem dX1_part_181 : decode cX1_part 181 = .ok (.iload_n 3, 1) := by decide +kernel
theorem dX1_part_182 : decode cX1_part 182 = .ok (.iaload, 1) := by decide +kernel
theorem dX1_part_183 : decode cX1_part 183 = .ok (.invokevirtual 81, 3) := by decide +kernel
theorem dX1_part_186 : decode cX1_part 186 = .ok (.iadd, 1) := by decide +kernel
theorem dX1_part_187 : decode cX1_part 187 = .ok (.iastore, 1) := by decide +kernel
theorem dX1_part_188 : decode cX1_part 188 = .ok (.iinc 3 1, 3) := by decide +kernel
theorem dX1_part_191 : decode cX1_part 191 = .ok (.goto (-52), 3) := by decide +kernel
theorem dX1_part_194 : decode cX1_part 194 = .ok (.return_, 1) := by decide +kernel
theorem dX1_sentenceBegin_0 : decode cX1_sentenceBegin 0 = .ok (.iload_n 1, 1) := by decide +kernel
theorem dX1_sentenceBegin_1 : decode cX1_sentenceBegin 1 = .ok (.istore_n 2, 1) := by decide +kernel
theorem dX1_sentenceBegin_2 : decode cX1_sentenceBegin 2 = .ok (.iconst 0, 1) := by decide +kernel
theorem dX1_sentenceBegin_3 : decode cX1_sentenceBegin 3 = .ok (.istore_n 3, 1) := by decide +kernel
theorem dX1_sentenceBegin_4 : decode cX1_sentenceBegin 4 = .ok (.iload_n 3, 1) := by decide +kernel
theorem dX1_sentenceBegin_5 : decode cX1_sentenceBegin 5 = .ok (.aload_n 0, 1) := by decide +kernel
theorem dX1_sentenceBegin_6 : decode cX1_sentenceBegin 6 = .ok (.getfield 42, 3) := by decide +kernel
theorem dX1_sentenceBegin_9 : decode cX1_sentenceBegin 9 = .ok (.if_icmp .gt 59, 3) := by decide +kernel
theorem dX1_sentenceBegin_12 : decode cX1_sentenceBegin 12 = .ok (.iload_n 2, 1) := by decide +kernel
theorem dX1_sentenceBegin_13 : decode cX1_sentenceBegin 13 = .ok (.aload_n 0, 1) := by decide +kernel
theorem dX1_sentenceBegin_14 : decode cX1_sentenceBegin 14 = .ok (.getfield 42, 3) := by decide +kernel
theorem dX1_sentenceBegin_17 : decode cX1_sentenceBegin 17 = .ok (.if_icmp .ge 51, 3) := by decide +kernel
theorem dX1_sentenceBegin_20 : decode cX1_sentenceBegin 20 = .ok (.aload_n 0, 1) := by decide +kernel
theorem dX1_sentenceBegin_21 : decode cX1_sentenceBegin 21 = .ok (.getfield 15, 3) := by decide +kernel
theorem dX1_sentenceBegin_24 : decode cX1_sentenceBegin 24 = .ok (.iload_n 2, 1) := by decide +kernel
theorem dX1_sentenceBegin_25 : decode cX1_sentenceBegin 25 = .ok (.iaload, 1) := by decide +kernel
theorem dX1_sentenceBegin_26 : decode cX1_sentenceBegin 26 = .ok (.invokestatic 87, 3) := by decide +kernel
theorem dX1_sentenceBegin_29 : decode cX1_sentenceBegin 29 = .ok (.ifCond .eq 9, 3) := by decide +kernel
theorem dX1_sentenceBegin_32 : decode cX1_sentenceBegin 32 = .ok (.iinc 2 1, 3) := by decide +kernel
theorem dX1_sentenceBegin_35 : decode cX1_sentenceBegin 35 = .ok (.goto 27, 3) := by decide +kernel
theorem dX1_sentenceBegin_38 : decode cX1_sentenceBegin 38 = .ok (.aload_n 0, 1) := by decide +kernel
theorem dX1_sentenceBegin_39 : decode cX1_sentenceBegin 39 = .ok (.getfield 15, 3) := by decide +kernel
theorem dX1_sentenceBegin_42 : decode cX1_sentenceBegin 42 = .ok (.iload_n 2, 1) := by decide +kernel
theorem dX1_sentenceBegin_43 : decode cX1_sentenceBegin 43 = .ok (.aload_n 0, 1) := by decide +kernel
theorem dX1_sentenceBegin_44 : decode cX1_sentenceBegin 44 = .ok (.getfield 42, 3) := by decide +kernel
theorem dX1_sentenceBegin_47 : decode cX1_sentenceBegin 47 = .ok (.invokestatic 91, 3) := by decide +kernel
theorem dX1_sentenceBegin_50 : decode cX1_sentenceBegin 50 = .ok (.istore 4, 2) := by decide +kernel
theorem dX1_sentenceBegin_52 : decode cX1_sentenceBegin 52 = .ok (.iload 4, 2) := by decide +kernel
theorem dX1_sentenceBegin_54 : decode cX1_sentenceBegin 54 = .ok (.ifCond .ge 5, 3) := by decide +kernel
theorem dX1_sentenceBegin_57 : decode cX1_sentenceBegin 57 = .ok (.iload_n 2, 1) := by decide +kernel
theorem dX1_sentenceBegin_58 : decode cX1_sentenceBegin 58 = .ok (.ireturn, 1) := by decide +kernel
theorem dX1_sentenceBegin_59 : decode cX1_sentenceBegin 59 = .ok (.iload 4, 2) := by decide +kernel
theorem dX1_sentenceBegin_61 : decode cX1_sentenceBegin 61 = .ok (.istore_n 2, 1) := by decide +kernel
theorem dX1_sentenceBegin_62 : decode cX1_sentenceBegin 62 = .ok (.iinc 3 1, 3) := by decide +kernel
theorem dX1_sentenceBegin_65 : decode cX1_sentenceBegin 65 = .ok (.goto (-61), 3) := by decide +kernel
theorem dX1_sentenceBegin_68 : decode cX1_sentenceBegin 68 = .ok (.iload_n 2, 1) := by decide +kernel
theorem dX1_sentenceBegin_69 : decode cX1_sentenceBegin 69 = .ok (.ireturn, 1) := by decide +kernel
theorem dX1_sentenceEnd_0 : decode cX1_sentenceEnd 0 = .ok (.iload_n 1, 1) := by decide +kernel
theorem dX1_sentenceEnd_1 : decode cX1_sentenceEnd 1 = .ok (.istore_n 2, 1) := by decide +kernel
theorem dX1_sentenceEnd_2 : decode cX1_sentenceEnd 2 = .ok (.iconst 0, 1) := by decide +kernel
theorem dX1_sentenceEnd_3 : decode cX1_sentenceEnd 3 = .ok (.istore_n 3, 1) := by decide +kernel
theorem dX1_sentenceEnd_4 : decode cX1_sentenceEnd 4 = .ok (.iload_n 3, 1) := by decide +kernel
theorem dX1_sentenceEnd_5 : decode cX1_sentenceEnd 5 = .ok (.aload_n 0, 1) := by decide +kernel
theorem dX1_sentenceEnd_6 : decode cX1_sentenceEnd 6 = .ok (.getfield 42, 3) := by decide +kernel
theorem dX1_sentenceEnd_9 : decode cX1_sentenceEnd 9 = .ok (.if_icmp .gt 114, 3) := by decide +kernel
theorem dX1_sentenceEnd_12 : decode cX1_sentenceEnd 12 = .ok (.iload_n 2, 1) := by decide +kernel
theorem dX1_sentenceEnd_13 : decode cX1_sentenceEnd 13 = .ok (.aload_n 0, 1) := by decide +kernel
theorem dX1_sentenceEnd_14 : decode cX1_sentenceEnd 14 = .ok (.getfield 42, 3) := by decide +kernel
theorem dX1_sentenceEnd_17 : decode cX1_sentenceEnd 17 = .ok (.if_icmp .ge 106, 3) := by decide +kernel
theorem dX1_sentenceEnd_20 : decode cX1_sentenceEnd 20 = .ok (.aload_n 0, 1) := by decide +kernel
theorem dX1_sentenceEnd_21 : decode cX1_sentenceEnd 21 = .ok (.getfield 15, 3) := by decide +kernel
theorem dX1_sentenceEnd_24 : decode cX1_sentenceEnd 24 = .ok (.iload_n 2, 1) := by decide +kernel
theorem dX1_sentenceEnd_25 : decode cX1_sentenceEnd 25 = .ok (.aload_n 0, 1) := by decide +kernel
theorem dX1_sentenceEnd_26 : decode cX1_sentenceEnd 26 = .ok (.getfield 42, 3) := by decide +kernel
theorem dX1_sentenceEnd_29 : decode cX1_sentenceEnd 29 = .ok (.invokestatic 94, 3) := by decide +kernel
theorem dX1_sentenceEnd_32 : decode cX1_sentenceEnd 32 = .ok (.ifCond .eq 22, 3) := by decide +kernel
theorem dX1_sentenceEnd_35 : decode cX1_sentenceEnd 35 = .ok (.aload_n 0, 1) := by decide +kernel
theorem dX1_sentenceEnd_36 : decode cX1_sentenceEnd 36 = .ok (.getfield 15, 3) := by decide +kernel
theorem dX1_sentenceEnd_39 : decode cX1_sentenceEnd 39 = .ok (.iload_n 2, 1) := by decide +kernel
theorem dX1_sentenceEnd_40 : decode cX1_sentenceEnd 40 = .ok (.aload_n 0, 1) := by decide +kernel
theorem dX1_sentenceEnd_41 : decode cX1_sentenceEnd 41 = .ok (.getfield 42, 3) := by decide +kernel
theorem dX1_sentenceEnd_44 : decode cX1_sentenceEnd 44 = .ok (.invokestatic 91, 3) := by decide +kernel
theorem dX1_sentenceEnd_47 : decode cX1_sentenceEnd 47 = .ok (.istore_n 2, 1) := by decide +kernel
theorem dX1_sentenceEnd_48 : decode cX1_sentenceEnd 48 = .ok (.iload_n 2, 1) := by decide +kernel
theorem dX1_sentenceEnd_49 : decode cX1_sentenceEnd 49 = .ok (.ifCond .ge 68, 3) := by decide +kernel
theorem dX1_sentenceEnd_52 : decode cX1_sentenceEnd 52 = .ok (.iconst (-1), 1) := by decide +kernel
theorem dX1_sentenceEnd_53 : decode cX1_sentenceEnd 53 = .ok (.ireturn, 1) := by decide +kernel
theorem dX1_sentenceEnd_54 : decode cX1_sentenceEnd 54 = .ok (.aload_n 0, 1) := by decide +kernel
theorem dX1_sentenceEnd_55 : decode cX1_sentenceEnd 55 = .ok (.getfield 15, 3) := by decide +kernel
theorem dX1_sentenceEnd_58 : decode cX1_sentenceEnd 58 = .ok (.iload_n 2, 1) := by decide +kernel
theorem dX1_sentenceEnd_59 : decode cX1_sentenceEnd 59 = .ok (.iaload, 1) := by decide +kernel
theorem dX1_sentenceEnd_60 : decode cX1_sentenceEnd 60 = .ok (.bipush 46, 2) := by decide +kernel
theorem dX1_sentenceEnd_62 : decode cX1_sentenceEnd 62 = .ok (.if_icmp .ne 7, 3) := by decide +kernel
theorem dX1_sentenceEnd_65 : decode cX1_sentenceEnd 65 = .ok (.iconst 1, 1) := by decide +kernel
theorem dX1_sentenceEnd_66 : decode cX1_sentenceEnd 66 = .ok (.goto 4, 3) := by decide +kernel
theorem dX1_sentenceEnd_69 : decode cX1_sentenceEnd 69 = .ok (.iconst 0, 1) := by decide +kernel
theorem dX1_sentenceEnd_70 : decode cX1_sentenceEnd 70 = .ok (.istore 4, 2) := by decide +kernel
theorem dX1_sentenceEnd_72 : decode cX1_sentenceEnd 72 = .ok (.iinc 2 1, 3) := by decide +kernel
theorem dX1_sentenceEnd_75 : decode cX1_sentenceEnd 75 = .ok (.iload 4, 2) := by decide +kernel
theorem dX1_sentenceEnd_77 : decode cX1_sentenceEnd 77 = .ok (.ifCond .eq 40, 3) := by decide +kernel
theorem dX1_sentenceEnd_80 : decode cX1_sentenceEnd 80 = .ok (.iload_n 2, 1) := by decide +kernel
theorem dX1_sentenceEnd_81 : decode cX1_sentenceEnd 81 = .ok (.aload_n 0, 1) := by decide +kernel
theorem dX1_sentenceEnd_82 : decode cX1_sentenceEnd 82 = .ok (.getfield 42, 3) := by decide +kernel
theorem dX1_sentenceEnd_85 : decode cX1_sentenceEnd 85 = .ok (.if_icmp .eq 30, 3) := by decide +kernel
theorem dX1_sentenceEnd_88 : decode cX1_sentenceEnd 88 = .ok (.aload_n 0, 1) := by decide +kernel
theorem dX1_sentenceEnd_89 : decode cX1_sentenceEnd 89 = .ok (.getfield 15, 3) := by decide +kernel
theorem dX1_sentenceEnd_92 : decode cX1_sentenceEnd 92 = .ok (.iload_n 2, 1) := by decide +kernel
theorem dX1_sentenceEnd_93 : decode cX1_sentenceEnd 93 = .ok (.iaload, 1) := by decide +kernel
theorem dX1_sentenceEnd_94 : decode cX1_sentenceEnd 94 = .ok (.invokestatic 87, 3) := by decide +kernel
theorem dX1_sentenceEnd_97 : decode cX1_sentenceEnd 97 = .ok (.ifCond .ne 18, 3) := by decide +kernel
theorem dX1_sentenceEnd_100 : decode cX1_sentenceEnd 100 = .ok (.aload_n 0, 1) := by decide +kernel
theorem dX1_sentenceEnd_101 : decode cX1_sentenceEnd 101 = .ok (.getfield 15, 3) := by decide +kernel
theorem dX1_sentenceEnd_104 : decode cX1_sentenceEnd 104 = .ok (.iload_n 2, 1) := by decide +kernel
theorem dX1_sentenceEnd_105 : decode cX1_sentenceEnd 105 = .ok (.aload_n 0, 1) := by decide +kernel
theorem dX1_sentenceEnd_106 : decode cX1_sentenceEnd 106 = .ok (.getfield 42, 3) := by decide +kernel
theorem dX1_sentenceEnd_109 : decode cX1_sentenceEnd 109 = .ok (.invokestatic 94, 3) := by decide +kernel
theorem dX1_sentenceEnd_112 : decode cX1_sentenceEnd 112 = .ok (.ifCond .eq 5, 3) := by decide +kernel
theorem dX1_sentenceEnd_115 : decode cX1_sentenceEnd 115 = .ok (.iload_n 2, 1) := by decide +kernel
theorem dX1_sentenceEnd_116 : decode cX1_sentenceEnd 116 = .ok (.ireturn, 1) := by decide +kernel
theorem dX1_sentenceEnd_117 : decode cX1_sentenceEnd 117 = .ok (.iinc 3 1, 3) := by decide +kernel
theorem dX1_sentenceEnd_120 : decode cX1_sentenceEnd 120 = .ok (.goto (-116), 3) := by decide +kernel
theorem dX1_sentenceEnd_123 : decode cX1_sentenceEnd 123 = .ok (.iconst (-1), 1) := by decide +kernel
theorem dX1_sentenceEnd_124 : decode cX1_sentenceEnd 124 = .ok (.ireturn, 1) := by decide +kernel
end
section
-- System.arraycopy of ints in a walk
section J21
variable {p : Program} {l : Launch} {e : Env} {R : Room} {s : State} {m : MethodId} {args : Array Value} {below : List Frame} {meth : Method} {c : Code} {H : Heap} {locs : List Loc} {cells slots : Nat} {Q : State → Prop}
variable {cc : ByteArray} {pc : Nat} {ls : Array Slot} {rest : List Value} {dC : Nat → ClassId} {dI : Nat → Nat → Nat} {ca : Nat → ClassId} {B : jF} {base : Nat} {G0 G : jT} {E : List (Nat × Nat)} {H0 : Heap} {zc zs : Nat} {L : List jPin} {M : List jCt} {I : List jIv} {a a0 k k0 n n0 index : Nat} {tys : List (ClassId × FieldType)} {own : String} {P P0 : Nat → Int32 → Prop} {cA : ClassId}
theorem j7_acopyi (hexec : p.tables.exec = Jvm.exec) (hb : c.code = cc) (hml : c.maxLocals = ls.size) (hown : s.vm.findClass own = some m.cls) (hlink : (Cond.methodLink own index arraycopyName).before args s = true) (hnat : (Cond.native arraycopyName).before args s = true) (hstat : (Cond.static arraycopyName).before args s = true) (hini : (Cond.initialized "java/lang/System").before args s = true)
    (hK : va_K (dC, dI) vwCl tys s) (hh : jSt (dC, dI) B base G0 G E H0 zc zs L M I H locs) (hB : jBok B) (hBk : ∀ n G a H, B k n G a H ↔ jAr (dC, dI) cA P n a H) (hBk0 : ∀ n G a H, B k0 n G a H ↔ jAr (dC, dI) cA P0 n a H) (t0 : Nat) (ht : tys[t0]? = some (cA, .int)) (hk : k < 1000) (hk0 : k0 < 1000) (hk2 : 17 ≤ k) (hE : E.contains (k, 0) = true) (hM : M.all (fun q => !(q.2.1 == k)) = true) (hI : I.all (fun q => !(q.1.contains (k, 0))) = true) (ha0 : G a0 = some (k0, n0)) (ha : G a = some (k, n))
    {sp dp w : Int32} {x y z : Int} (hx : sp.toInt = x) (hy : dp.toInt = y) (hz : w.toInt = z) (h1 : 0 ≤ x ∧ 0 ≤ y ∧ 0 ≤ z ∧ x + z ≤ n0 ∧ y + z ≤ n) (hP : ∀ (i : Nat) (v : Int32), P0 (x.toNat + i) v → P (y.toNat + i) v)
    (hframes : 1 ≤ R.frames) (hlocals : (rest.map fun v => v.category).sum + (nativeFrameWords "java/lang/System" "arraycopy" 5 + 11) ≤ R.locals) (hdg : decode cc pc = .ok (.invokestatic index, 3))
    (kk : ∀ (H1 : Heap) (locs1 : List Loc), (∀ q, q ≠ a → H1[q]? = H[q]?) → jSt (dC, dI) B base G0 G E H0 zc zs L M I H1 locs1 → W p l e R s m args below meth c H1 locs1 cells slots Q (F0 m (pc + 3) ls rest)) : W p l e R s m args below meth c H locs cells slots Q (F0 m pc ls (.int w :: .int dp :: .ref a :: .int sp :: .ref a0 :: rest)) := by
  obtain ⟨q1, q2, q3, q4, q5⟩ := h1
  obtain ⟨f, f1, f2⟩ := hh.ar hBk0 hk0 ha0
  obtain ⟨g, g1, g2⟩ := hh.ar hBk hk ha
  have s0 : ¬ sp < 0 := jb_n0 hx q1
  have d0 : ¬ dp < 0 := jb_n0 hy q2
  have w0 : ¬ w < 0 := jb_n0 hz q3
  have es : sp.toNatClampNeg = x.toNat := jb_cl hx q1
  have ed : dp.toNatClampNeg = y.toNat := jb_cl hy q2
  have ew : w.toNatClampNeg = z.toNat := jb_cl hz q3
  have h4 : sp.toNatClampNeg + w.toNatClampNeg ≤ n0 := by rw [es, ew]; omega
  have c0 : H[a0]? = some (vp_cell cA (n0, .inl f)) := f1
  have c1 : H[a]? = some (vp_cell cA (n, .inl g)) := g1
  intro T hT X
  obtain ⟨-, k9, hk9, cm9, hkk9⟩ := (hK.2 t0 _ ht).1 n0 (fun j => .int (f j))
  obtain ⟨-, k8, hk8, cm8, hkk8⟩ := (hK.2 t0 _ ht).1 n (fun j => .int (g j))
  obtain ⟨vm', X', step⟩ := X.arraycopy hexec hown hlink hnat hstat hini (src := a0) (dst := a) (cs := vp_cell cA (n0, .inl f)) (cd := vp_cell cA (n, .inl g)) (srcPos := sp) (destPos := dp) (n := w) (by rw [hT]; exact c0) (by rw [hT]; exact c1)
    (fun _ h => by cases h) (fun _ h => by cases h) (fun h => by cases h) (fun h => by cases h) hk9 hk8 hkk9 hkk8 (by simp [refKind]) s0 d0 w0
    (by rw [hx, hz]; show ¬ _ > ((arrV cA n0 (fun j => .int (f j))).slots.size : Int); rw [arrV_size]; omega)
    (by rw [hy, hz]; show ¬ _ > ((arrV cA n (fun j => .int (g j))).slots.size : Int); rw [arrV_size]; omega)
    (fun vm₁ _ i hi => by
      have e9 : (vp_cell cA (n0, .inl f)).slots.getD (sp.toNatClampNeg + i) .null = .int (f (sp.toNatClampNeg + i)) := by
        show (arrV cA n0 (fun j => .int (f j))).slots.getD _ _ = _
        rw [Array.getD_eq_getD_getElem?, arrV_read _ _ (by omega)]
        rfl
      rw [e9]
      exact ⟨rfl, trivial⟩)
    (g := F0 m pc ls (.int w :: .int dp :: .ref a :: .int sp :: .ref a0 :: rest)) rfl (by rw [hml]) (rest := rest) rfl (by rw [hb]; exact hdg) hframes (by show 2 * 0 + _ + _ ≤ _; omega)
  have e1 : copied (vp_cell cA (n0, .inl f)) (vp_cell cA (n, .inl g)) sp dp w = vp_cell cA (n, .inl (va_cpy f g sp.toNatClampNeg dp.toNatClampNeg w.toNatClampNeg)) := va_copied (fun z => .int z) cA cA f g h4
  rw [e1] at X' step
  have hl : a < H.size := (Array.getElem?_eq_some_iff.mp c1).1
  have hheap : ((T.setVm vm').setCell a (vp_cell cA (n, .inl (va_cpy f g sp.toNatClampNeg dp.toNatClampNeg w.toNatClampNeg)))).heap = H.setIfInBounds a (vp_cell cA (n, .inl (va_cpy f g sp.toNatClampNeg dp.toNatClampNeg w.toNatClampNeg))) := by rw [← hT]; rfl
  have oq : ∀ q : Nat, q ≠ a → (H.setIfInBounds a (vp_cell cA (n, .inl (va_cpy f g sp.toNatClampNeg dp.toNatClampNeg w.toNatClampNeg))))[q]? = H[q]? := fun q hq => by simp [Array.getElem?_setIfInBounds, Ne.symm hq]
  have ha1 : (H.setIfInBounds a (vp_cell cA (n, .inl (va_cpy f g sp.toNatClampNeg dp.toNatClampNeg w.toNatClampNeg))))[a]? = some (vp_cell cA (n, .inl (va_cpy f g sp.toNatClampNeg dp.toNatClampNeg w.toNatClampNeg))) := by simp [Array.getElem?_setIfInBounds, hl]
  have hsz : (H.setIfInBounds a (vp_cell cA (n, .inl (va_cpy f g sp.toNatClampNeg dp.toNatClampNeg w.toNatClampNeg)))).size = H.size := by simp
  obtain ⟨t, a1, b1⟩ := kk _ _ oq (hh.arr hB ha hk hk2 hE hM hI hsz oq (jTot_set hsz c1 ha1 (by rw [vp_cell_i, vp_cell_i, arrV_size, arrV_size]) oq) (fun q hq => by
      rcases List.mem_append.mp hq with h | h
      · exact hh.1.2.2 q h
      · obtain ⟨z9, -, hz9⟩ := List.mem_map.mp h
        rw [← hz9]
        exact (hh.ab ha).1) ((hBk _ _ _ _).mpr ⟨_, ha1, fun j hj => by
      show P j (va_cpy f g sp.toNatClampNeg dp.toNatClampNeg w.toNatClampNeg j)
      unfold va_cpy
      split
      · rename_i hc
        have h9 := f2 (sp.toNatClampNeg + (j - dp.toNatClampNeg)) (by omega)
        have e9 : dp.toNatClampNeg + (j - dp.toNatClampNeg) = j := by omega
        have h8 := hP (j - dp.toNatClampNeg) (f (sp.toNatClampNeg + (j - dp.toNatClampNeg)))
        rw [← es, ← ed, e9] at h8
        exact h8 h9
      · exact g2 j hj⟩)) _ hheap X'
  exact ⟨t, step t a1, b1⟩
end J21
end
section
theorem dX1_replace_0 : decode cX1_replace 0 = .ok (.aload_n 3, 1) := by decide +kernel
theorem dX1_replace_1 : decode cX1_replace 1 = .ok (.iload 4, 2) := by decide +kernel
theorem dX1_replace_3 : decode cX1_replace 3 = .ok (.invokevirtual 46, 3) := by decide +kernel
theorem dX1_replace_6 : decode cX1_replace 6 = .ok (.istore 5, 2) := by decide +kernel
theorem dX1_replace_8 : decode cX1_replace 8 = .ok (.aload_n 0, 1) := by decide +kernel
theorem dX1_replace_9 : decode cX1_replace 9 = .ok (.getfield 42, 3) := by decide +kernel
theorem dX1_replace_12 : decode cX1_replace 12 = .ok (.iload_n 2, 1) := by decide +kernel
theorem dX1_replace_13 : decode cX1_replace 13 = .ok (.isub, 1) := by decide +kernel
theorem dX1_replace_14 : decode cX1_replace 14 = .ok (.istore 6, 2) := by decide +kernel
theorem dX1_replace_16 : decode cX1_replace 16 = .ok (.iload_n 1, 1) := by decide +kernel
theorem dX1_replace_17 : decode cX1_replace 17 = .ok (.ifCond .lt 39, 3) := by decide +kernel
theorem dX1_replace_20 : decode cX1_replace 20 = .ok (.iload_n 2, 1) := by decide +kernel
theorem dX1_replace_21 : decode cX1_replace 21 = .ok (.iload_n 1, 1) := by decide +kernel
theorem dX1_replace_22 : decode cX1_replace 22 = .ok (.if_icmp .lt 34, 3) := by decide +kernel
theorem dX1_replace_25 : decode cX1_replace 25 = .ok (.iload 6, 2) := by decide +kernel
theorem dX1_replace_27 : decode cX1_replace 27 = .ok (.ifCond .lt 29, 3) := by decide +kernel
theorem dX1_replace_30 : decode cX1_replace 30 = .ok (.iload 5, 2) := by decide +kernel
theorem dX1_replace_32 : decode cX1_replace 32 = .ok (.ifCond .lt 24, 3) := by decide +kernel
theorem dX1_replace_35 : decode cX1_replace 35 = .ok (.iload 5, 2) := by decide +kernel
theorem dX1_replace_37 : decode cX1_replace 37 = .ok (.sipush 1500, 3) := by decide +kernel
theorem dX1_replace_40 : decode cX1_replace 40 = .ok (.if_icmp .gt 16, 3) := by decide +kernel
theorem dX1_replace_43 : decode cX1_replace 43 = .ok (.iload_n 1, 1) := by decide +kernel
theorem dX1_replace_44 : decode cX1_replace 44 = .ok (.iload 5, 2) := by decide +kernel
theorem dX1_replace_46 : decode cX1_replace 46 = .ok (.iadd, 1) := by decide +kernel
theorem dX1_replace_47 : decode cX1_replace 47 = .ok (.iload 6, 2) := by decide +kernel
theorem dX1_replace_49 : decode cX1_replace 49 = .ok (.iadd, 1) := by decide +kernel
theorem dX1_replace_50 : decode cX1_replace 50 = .ok (.sipush 1500, 3) := by decide +kernel
theorem dX1_replace_53 : decode cX1_replace 53 = .ok (.if_icmp .le 5, 3) := by decide +kernel
theorem dX1_replace_56 : decode cX1_replace 56 = .ok (.iconst 0, 1) := by decide +kernel
theorem dX1_replace_57 : decode cX1_replace 57 = .ok (.ireturn, 1) := by decide +kernel
theorem dX1_replace_58 : decode cX1_replace 58 = .ok (.aload_n 0, 1) := by decide +kernel
theorem dX1_replace_59 : decode cX1_replace 59 = .ok (.getfield 15, 3) := by decide +kernel
theorem dX1_replace_62 : decode cX1_replace 62 = .ok (.iload_n 2, 1) := by decide +kernel
theorem dX1_replace_63 : decode cX1_replace 63 = .ok (.aload_n 0, 1) := by decide +kernel
theorem dX1_replace_64 : decode cX1_replace 64 = .ok (.getfield 15, 3) := by decide +kernel
theorem dX1_replace_67 : decode cX1_replace 67 = .ok (.iload_n 1, 1) := by decide +kernel
theorem dX1_replace_68 : decode cX1_replace 68 = .ok (.iload 5, 2) := by decide +kernel
theorem dX1_replace_70 : decode cX1_replace 70 = .ok (.iadd, 1) := by decide +kernel
theorem dX1_replace_71 : decode cX1_replace 71 = .ok (.iload 6, 2) := by decide +kernel
theorem dX1_replace_73 : decode cX1_replace 73 = .ok (.invokestatic 36, 3) := by decide +kernel
theorem dX1_replace_76 : decode cX1_replace 76 = .ok (.iconst 0, 1) := by decide +kernel
theorem dX1_replace_77 : decode cX1_replace 77 = .ok (.istore 7, 2) := by decide +kernel
theorem dX1_replace_79 : decode cX1_replace 79 = .ok (.iload 7, 2) := by decide +kernel
theorem dX1_replace_81 : decode cX1_replace 81 = .ok (.iload 5, 2) := by decide +kernel
theorem dX1_replace_83 : decode cX1_replace 83 = .ok (.if_icmp .ge 26, 3) := by decide +kernel
theorem dX1_replace_86 : decode cX1_replace 86 = .ok (.aload_n 0, 1) := by decide +kernel
theorem dX1_replace_87 : decode cX1_replace 87 = .ok (.getfield 15, 3) := by decide +kernel
theorem dX1_replace_90 : decode cX1_replace 90 = .ok (.iload_n 1, 1) := by decide +kernel
theorem dX1_replace_91 : decode cX1_replace 91 = .ok (.iload 7, 2) := by decide +kernel
theorem dX1_replace_93 : decode cX1_replace 93 = .ok (.iadd, 1) := by decide +kernel
theorem dX1_replace_94 : decode cX1_replace 94 = .ok (.aload_n 3, 1) := by decide +kernel
theorem dX1_replace_95 : decode cX1_replace 95 = .ok (.iload 4, 2) := by decide +kernel
theorem dX1_replace_97 : decode cX1_replace 97 = .ok (.iload 7, 2) := by decide +kernel
theorem dX1_replace_99 : decode cX1_replace 99 = .ok (.invokevirtual 52, 3) := by decide +kernel
theorem dX1_replace_102 : decode cX1_replace 102 = .ok (.iastore, 1) := by decide +kernel
theorem dX1_replace_103 : decode cX1_replace 103 = .ok (.iinc 7 1, 3) := by decide +kernel
theorem dX1_replace_106 : decode cX1_replace 106 = .ok (.goto (-27), 3) := by decide +kernel
theorem dX1_replace_109 : decode cX1_replace 109 = .ok (.aload_n 0, 1) := by decide +kernel
theorem dX1_replace_110 : decode cX1_replace 110 = .ok (.iload_n 1, 1) := by decide +kernel
theorem dX1_replace_111 : decode cX1_replace 111 = .ok (.iload 5, 2) := by decide +kernel
theorem dX1_replace_113 : decode cX1_replace 113 = .ok (.iadd, 1) := by decide +kernel
theorem dX1_replace_114 : decode cX1_replace 114 = .ok (.iload 6, 2) := by decide +kernel
theorem dX1_replace_116 : decode cX1_replace 116 = .ok (.iadd, 1) := by decide +kernel
theorem dX1_replace_117 : decode cX1_replace 117 = .ok (.putfield 42, 3) := by decide +kernel
theorem dX1_replace_120 : decode cX1_replace 120 = .ok (.iconst 1, 1) := by decide +kernel
theorem dX1_replace_121 : decode cX1_replace 121 = .ok (.ireturn, 1) := by decide +kernel
end
