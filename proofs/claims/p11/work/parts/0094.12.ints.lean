section
theorem dX5_areAlike_0 : decode cX5_areAlike 0 = .ok (.iload_n 0, 1) := by decide +kernel
theorem dX5_areAlike_1 : decode cX5_areAlike 1 = .ok (.bipush 15, 2) := by decide +kernel
theorem dX5_areAlike_3 : decode cX5_areAlike 3 = .ok (.iand, 1) := by decide +kernel
theorem dX5_areAlike_4 : decode cX5_areAlike 4 = .ok (.istore_n 2, 1) := by decide +kernel
theorem dX5_areAlike_5 : decode cX5_areAlike 5 = .ok (.iload_n 0, 1) := by decide +kernel
theorem dX5_areAlike_6 : decode cX5_areAlike 6 = .ok (.iload_n 1, 1) := by decide +kernel
theorem dX5_areAlike_7 : decode cX5_areAlike 7 = .ok (.if_icmp .eq 22, 3) := by decide +kernel
theorem dX5_areAlike_10 : decode cX5_areAlike 10 = .ok (.iload_n 2, 1) := by decide +kernel
theorem dX5_areAlike_11 : decode cX5_areAlike 11 = .ok (.iconst 5, 1) := by decide +kernel
theorem dX5_areAlike_12 : decode cX5_areAlike 12 = .ok (.if_icmp .eq 9, 3) := by decide +kernel
theorem dX5_areAlike_15 : decode cX5_areAlike 15 = .ok (.iload_n 2, 1) := by decide +kernel
theorem dX5_areAlike_16 : decode cX5_areAlike 16 = .ok (.bipush 6, 2) := by decide +kernel
theorem dX5_areAlike_18 : decode cX5_areAlike 18 = .ok (.if_icmp .ne 15, 3) := by decide +kernel
theorem dX5_areAlike_21 : decode cX5_areAlike 21 = .ok (.iload_n 2, 1) := by decide +kernel
theorem dX5_areAlike_22 : decode cX5_areAlike 22 = .ok (.iload_n 1, 1) := by decide +kernel
theorem dX5_areAlike_23 : decode cX5_areAlike 23 = .ok (.bipush 15, 2) := by decide +kernel
theorem dX5_areAlike_25 : decode cX5_areAlike 25 = .ok (.iand, 1) := by decide +kernel
theorem dX5_areAlike_26 : decode cX5_areAlike 26 = .ok (.if_icmp .ne 7, 3) := by decide +kernel
theorem dX5_areAlike_29 : decode cX5_areAlike 29 = .ok (.iconst 1, 1) := by decide +kernel
theorem dX5_areAlike_30 : decode cX5_areAlike 30 = .ok (.goto 4, 3) := by decide +kernel
theorem dX5_areAlike_33 : decode cX5_areAlike 33 = .ok (.iconst 0, 1) := by decide +kernel
theorem dX5_areAlike_34 : decode cX5_areAlike 34 = .ok (.ireturn, 1) := by decide +kernel
end
section
theorem jWr_76 : ∀ w ∈ wsL_law_r76, w ∈ jWl := fun w h => jT76 w (List.mem_append_left _ h)
theorem jWr_78 : ∀ w ∈ wsL_law_r78, w ∈ jWl := fun w h => jT78 w (List.mem_append_left _ h)
theorem jWr_79 : ∀ w ∈ wsL_law_r79, w ∈ jWl := fun w h => jT79 w (List.mem_append_left _ h)
theorem jWr_80 : ∀ w ∈ wsL_law_r80, w ∈ jWl := fun w h => jT80 w (List.mem_append_left _ h)
theorem jWr_81 : ∀ w ∈ wsL_law_r81, w ∈ jWl := fun w h => jT81 w (List.mem_append_left _ h)
theorem jWr_82 : ∀ w ∈ wsL_law_r82, w ∈ jWl := fun w h => jT82 w (List.mem_append_left _ h)
theorem jWr_83 : ∀ w ∈ wsL_law_r83, w ∈ jWl := fun w h => jT83 w (List.mem_append_left _ h)
theorem jWr_84 : ∀ w ∈ wsL_law_r84, w ∈ jWl := fun w h => jT84 w (List.mem_append_left _ h)
theorem jWr_85 : ∀ w ∈ wsL_law_r85, w ∈ jWl := fun w h => jT85 w (List.mem_append_left _ h)
theorem jWr_86 : ∀ w ∈ wsL_law_r86, w ∈ jWl := fun w h => jT86 w (List.mem_append_left _ h)
theorem jWr_87 : ∀ w ∈ wsL_law_r87, w ∈ jWl := fun w h => jT87 w (List.mem_append_left _ h)
theorem jWr_88 : ∀ w ∈ wsL_law_r88, w ∈ jWl := fun w h => jT88 w (List.mem_append_left _ h)
theorem jWr_89 : ∀ w ∈ wsL_law_r89, w ∈ jWl := fun w h => jT89 w (List.mem_append_left _ h)
end
section
set_option maxHeartbeats 4000000 in
set_option maxRecDepth 20000 in
theorem wX5_areAlike (l : Launch) (dC : Nat → ClassId) (dI : Nat → Nat → Nat) (ca : Nat → ClassId) (base : Nat) (H0 : Heap) (a0 : Int32) (a1 : Int32) : Met l yX5_areAlike (jw yX5_areAlike cX5_areAlike 3 (some .boolean)) ({ frames := 0, cells := 0, slots := 0, locals := 0 }) (va_Pc [.int a0, .int a1] (fun U => U.heap = H0 ∧ jG dC dI ca base U ∧ (True))) (vp_Si (fun r => r = 0 ∨ r = 1)) 0 0 (fun _ => False) := by
  refine Met.ofW (cc := cX5_areAlike) (maxL := 3) (ret := (some .boolean)) (by decide) rfl ?_
  intro p e s m args below meth c s₁ B hml hv
  obtain ⟨rfl, hH0, hG, hpre⟩ := hv
  have hK := hG.1
  have hx := B.exec
  have hb := B.bytes
  have hr := B.returns
  have hts := atoms_spec (ws := (jw yX5_areAlike cX5_areAlike 3 (some .boolean))) B.pre
  have htw : ∀ w ∈ jWl, w.before _ s = true := fun w h => hts w (List.mem_cons_of_mem _ h)
  have hown : s.vm.findClass RX5 = some m.cls := findClass_of_methodNamed B.named
  have hlocks := B.notSynchronized
  obtain ⟨Q, hQ⟩ : ∃ Q, Q = MQ below (vp_Si (fun r => r = 0 ∨ r = 1)) ([.int a0, .int a1] : List Value).toArray s 0 0 (fun _ => False) := ⟨_, rfl⟩
  rw [← hQ]
  have hl := lv_entry ([.int a0, .int a1]) (n := 3) (Nat.le_of_ble_eq_true rfl)
  rw [lg_entry_eq]
  generalize (lg_sl ([.int a0, .int a1]) ++ List.replicate (3 - (lg_sl ([.int a0, .int a1])).length) Slot.unset).toArray = ls at hl ⊢
  have hl : lv_has ls 3 [(0, .int a0), (1, .int a1)] := hl
  generalize hR : (headSpec (jw yX5_areAlike cX5_areAlike 3 (some .boolean)) ({ frames := 0, cells := 0, slots := 0, locals := 0 })).room = R
  subst hH0
  have hS : va_S (jA base) s.heap s.heap [] := va_S.rf
  have hk0 : (0 : Int32).toInt = 0 := by decide
  have hk1 : (1 : Int32).toInt = 1 := by decide
  have hk5 : (5 : Int32).toInt = 5 := by decide
  have hk6 : (6 : Int32).toInt = 6 := by decide
  have hk15 : (15 : Int32).toInt = 15 := by decide
  refine lv_iload_n hx hb dX5_areAlike_0 rfl (lv_at hl 0 rfl) ?_
  refine lv_bipush (v := 15) hx hb dX5_areAlike_1 (by decide) ?_
  refine lv_iand hx hb dX5_areAlike_3 ?_
  refine lv_topi (fun z_1 ez_1 => ?_)
  have hz_1 : 0 ≤ z_1.toInt ∧ z_1.toInt ≤ 15 := by rw [ez_1]; exact jb_and a0 (m := 15) (k := 4) (by decide) (by decide)
  refine lv_istore_n (lv' := [(2, .int z_1), (0, .int a0), (1, .int a1)]) hx hb dX5_areAlike_4 rfl hl (by decide) rfl (fun ls hl => ?_)
  refine lv_iload_n hx hb dX5_areAlike_5 rfl (lv_at hl 1 rfl) ?_
  refine lv_iload_n hx hb dX5_areAlike_6 rfl (lv_at hl 2 rfl) ?_
  refine lv_icmp_eq (tgt := 29) hx hb dX5_areAlike_7 (by decide) (fun c_2 => ?_) (fun c_2 => ?_)
  · skip
    have c_2' : a0.toInt = a1.toInt := jb_eq (rfl) (rfl) c_2
    refine lv_iconst (v := 1) hx hb dX5_areAlike_29 (by decide) ?_
    refine lv_goto (tgt := 34) hx hb dX5_areAlike_30 (by decide) ?_
    rw [hQ]
    exact W.zret (v := 1) hx hb hr (jb_nz (Or.inr rfl)) (fun t ht hW => ⟨1, rfl, by first | exact Or.inl rfl | exact Or.inr rfl | assumption, ht⟩) (fun _ h => nomatch h) dX5_areAlike_34
  · skip
    have c_2' : a0.toInt ≠ a1.toInt := jb_eq_n (rfl) (rfl) c_2
    refine lv_iload_n hx hb dX5_areAlike_10 rfl (lv_at hl 0 rfl) ?_
    refine lv_iconst (v := 5) hx hb dX5_areAlike_11 (by decide) ?_
    refine lv_icmp_eq (tgt := 21) hx hb dX5_areAlike_12 (by decide) (fun c_3 => ?_) (fun c_3 => ?_)
    · skip
      have c_3' : z_1.toInt = 5 := jb_eq (rfl) ((by decide)) c_3
      refine lv_iload_n hx hb dX5_areAlike_21 rfl (lv_at hl 0 rfl) ?_
      refine lv_iload_n hx hb dX5_areAlike_22 rfl (lv_at hl 2 rfl) ?_
      refine lv_bipush (v := 15) hx hb dX5_areAlike_23 (by decide) ?_
      refine lv_iand hx hb dX5_areAlike_25 ?_
      refine lv_topi (fun z_4 ez_4 => ?_)
      have hz_4 : 0 ≤ z_4.toInt ∧ z_4.toInt ≤ 15 := by rw [ez_4]; exact jb_and a1 (m := 15) (k := 4) (by decide) (by decide)
      refine lv_icmp_ne (tgt := 33) hx hb dX5_areAlike_26 (by decide) (fun c_5 => ?_) (fun c_5 => ?_)
      · skip
        have c_5' : z_1.toInt ≠ z_4.toInt := jb_ne (rfl) (rfl) c_5
        refine lv_iconst (v := 0) hx hb dX5_areAlike_33 (by decide) ?_
        rw [hQ]
        exact W.zret (v := 0) hx hb hr (jb_nz (Or.inl rfl)) (fun t ht hW => ⟨0, rfl, by first | exact Or.inl rfl | exact Or.inr rfl | assumption, ht⟩) (fun _ h => nomatch h) dX5_areAlike_34
      · skip
        have c_5' : z_1.toInt = z_4.toInt := jb_ne_n (rfl) (rfl) c_5
        refine lv_iconst (v := 1) hx hb dX5_areAlike_29 (by decide) ?_
        refine lv_goto (tgt := 34) hx hb dX5_areAlike_30 (by decide) ?_
        rw [hQ]
        exact W.zret (v := 1) hx hb hr (jb_nz (Or.inr rfl)) (fun t ht hW => ⟨1, rfl, by first | exact Or.inl rfl | exact Or.inr rfl | assumption, ht⟩) (fun _ h => nomatch h) dX5_areAlike_34
    · skip
      have c_3' : z_1.toInt ≠ 5 := jb_eq_n (rfl) ((by decide)) c_3
      refine lv_iload_n hx hb dX5_areAlike_15 rfl (lv_at hl 0 rfl) ?_
      refine lv_bipush (v := 6) hx hb dX5_areAlike_16 (by decide) ?_
      refine lv_icmp_ne (tgt := 33) hx hb dX5_areAlike_18 (by decide) (fun c_6 => ?_) (fun c_6 => ?_)
      · skip
        have c_6' : z_1.toInt ≠ 6 := jb_ne (rfl) ((by decide)) c_6
        refine lv_iconst (v := 0) hx hb dX5_areAlike_33 (by decide) ?_
        rw [hQ]
        exact W.zret (v := 0) hx hb hr (jb_nz (Or.inl rfl)) (fun t ht hW => ⟨0, rfl, by first | exact Or.inl rfl | exact Or.inr rfl | assumption, ht⟩) (fun _ h => nomatch h) dX5_areAlike_34
      · skip
        have c_6' : z_1.toInt = 6 := jb_ne_n (rfl) ((by decide)) c_6
        refine lv_iload_n hx hb dX5_areAlike_21 rfl (lv_at hl 0 rfl) ?_
        refine lv_iload_n hx hb dX5_areAlike_22 rfl (lv_at hl 2 rfl) ?_
        refine lv_bipush (v := 15) hx hb dX5_areAlike_23 (by decide) ?_
        refine lv_iand hx hb dX5_areAlike_25 ?_
        refine lv_topi (fun z_7 ez_7 => ?_)
        have hz_7 : 0 ≤ z_7.toInt ∧ z_7.toInt ≤ 15 := by rw [ez_7]; exact jb_and a1 (m := 15) (k := 4) (by decide) (by decide)
        refine lv_icmp_ne (tgt := 33) hx hb dX5_areAlike_26 (by decide) (fun c_8 => ?_) (fun c_8 => ?_)
        · skip
          have c_8' : z_1.toInt ≠ z_7.toInt := jb_ne (rfl) (rfl) c_8
          refine lv_iconst (v := 0) hx hb dX5_areAlike_33 (by decide) ?_
          rw [hQ]
          exact W.zret (v := 0) hx hb hr (jb_nz (Or.inl rfl)) (fun t ht hW => ⟨0, rfl, by first | exact Or.inl rfl | exact Or.inr rfl | assumption, ht⟩) (fun _ h => nomatch h) dX5_areAlike_34
        · skip
          have c_8' : z_1.toInt = z_7.toInt := jb_ne_n (rfl) (rfl) c_8
          refine lv_iconst (v := 1) hx hb dX5_areAlike_29 (by decide) ?_
          refine lv_goto (tgt := 34) hx hb dX5_areAlike_30 (by decide) ?_
          rw [hQ]
          exact W.zret (v := 1) hx hb hr (jb_nz (Or.inr rfl)) (fun t ht hW => ⟨1, rfl, by first | exact Or.inl rfl | exact Or.inr rfl | assumption, ht⟩) (fun _ h => nomatch h) dX5_areAlike_34
end
section
theorem dX10_peek_0 : decode cX10_peek 0 = .ok (.aload_n 0, 1) := by decide +kernel
theorem dX10_peek_1 : decode cX10_peek 1 = .ok (.getfield 83, 3) := by decide +kernel
theorem dX10_peek_4 : decode cX10_peek 4 = .ok (.aload_n 0, 1) := by decide +kernel
theorem dX10_peek_5 : decode cX10_peek 5 = .ok (.getfield 28, 3) := by decide +kernel
theorem dX10_peek_8 : decode cX10_peek 8 = .ok (.if_icmp .ge 25, 3) := by decide +kernel
theorem dX10_peek_11 : decode cX10_peek 11 = .ok (.aload_n 0, 1) := by decide +kernel
theorem dX10_peek_12 : decode cX10_peek 12 = .ok (.getfield 83, 3) := by decide +kernel
theorem dX10_peek_15 : decode cX10_peek 15 = .ok (.sipush 1500, 3) := by decide +kernel
theorem dX10_peek_18 : decode cX10_peek 18 = .ok (.if_icmp .ge 15, 3) := by decide +kernel
theorem dX10_peek_21 : decode cX10_peek 21 = .ok (.aload_n 0, 1) := by decide +kernel
theorem dX10_peek_22 : decode cX10_peek 22 = .ok (.getfield 9, 3) := by decide +kernel
theorem dX10_peek_25 : decode cX10_peek 25 = .ok (.aload_n 0, 1) := by decide +kernel
theorem dX10_peek_26 : decode cX10_peek 26 = .ok (.getfield 83, 3) := by decide +kernel
theorem dX10_peek_29 : decode cX10_peek 29 = .ok (.iaload, 1) := by decide +kernel
theorem dX10_peek_30 : decode cX10_peek 30 = .ok (.goto 4, 3) := by decide +kernel
theorem dX10_peek_33 : decode cX10_peek 33 = .ok (.iconst 0, 1) := by decide +kernel
theorem dX10_peek_34 : decode cX10_peek 34 = .ok (.ireturn, 1) := by decide +kernel
theorem dX10_peekName_0 : decode cX10_peekName 0 = .ok (.aload_n 0, 1) := by decide +kernel
theorem dX10_peekName_1 : decode cX10_peekName 1 = .ok (.invokevirtual 115, 3) := by decide +kernel
theorem dX10_peekName_4 : decode cX10_peekName 4 = .ok (.bipush 110, 2) := by decide +kernel
theorem dX10_peekName_6 : decode cX10_peekName 6 = .ok (.if_icmp .ne 15, 3) := by decide +kernel
theorem dX10_peekName_9 : decode cX10_peekName 9 = .ok (.aload_n 0, 1) := by decide +kernel
theorem dX10_peekName_10 : decode cX10_peekName 10 = .ok (.getfield 15, 3) := by decide +kernel
theorem dX10_peekName_13 : decode cX10_peekName 13 = .ok (.aload_n 0, 1) := by decide +kernel
theorem dX10_peekName_14 : decode cX10_peekName 14 = .ok (.getfield 83, 3) := by decide +kernel
theorem dX10_peekName_17 : decode cX10_peekName 17 = .ok (.iaload, 1) := by decide +kernel
theorem dX10_peekName_18 : decode cX10_peekName 18 = .ok (.goto 4, 3) := by decide +kernel
theorem dX10_peekName_21 : decode cX10_peekName 21 = .ok (.iconst (-1), 1) := by decide +kernel
theorem dX10_peekName_22 : decode cX10_peekName 22 = .ok (.ireturn, 1) := by decide +kernel
theorem dX10_isSign_0 : decode cX10_isSign 0 = .ok (.aload_n 0, 1) := by decide +kernel
theorem dX10_isSign_1 : decode cX10_isSign 1 = .ok (.getfield 83, 3) := by decide +kernel
theorem dX10_isSign_4 : decode cX10_isSign 4 = .ok (.aload_n 0, 1) := by decide +kernel
theorem dX10_isSign_5 : decode cX10_isSign 5 = .ok (.getfield 28, 3) := by decide +kernel
theorem dX10_isSign_8 : decode cX10_isSign 8 = .ok (.if_icmp .ge 30, 3) := by decide +kernel
theorem dX10_isSign_11 : decode cX10_isSign 11 = .ok (.aload_n 0, 1) := by decide +kernel
theorem dX10_isSign_12 : decode cX10_isSign 12 = .ok (.getfield 83, 3) := by decide +kernel
theorem dX10_isSign_15 : decode cX10_isSign 15 = .ok (.sipush 1500, 3) := by decide +kernel
theorem dX10_isSign_18 : decode cX10_isSign 18 = .ok (.if_icmp .ge 20, 3) := by decide +kernel
theorem dX10_isSign_21 : decode cX10_isSign 21 = .ok (.aload_n 0, 1) := by decide +kernel
theorem dX10_isSign_22 : decode cX10_isSign 22 = .ok (.getfield 9, 3) := by decide +kernel
theorem dX10_isSign_25 : decode cX10_isSign 25 = .ok (.aload_n 0, 1) := by decide +kernel
theorem dX10_isSign_26 : decode cX10_isSign 26 = .ok (.getfield 83, 3) := by decide +kernel
theorem dX10_isSign_29 : decode cX10_isSign 29 = .ok (.iaload, 1) := by decide +kernel
theorem dX10_isSign_30 : decode cX10_isSign 30 = .ok (.iload_n 1, 1) := by decide +kernel
theorem dX10_isSign_31 : decode cX10_isSign 31 = .ok (.if_icmp .ne 7, 3) := by decide +kernel
theorem dX10_isSign_34 : decode cX10_isSign 34 = .ok (.iconst 1, 1) := by decide +kernel
theorem dX10_isSign_35 : decode cX10_isSign 35 = .ok (.goto 4, 3) := by decide +kernel
theorem dX10_isSign_38 : decode cX10_isSign 38 = .ok (.iconst 0, 1) := by decide +kernel
theorem dX10_isSign_39 : decode cX10_isSign 39 = .ok (.istore_n 2, 1) := by decide +kernel
theorem dX10_isSign_40 : decode cX10_isSign 40 = .ok (.aload_n 0, 1) := by decide +kernel
theorem dX10_isSign_41 : decode cX10_isSign 41 = .ok (.dup, 1) := by decide +kernel
theorem dX10_isSign_42 : decode cX10_isSign 42 = .ok (.getfield 83, 3) := by decide +kernel
theorem dX10_isSign_45 : decode cX10_isSign 45 = .ok (.iconst 1, 1) := by decide +kernel
theorem dX10_isSign_46 : decode cX10_isSign 46 = .ok (.iadd, 1) := by decide +kernel
theorem dX10_isSign_47 : decode cX10_isSign 47 = .ok (.putfield 83, 3) := by decide +kernel
theorem dX10_isSign_50 : decode cX10_isSign 50 = .ok (.iload_n 2, 1) := by decide +kernel
theorem dX10_isSign_51 : decode cX10_isSign 51 = .ok (.ireturn, 1) := by decide +kernel
theorem dX10_isName_0 : decode cX10_isName 0 = .ok (.aload_n 0, 1) := by decide +kernel
theorem dX10_isName_1 : decode cX10_isName 1 = .ok (.invokevirtual 119, 3) := by decide +kernel
theorem dX10_isName_4 : decode cX10_isName 4 = .ok (.istore_n 1, 1) := by decide +kernel
theorem dX10_isName_5 : decode cX10_isName 5 = .ok (.aload_n 0, 1) := by decide +kernel
theorem dX10_isName_6 : decode cX10_isName 6 = .ok (.dup, 1) := by decide +kernel
theorem dX10_isName_7 : decode cX10_isName 7 = .ok (.getfield 83, 3) := by decide +kernel
theorem dX10_isName_10 : decode cX10_isName 10 = .ok (.iconst 1, 1) := by decide +kernel
theorem dX10_isName_11 : decode cX10_isName 11 = .ok (.iadd, 1) := by decide +kernel
theorem dX10_isName_12 : decode cX10_isName 12 = .ok (.putfield 83, 3) := by decide +kernel
theorem dX10_isName_15 : decode cX10_isName 15 = .ok (.iload_n 1, 1) := by decide +kernel
theorem dX10_isName_16 : decode cX10_isName 16 = .ok (.iconst 2, 1) := by decide +kernel
theorem dX10_isName_17 : decode cX10_isName 17 = .ok (.if_icmp .le 15, 3) := by decide +kernel
theorem dX10_isName_20 : decode cX10_isName 20 = .ok (.aload_n 0, 1) := by decide +kernel
theorem dX10_isName_21 : decode cX10_isName 21 = .ok (.getfield 86, 3) := by decide +kernel
theorem dX10_isName_24 : decode cX10_isName 24 = .ok (.aload_n 0, 1) := by decide +kernel
theorem dX10_isName_25 : decode cX10_isName 25 = .ok (.getfield 18, 3) := by decide +kernel
theorem dX10_isName_28 : decode cX10_isName 28 = .ok (.arraylength, 1) := by decide +kernel
theorem dX10_isName_29 : decode cX10_isName 29 = .ok (.if_icmp .lt 5, 3) := by decide +kernel
theorem dX10_isName_32 : decode cX10_isName 32 = .ok (.iconst 0, 1) := by decide +kernel
theorem dX10_isName_33 : decode cX10_isName 33 = .ok (.ireturn, 1) := by decide +kernel
theorem dX10_isName_34 : decode cX10_isName 34 = .ok (.aload_n 0, 1) := by decide +kernel
theorem dX10_isName_35 : decode cX10_isName 35 = .ok (.getfield 18, 3) := by decide +kernel
theorem dX10_isName_38 : decode cX10_isName 38 = .ok (.aload_n 0, 1) := by decide +kernel
theorem dX10_isName_39 : decode cX10_isName 39 = .ok (.getfield 86, 3) := by decide +kernel
theorem dX10_isName_42 : decode cX10_isName 42 = .ok (.iload_n 1, 1) := by decide +kernel
theorem dX10_isName_43 : decode cX10_isName 43 = .ok (.iastore, 1) := by decide +kernel
theorem dX10_isName_44 : decode cX10_isName 44 = .ok (.aload_n 0, 1) := by decide +kernel
theorem dX10_isName_45 : decode cX10_isName 45 = .ok (.dup, 1) := by decide +kernel
theorem dX10_isName_46 : decode cX10_isName 46 = .ok (.getfield 86, 3) := by decide +kernel
theorem dX10_isName_49 : decode cX10_isName 49 = .ok (.iconst 1, 1) := by decide +kernel
theorem dX10_isName_50 : decode cX10_isName 50 = .ok (.iadd, 1) := by decide +kernel
theorem dX10_isName_51 : decode cX10_isName 51 = .ok (.putfield 86, 3) := by decide +kernel
theorem dX10_isName_54 : decode cX10_isName 54 = .ok (.iconst 1, 1) := by decide +kernel
theorem dX10_isName_55 : decode cX10_isName 55 = .ok (.ireturn, 1) := by decide +kernel
theorem dX10_isArity_0 : decode cX10_isArity 0 = .ok (.aload_n 0, 1) := by decide +kernel
theorem dX10_isArity_1 : decode cX10_isArity 1 = .ok (.aload_n 0, 1) := by decide +kernel
theorem dX10_isArity_2 : decode cX10_isArity 2 = .ok (.invokevirtual 115, 3) := by decide +kernel
theorem dX10_isArity_5 : decode cX10_isArity 5 = .ok (.bipush 100, 2) := by decide +kernel
theorem dX10_isArity_7 : decode cX10_isArity 7 = .ok (.if_icmp .ne 15, 3) := by decide +kernel
theorem dX10_isArity_10 : decode cX10_isArity 10 = .ok (.aload_n 0, 1) := by decide +kernel
theorem dX10_isArity_11 : decode cX10_isArity 11 = .ok (.getfield 15, 3) := by decide +kernel
theorem dX10_isArity_14 : decode cX10_isArity 14 = .ok (.aload_n 0, 1) := by decide +kernel
theorem dX10_isArity_15 : decode cX10_isArity 15 = .ok (.getfield 83, 3) := by decide +kernel
theorem dX10_isArity_18 : decode cX10_isArity 18 = .ok (.iaload, 1) := by decide +kernel
theorem dX10_isArity_19 : decode cX10_isArity 19 = .ok (.goto 4, 3) := by decide +kernel
theorem dX10_isArity_22 : decode cX10_isArity 22 = .ok (.iconst (-1), 1) := by decide +kernel
theorem dX10_isArity_23 : decode cX10_isArity 23 = .ok (.putfield 92, 3) := by decide +kernel
theorem dX10_isArity_26 : decode cX10_isArity 26 = .ok (.aload_n 0, 1) := by decide +kernel
theorem dX10_isArity_27 : decode cX10_isArity 27 = .ok (.dup, 1) := by decide +kernel
theorem dX10_isArity_28 : decode cX10_isArity 28 = .ok (.getfield 83, 3) := by decide +kernel
theorem dX10_isArity_31 : decode cX10_isArity 31 = .ok (.iconst 1, 1) := by decide +kernel
theorem dX10_isArity_32 : decode cX10_isArity 32 = .ok (.iadd, 1) := by decide +kernel
theorem dX10_isArity_33 : decode cX10_isArity 33 = .ok (.putfield 83, 3) := by decide +kernel
theorem dX10_isArity_36 : decode cX10_isArity 36 = .ok (.aload_n 0, 1) := by decide +kernel
theorem dX10_isArity_37 : decode cX10_isArity 37 = .ok (.getfield 92, 3) := by decide +kernel
theorem dX10_isArity_40 : decode cX10_isArity 40 = .ok (.ifCond .lt 15, 3) := by decide +kernel
theorem dX10_isArity_43 : decode cX10_isArity 43 = .ok (.aload_n 0, 1) := by decide +kernel
theorem dX10_isArity_44 : decode cX10_isArity 44 = .ok (.getfield 92, 3) := by decide +kernel
theorem dX10_isArity_47 : decode cX10_isArity 47 = .ok (.iconst 3, 1) := by decide +kernel
theorem dX10_isArity_48 : decode cX10_isArity 48 = .ok (.if_icmp .gt 7, 3) := by decide +kernel
theorem dX10_isArity_51 : decode cX10_isArity 51 = .ok (.iconst 1, 1) := by decide +kernel
theorem dX10_isArity_52 : decode cX10_isArity 52 = .ok (.goto 4, 3) := by decide +kernel
theorem dX10_isArity_55 : decode cX10_isArity 55 = .ok (.iconst 0, 1) := by decide +kernel
theorem dX10_isArity_56 : decode cX10_isArity 56 = .ok (.ireturn, 1) := by decide +kernel
theorem dX10_addNode_0 : decode cX10_addNode 0 = .ok (.aload_n 0, 1) := by decide +kernel
theorem dX10_addNode_1 : decode cX10_addNode 1 = .ok (.getfield 89, 3) := by decide +kernel
theorem dX10_addNode_4 : decode cX10_addNode 4 = .ok (.sipush 3000, 3) := by decide +kernel
theorem dX10_addNode_7 : decode cX10_addNode 7 = .ok (.if_icmp .lt 5, 3) := by decide +kernel
theorem dX10_addNode_10 : decode cX10_addNode 10 = .ok (.iconst 0, 1) := by decide +kernel
theorem dX10_addNode_11 : decode cX10_addNode 11 = .ok (.ireturn, 1) := by decide +kernel
theorem dX10_addNode_12 : decode cX10_addNode 12 = .ok (.aload_n 0, 1) := by decide +kernel
theorem dX10_addNode_13 : decode cX10_addNode 13 = .ok (.getfield 21, 3) := by decide +kernel
theorem dX10_addNode_16 : decode cX10_addNode 16 = .ok (.aload_n 0, 1) := by decide +kernel
theorem dX10_addNode_17 : decode cX10_addNode 17 = .ok (.getfield 89, 3) := by decide +kernel
theorem dX10_addNode_20 : decode cX10_addNode 20 = .ok (.iload_n 1, 1) := by decide +kernel
theorem dX10_addNode_21 : decode cX10_addNode 21 = .ok (.iastore, 1) := by decide +kernel
theorem dX10_addNode_22 : decode cX10_addNode 22 = .ok (.aload_n 0, 1) := by decide +kernel
theorem dX10_addNode_23 : decode cX10_addNode 23 = .ok (.dup, 1) := by decide +kernel
theorem dX10_addNode_24 : decode cX10_addNode 24 = .ok (.getfield 89, 3) := by decide +kernel
theorem dX10_addNode_27 : decode cX10_addNode 27 = .ok (.iconst 1, 1) := by decide +kernel
theorem dX10_addNode_28 : decode cX10_addNode 28 = .ok (.iadd, 1) := by decide +kernel
theorem dX10_addNode_29 : decode cX10_addNode 29 = .ok (.putfield 89, 3) := by decide +kernel
theorem dX10_addNode_32 : decode cX10_addNode 32 = .ok (.iconst 1, 1) := by decide +kernel
theorem dX10_addNode_33 : decode cX10_addNode 33 = .ok (.ireturn, 1) := by decide +kernel
theorem dX10_insertNode_0 : decode cX10_insertNode 0 = .ok (.iload_n 1, 1) := by decide +kernel
theorem dX10_insertNode_1 : decode cX10_insertNode 1 = .ok (.ifCond .lt 21, 3) := by decide +kernel
theorem dX10_insertNode_4 : decode cX10_insertNode 4 = .ok (.iload_n 1, 1) := by decide +kernel
theorem dX10_insertNode_5 : decode cX10_insertNode 5 = .ok (.aload_n 0, 1) := by decide +kernel
theorem dX10_insertNode_6 : decode cX10_insertNode 6 = .ok (.getfield 89, 3) := by decide +kernel
theorem dX10_insertNode_9 : decode cX10_insertNode 9 = .ok (.if_icmp .gt 13, 3) := by decide +kernel
theorem dX10_insertNode_12 : decode cX10_insertNode 12 = .ok (.aload_n 0, 1) := by decide +kernel
theorem dX10_insertNode_13 : decode cX10_insertNode 13 = .ok (.getfield 89, 3) := by decide +kernel
theorem dX10_insertNode_16 : decode cX10_insertNode 16 = .ok (.sipush 3000, 3) := by decide +kernel
theorem dX10_insertNode_19 : decode cX10_insertNode 19 = .ok (.if_icmp .lt 5, 3) := by decide +kernel
theorem dX10_insertNode_22 : decode cX10_insertNode 22 = .ok (.iconst 0, 1) := by decide +kernel
theorem dX10_insertNode_23 : decode cX10_insertNode 23 = .ok (.ireturn, 1) := by decide +kernel
theorem dX10_insertNode_24 : decode cX10_insertNode 24 = .ok (.aload_n 0, 1) := by decide +kernel
theorem dX10_insertNode_25 : decode cX10_insertNode 25 = .ok (.getfield 89, 3) := by decide +kernel
theorem dX10_insertNode_28 : decode cX10_insertNode 28 = .ok (.istore_n 3, 1) := by decide +kernel
theorem dX10_insertNode_29 : decode cX10_insertNode 29 = .ok (.iload_n 3, 1) := by decide +kernel
theorem dX10_insertNode_30 : decode cX10_insertNode 30 = .ok (.iload_n 1, 1) := by decide +kernel
theorem dX10_insertNode_31 : decode cX10_insertNode 31 = .ok (.if_icmp .le 23, 3) := by decide +kernel
theorem dX10_insertNode_34 : decode cX10_insertNode 34 = .ok (.aload_n 0, 1) := by decide +kernel
theorem dX10_insertNode_35 : decode cX10_insertNode 35 = .ok (.getfield 21, 3) := by decide +kernel
theorem dX10_insertNode_38 : decode cX10_insertNode 38 = .ok (.iload_n 3, 1) := by decide +kernel
theorem dX10_insertNode_39 : decode cX10_insertNode 39 = .ok (.aload_n 0, 1) := by decide +kernel
theorem dX10_insertNode_40 : decode cX10_insertNode 40 = .ok (.getfield 21, 3) := by decide +kernel
theorem dX10_insertNode_43 : decode cX10_insertNode 43 = .ok (.iload_n 3, 1) := by decide +kernel
theorem dX10_insertNode_44 : decode cX10_insertNode 44 = .ok (.iconst 1, 1) := by decide +kernel
theorem dX10_insertNode_45 : decode cX10_insertNode 45 = .ok (.isub, 1) := by decide +kernel
theorem dX10_insertNode_46 : decode cX10_insertNode 46 = .ok (.iaload, 1) := by decide +kernel
theorem dX10_insertNode_47 : decode cX10_insertNode 47 = .ok (.iastore, 1) := by decide +kernel
theorem dX10_insertNode_48 : decode cX10_insertNode 48 = .ok (.iinc 3 (-1), 3) := by decide +kernel
theorem dX10_insertNode_51 : decode cX10_insertNode 51 = .ok (.goto (-22), 3) := by decide +kernel
theorem dX10_insertNode_54 : decode cX10_insertNode 54 = .ok (.aload_n 0, 1) := by decide +kernel
theorem dX10_insertNode_55 : decode cX10_insertNode 55 = .ok (.getfield 21, 3) := by decide +kernel
theorem dX10_insertNode_58 : decode cX10_insertNode 58 = .ok (.iload_n 1, 1) := by decide +kernel
theorem dX10_insertNode_59 : decode cX10_insertNode 59 = .ok (.iload_n 2, 1) := by decide +kernel
theorem dX10_insertNode_60 : decode cX10_insertNode 60 = .ok (.iastore, 1) := by decide +kernel
theorem dX10_insertNode_61 : decode cX10_insertNode 61 = .ok (.aload_n 0, 1) := by decide +kernel
theorem dX10_insertNode_62 : decode cX10_insertNode 62 = .ok (.dup, 1) := by decide +kernel
theorem dX10_insertNode_63 : decode cX10_insertNode 63 = .ok (.getfield 89, 3) := by decide +kernel
theorem dX10_insertNode_66 : decode cX10_insertNode 66 = .ok (.iconst 1, 1) := by decide +kernel
theorem dX10_insertNode_67 : decode cX10_insertNode 67 = .ok (.iadd, 1) := by decide +kernel
theorem dX10_insertNode_68 : decode cX10_insertNode 68 = .ok (.putfield 89, 3) := by decide +kernel
theorem dX10_insertNode_71 : decode cX10_insertNode 71 = .ok (.iconst 1, 1) := by decide +kernel
theorem dX10_insertNode_72 : decode cX10_insertNode 72 = .ok (.ireturn, 1) := by decide +kernel
end
section
theorem dX10_isChain_0 : decode cX10_isChain 0 = .ok (.iconst 0, 1) := by decide +kernel
theorem dX10_isChain_1 : decode cX10_isChain 1 = .ok (.istore_n 3, 1) := by decide +kernel
theorem dX10_isChain_2 : decode cX10_isChain 2 = .ok (.iload_n 3, 1) := by decide +kernel
theorem dX10_isChain_3 : decode cX10_isChain 3 = .ok (.sipush 1500, 3) := by decide +kernel
theorem dX10_isChain_6 : decode cX10_isChain 6 = .ok (.if_icmp .ge 98, 3) := by decide +kernel
theorem dX10_isChain_9 : decode cX10_isChain 9 = .ok (.iload_n 1, 1) := by decide +kernel
theorem dX10_isChain_10 : decode cX10_isChain 10 = .ok (.getstatic 122, 3) := by decide +kernel
theorem dX10_isChain_13 : decode cX10_isChain 13 = .ok (.arraylength, 1) := by decide +kernel
theorem dX10_isChain_14 : decode cX10_isChain 14 = .ok (.if_icmp .ge 90, 3) := by decide +kernel
theorem dX10_isChain_17 : decode cX10_isChain 17 = .ok (.aload_n 0, 1) := by decide +kernel
theorem dX10_isChain_18 : decode cX10_isChain 18 = .ok (.getfield 89, 3) := by decide +kernel
theorem dX10_isChain_21 : decode cX10_isChain 21 = .ok (.istore 4, 2) := by decide +kernel
theorem dX10_isChain_23 : decode cX10_isChain 23 = .ok (.iload_n 1, 1) := by decide +kernel
theorem dX10_isChain_24 : decode cX10_isChain 24 = .ok (.getstatic 122, 3) := by decide +kernel
theorem dX10_isChain_27 : decode cX10_isChain 27 = .ok (.arraylength, 1) := by decide +kernel
theorem dX10_isChain_28 : decode cX10_isChain 28 = .ok (.iconst 1, 1) := by decide +kernel
theorem dX10_isChain_29 : decode cX10_isChain 29 = .ok (.isub, 1) := by decide +kernel
theorem dX10_isChain_30 : decode cX10_isChain 30 = .ok (.if_icmp .ne 11, 3) := by decide +kernel
theorem dX10_isChain_33 : decode cX10_isChain 33 = .ok (.aload_n 0, 1) := by decide +kernel
theorem dX10_isChain_34 : decode cX10_isChain 34 = .ok (.iload_n 2, 1) := by decide +kernel
theorem dX10_isChain_35 : decode cX10_isChain 35 = .ok (.invokevirtual 125, 3) := by decide +kernel
theorem dX10_isChain_38 : decode cX10_isChain 38 = .ok (.goto 11, 3) := by decide +kernel
theorem dX10_isChain_41 : decode cX10_isChain 41 = .ok (.aload_n 0, 1) := by decide +kernel
theorem dX10_isChain_42 : decode cX10_isChain 42 = .ok (.iload_n 1, 1) := by decide +kernel
theorem dX10_isChain_43 : decode cX10_isChain 43 = .ok (.iconst 1, 1) := by decide +kernel
theorem dX10_isChain_44 : decode cX10_isChain 44 = .ok (.iadd, 1) := by decide +kernel
theorem dX10_isChain_45 : decode cX10_isChain 45 = .ok (.iload_n 2, 1) := by decide +kernel
theorem dX10_isChain_46 : decode cX10_isChain 46 = .ok (.invokevirtual 108, 3) := by decide +kernel
theorem dX10_isChain_49 : decode cX10_isChain 49 = .ok (.istore 5, 2) := by decide +kernel
theorem dX10_isChain_51 : decode cX10_isChain 51 = .ok (.iload 5, 2) := by decide +kernel
theorem dX10_isChain_53 : decode cX10_isChain 53 = .ok (.ifCond .ne 5, 3) := by decide +kernel
theorem dX10_isChain_56 : decode cX10_isChain 56 = .ok (.iconst 0, 1) := by decide +kernel
theorem dX10_isChain_57 : decode cX10_isChain 57 = .ok (.ireturn, 1) := by decide +kernel
theorem dX10_isChain_58 : decode cX10_isChain 58 = .ok (.aload_n 0, 1) := by decide +kernel
theorem dX10_isChain_59 : decode cX10_isChain 59 = .ok (.invokevirtual 115, 3) := by decide +kernel
theorem dX10_isChain_62 : decode cX10_isChain 62 = .ok (.getstatic 122, 3) := by decide +kernel
theorem dX10_isChain_65 : decode cX10_isChain 65 = .ok (.iload_n 1, 1) := by decide +kernel
theorem dX10_isChain_66 : decode cX10_isChain 66 = .ok (.iaload, 1) := by decide +kernel
theorem dX10_isChain_67 : decode cX10_isChain 67 = .ok (.if_icmp .eq 5, 3) := by decide +kernel
theorem dX10_isChain_70 : decode cX10_isChain 70 = .ok (.iconst 1, 1) := by decide +kernel
theorem dX10_isChain_71 : decode cX10_isChain 71 = .ok (.ireturn, 1) := by decide +kernel
theorem dX10_isChain_72 : decode cX10_isChain 72 = .ok (.aload_n 0, 1) := by decide +kernel
theorem dX10_isChain_73 : decode cX10_isChain 73 = .ok (.dup, 1) := by decide +kernel
theorem dX10_isChain_74 : decode cX10_isChain 74 = .ok (.getfield 83, 3) := by decide +kernel
theorem dX10_isChain_77 : decode cX10_isChain 77 = .ok (.iconst 1, 1) := by decide +kernel
theorem dX10_isChain_78 : decode cX10_isChain 78 = .ok (.iadd, 1) := by decide +kernel
theorem dX10_isChain_79 : decode cX10_isChain 79 = .ok (.putfield 83, 3) := by decide +kernel
theorem dX10_isChain_82 : decode cX10_isChain 82 = .ok (.aload_n 0, 1) := by decide +kernel
theorem dX10_isChain_83 : decode cX10_isChain 83 = .ok (.iload 4, 2) := by decide +kernel
theorem dX10_isChain_85 : decode cX10_isChain 85 = .ok (.getstatic 128, 3) := by decide +kernel
theorem dX10_isChain_88 : decode cX10_isChain 88 = .ok (.iload_n 1, 1) := by decide +kernel
theorem dX10_isChain_89 : decode cX10_isChain 89 = .ok (.iaload, 1) := by decide +kernel
theorem dX10_isChain_90 : decode cX10_isChain 90 = .ok (.invokevirtual 131, 3) := by decide +kernel
theorem dX10_isChain_93 : decode cX10_isChain 93 = .ok (.ifCond .ne 5, 3) := by decide +kernel
theorem dX10_isChain_96 : decode cX10_isChain 96 = .ok (.iconst 0, 1) := by decide +kernel
theorem dX10_isChain_97 : decode cX10_isChain 97 = .ok (.ireturn, 1) := by decide +kernel
theorem dX10_isChain_98 : decode cX10_isChain 98 = .ok (.iinc 3 1, 3) := by decide +kernel
theorem dX10_isChain_101 : decode cX10_isChain 101 = .ok (.goto (-99), 3) := by decide +kernel
theorem dX10_isChain_104 : decode cX10_isChain 104 = .ok (.iconst 0, 1) := by decide +kernel
theorem dX10_isChain_105 : decode cX10_isChain 105 = .ok (.ireturn, 1) := by decide +kernel
theorem dX10_isOne_0 : decode cX10_isOne 0 = .ok (.aload_n 0, 1) := by decide +kernel
theorem dX10_isOne_1 : decode cX10_isOne 1 = .ok (.invokevirtual 115, 3) := by decide +kernel
theorem dX10_isOne_4 : decode cX10_isOne 4 = .ok (.istore_n 2, 1) := by decide +kernel
theorem dX10_isOne_5 : decode cX10_isOne 5 = .ok (.aload_n 0, 1) := by decide +kernel
theorem dX10_isOne_6 : decode cX10_isOne 6 = .ok (.invokevirtual 119, 3) := by decide +kernel
theorem dX10_isOne_9 : decode cX10_isOne 9 = .ok (.istore_n 3, 1) := by decide +kernel
theorem dX10_isOne_10 : decode cX10_isOne 10 = .ok (.iload_n 2, 1) := by decide +kernel
theorem dX10_isOne_11 : decode cX10_isOne 11 = .ok (.bipush 126, 2) := by decide +kernel
theorem dX10_isOne_13 : decode cX10_isOne 13 = .ok (.if_icmp .ne 51, 3) := by decide +kernel
theorem dX10_isOne_16 : decode cX10_isOne 16 = .ok (.aload_n 0, 1) := by decide +kernel
theorem dX10_isOne_17 : decode cX10_isOne 17 = .ok (.dup, 1) := by decide +kernel
theorem dX10_isOne_18 : decode cX10_isOne 18 = .ok (.getfield 83, 3) := by decide +kernel
theorem dX10_isOne_21 : decode cX10_isOne 21 = .ok (.iconst 1, 1) := by decide +kernel
theorem dX10_isOne_22 : decode cX10_isOne 22 = .ok (.iadd, 1) := by decide +kernel
theorem dX10_isOne_23 : decode cX10_isOne 23 = .ok (.putfield 83, 3) := by decide +kernel
theorem dX10_isOne_26 : decode cX10_isOne 26 = .ok (.iload_n 1, 1) := by decide +kernel
theorem dX10_isOne_27 : decode cX10_isOne 27 = .ok (.bipush 12, 2) := by decide +kernel
theorem dX10_isOne_29 : decode cX10_isOne 29 = .ok (.if_icmp .ge 33, 3) := by decide +kernel
theorem dX10_isOne_32 : decode cX10_isOne 32 = .ok (.aload_n 0, 1) := by decide +kernel
theorem dX10_isOne_33 : decode cX10_isOne 33 = .ok (.iconst 1, 1) := by decide +kernel
theorem dX10_isOne_34 : decode cX10_isOne 34 = .ok (.invokevirtual 134, 3) := by decide +kernel
theorem dX10_isOne_37 : decode cX10_isOne 37 = .ok (.ifCond .eq 25, 3) := by decide +kernel
theorem dX10_isOne_40 : decode cX10_isOne 40 = .ok (.aload_n 0, 1) := by decide +kernel
theorem dX10_isOne_41 : decode cX10_isOne 41 = .ok (.iload_n 1, 1) := by decide +kernel
theorem dX10_isOne_42 : decode cX10_isOne 42 = .ok (.iconst 1, 1) := by decide +kernel
theorem dX10_isOne_43 : decode cX10_isOne 43 = .ok (.iadd, 1) := by decide +kernel
theorem dX10_isOne_44 : decode cX10_isOne 44 = .ok (.invokevirtual 125, 3) := by decide +kernel
theorem dX10_isOne_47 : decode cX10_isOne 47 = .ok (.ifCond .eq 15, 3) := by decide +kernel
theorem dX10_isOne_50 : decode cX10_isOne 50 = .ok (.aload_n 0, 1) := by decide +kernel
theorem dX10_isOne_51 : decode cX10_isOne 51 = .ok (.iconst 0, 1) := by decide +kernel
theorem dX10_isOne_52 : decode cX10_isOne 52 = .ok (.invokevirtual 134, 3) := by decide +kernel
theorem dX10_isOne_55 : decode cX10_isOne 55 = .ok (.ifCond .eq 7, 3) := by decide +kernel
theorem dX10_isOne_58 : decode cX10_isOne 58 = .ok (.iconst 1, 1) := by decide +kernel
theorem dX10_isOne_59 : decode cX10_isOne 59 = .ok (.goto 4, 3) := by decide +kernel
theorem dX10_isOne_62 : decode cX10_isOne 62 = .ok (.iconst 0, 1) := by decide +kernel
theorem dX10_isOne_63 : decode cX10_isOne 63 = .ok (.ireturn, 1) := by decide +kernel
theorem dX10_isOne_64 : decode cX10_isOne 64 = .ok (.iload_n 2, 1) := by decide +kernel
theorem dX10_isOne_65 : decode cX10_isOne 65 = .ok (.bipush 40, 2) := by decide +kernel
theorem dX10_isOne_67 : decode cX10_isOne 67 = .ok (.if_icmp .ne 45, 3) := by decide +kernel
theorem dX10_isOne_70 : decode cX10_isOne 70 = .ok (.aload_n 0, 1) := by decide +kernel
theorem dX10_isOne_71 : decode cX10_isOne 71 = .ok (.dup, 1) := by decide +kernel
theorem dX10_isOne_72 : decode cX10_isOne 72 = .ok (.getfield 83, 3) := by decide +kernel
theorem dX10_isOne_75 : decode cX10_isOne 75 = .ok (.iconst 1, 1) := by decide +kernel
theorem dX10_isOne_76 : decode cX10_isOne 76 = .ok (.iadd, 1) := by decide +kernel
theorem dX10_isOne_77 : decode cX10_isOne 77 = .ok (.putfield 83, 3) := by decide +kernel
theorem dX10_isOne_80 : decode cX10_isOne 80 = .ok (.iload_n 1, 1) := by decide +kernel
theorem dX10_isOne_81 : decode cX10_isOne 81 = .ok (.bipush 12, 2) := by decide +kernel
theorem dX10_isOne_83 : decode cX10_isOne 83 = .ok (.if_icmp .ge 27, 3) := by decide +kernel
theorem dX10_isOne_86 : decode cX10_isOne 86 = .ok (.aload_n 0, 1) := by decide +kernel
theorem dX10_isOne_87 : decode cX10_isOne 87 = .ok (.iconst 0, 1) := by decide +kernel
theorem dX10_isOne_88 : decode cX10_isOne 88 = .ok (.iload_n 1, 1) := by decide +kernel
theorem dX10_isOne_89 : decode cX10_isOne 89 = .ok (.iconst 1, 1) := by decide +kernel
theorem dX10_isOne_90 : decode cX10_isOne 90 = .ok (.iadd, 1) := by decide +kernel
theorem dX10_isOne_91 : decode cX10_isOne 91 = .ok (.invokevirtual 108, 3) := by decide +kernel
theorem dX10_isOne_94 : decode cX10_isOne 94 = .ok (.ifCond .eq 16, 3) := by decide +kernel
theorem dX10_isOne_97 : decode cX10_isOne 97 = .ok (.aload_n 0, 1) := by decide +kernel
theorem dX10_isOne_98 : decode cX10_isOne 98 = .ok (.bipush 41, 2) := by decide +kernel
theorem dX10_isOne_100 : decode cX10_isOne 100 = .ok (.invokevirtual 105, 3) := by decide +kernel
theorem dX10_isOne_103 : decode cX10_isOne 103 = .ok (.ifCond .eq 7, 3) := by decide +kernel
theorem dX10_isOne_106 : decode cX10_isOne 106 = .ok (.iconst 1, 1) := by decide +kernel
theorem dX10_isOne_107 : decode cX10_isOne 107 = .ok (.goto 4, 3) := by decide +kernel
theorem dX10_isOne_110 : decode cX10_isOne 110 = .ok (.iconst 0, 1) := by decide +kernel
theorem dX10_isOne_111 : decode cX10_isOne 111 = .ok (.ireturn, 1) := by decide +kernel
theorem dX10_isOne_112 : decode cX10_isOne 112 = .ok (.iload_n 3, 1) := by decide +kernel
theorem dX10_isOne_113 : decode cX10_isOne 113 = .ok (.ifCond .eq 8, 3) := by decide +kernel
theorem dX10_isOne_116 : decode cX10_isOne 116 = .ok (.iload_n 3, 1) := by decide +kernel
theorem dX10_isOne_117 : decode cX10_isOne 117 = .ok (.iconst 1, 1) := by decide +kernel
theorem dX10_isOne_118 : decode cX10_isOne 118 = .ok (.if_icmp .ne 94, 3) := by decide +kernel
theorem dX10_isOne_121 : decode cX10_isOne 121 = .ok (.aload_n 0, 1) := by decide +kernel
theorem dX10_isOne_122 : decode cX10_isOne 122 = .ok (.dup, 1) := by decide +kernel
theorem dX10_isOne_123 : decode cX10_isOne 123 = .ok (.getfield 83, 3) := by decide +kernel
theorem dX10_isOne_126 : decode cX10_isOne 126 = .ok (.iconst 1, 1) := by decide +kernel
theorem dX10_isOne_127 : decode cX10_isOne 127 = .ok (.iadd, 1) := by decide +kernel
theorem dX10_isOne_128 : decode cX10_isOne 128 = .ok (.putfield 83, 3) := by decide +kernel
theorem dX10_isOne_131 : decode cX10_isOne 131 = .ok (.aload_n 0, 1) := by decide +kernel
theorem dX10_isOne_132 : decode cX10_isOne 132 = .ok (.invokevirtual 119, 3) := by decide +kernel
theorem dX10_isOne_135 : decode cX10_isOne 135 = .ok (.istore 4, 2) := by decide +kernel
theorem dX10_isOne_137 : decode cX10_isOne 137 = .ok (.iload_n 3, 1) := by decide +kernel
theorem dX10_isOne_138 : decode cX10_isOne 138 = .ok (.ifCond .ne 7, 3) := by decide +kernel
theorem dX10_isOne_141 : decode cX10_isOne 141 = .ok (.iconst 5, 1) := by decide +kernel
theorem dX10_isOne_142 : decode cX10_isOne 142 = .ok (.goto 5, 3) := by decide +kernel
theorem dX10_isOne_145 : decode cX10_isOne 145 = .ok (.bipush 6, 2) := by decide +kernel
theorem dX10_isOne_147 : decode cX10_isOne 147 = .ok (.iload 4, 2) := by decide +kernel
theorem dX10_isOne_149 : decode cX10_isOne 149 = .ok (.bipush 15, 2) := by decide +kernel
theorem dX10_isOne_151 : decode cX10_isOne 151 = .ok (.ishl, 1) := by decide +kernel
theorem dX10_isOne_152 : decode cX10_isOne 152 = .ok (.ior, 1) := by decide +kernel
theorem dX10_isOne_153 : decode cX10_isOne 153 = .ok (.istore 5, 2) := by decide +kernel
theorem dX10_isOne_155 : decode cX10_isOne 155 = .ok (.aload_n 0, 1) := by decide +kernel
theorem dX10_isOne_156 : decode cX10_isOne 156 = .ok (.dup, 1) := by decide +kernel
theorem dX10_isOne_157 : decode cX10_isOne 157 = .ok (.getfield 83, 3) := by decide +kernel
theorem dX10_isOne_160 : decode cX10_isOne 160 = .ok (.iconst 1, 1) := by decide +kernel
theorem dX10_isOne_161 : decode cX10_isOne 161 = .ok (.iadd, 1) := by decide +kernel
theorem dX10_isOne_162 : decode cX10_isOne 162 = .ok (.putfield 83, 3) := by decide +kernel
theorem dX10_isOne_165 : decode cX10_isOne 165 = .ok (.iload_n 1, 1) := by decide +kernel
theorem dX10_isOne_166 : decode cX10_isOne 166 = .ok (.bipush 12, 2) := by decide +kernel
theorem dX10_isOne_168 : decode cX10_isOne 168 = .ok (.if_icmp .ge 42, 3) := by decide +kernel
theorem dX10_isOne_171 : decode cX10_isOne 171 = .ok (.iload 4, 2) := by decide +kernel
theorem dX10_isOne_173 : decode cX10_isOne 173 = .ok (.iconst 2, 1) := by decide +kernel
theorem dX10_isOne_174 : decode cX10_isOne 174 = .ok (.if_icmp .le 36, 3) := by decide +kernel
theorem dX10_isOne_177 : decode cX10_isOne 177 = .ok (.aload_n 0, 1) := by decide +kernel
theorem dX10_isOne_178 : decode cX10_isOne 178 = .ok (.bipush 44, 2) := by decide +kernel
theorem dX10_isOne_180 : decode cX10_isOne 180 = .ok (.invokevirtual 105, 3) := by decide +kernel
theorem dX10_isOne_183 : decode cX10_isOne 183 = .ok (.ifCond .eq 27, 3) := by decide +kernel
theorem dX10_isOne_186 : decode cX10_isOne 186 = .ok (.aload_n 0, 1) := by decide +kernel
theorem dX10_isOne_187 : decode cX10_isOne 187 = .ok (.iload 5, 2) := by decide +kernel
theorem dX10_isOne_189 : decode cX10_isOne 189 = .ok (.invokevirtual 134, 3) := by decide +kernel
theorem dX10_isOne_192 : decode cX10_isOne 192 = .ok (.ifCond .eq 18, 3) := by decide +kernel
theorem dX10_isOne_195 : decode cX10_isOne 195 = .ok (.aload_n 0, 1) := by decide +kernel
theorem dX10_isOne_196 : decode cX10_isOne 196 = .ok (.iconst 0, 1) := by decide +kernel
theorem dX10_isOne_197 : decode cX10_isOne 197 = .ok (.iload_n 1, 1) := by decide +kernel
theorem dX10_isOne_198 : decode cX10_isOne 198 = .ok (.iconst 1, 1) := by decide +kernel
theorem dX10_isOne_199 : decode cX10_isOne 199 = .ok (.iadd, 1) := by decide +kernel
theorem dX10_isOne_200 : decode cX10_isOne 200 = .ok (.invokevirtual 108, 3) := by decide +kernel
theorem dX10_isOne_203 : decode cX10_isOne 203 = .ok (.ifCond .eq 7, 3) := by decide +kernel
theorem dX10_isOne_206 : decode cX10_isOne 206 = .ok (.iconst 1, 1) := by decide +kernel
theorem dX10_isOne_207 : decode cX10_isOne 207 = .ok (.goto 4, 3) := by decide +kernel
theorem dX10_isOne_210 : decode cX10_isOne 210 = .ok (.iconst 0, 1) := by decide +kernel
theorem dX10_isOne_211 : decode cX10_isOne 211 = .ok (.ireturn, 1) := by decide +kernel
theorem dX10_isOne_212 : decode cX10_isOne 212 = .ok (.iload_n 3, 1) := by decide +kernel
theorem dX10_isOne_213 : decode cX10_isOne 213 = .ok (.iconst 2, 1) := by decide +kernel
theorem dX10_isOne_214 : decode cX10_isOne 214 = .ok (.if_icmp .ne 19, 3) := by decide +kernel
theorem dX10_isOne_217 : decode cX10_isOne 217 = .ok (.aload_n 0, 1) := by decide +kernel
theorem dX10_isOne_218 : decode cX10_isOne 218 = .ok (.dup, 1) := by decide +kernel
theorem dX10_isOne_219 : decode cX10_isOne 219 = .ok (.getfield 83, 3) := by decide +kernel
theorem dX10_isOne_222 : decode cX10_isOne 222 = .ok (.iconst 1, 1) := by decide +kernel
theorem dX10_isOne_223 : decode cX10_isOne 223 = .ok (.iadd, 1) := by decide +kernel
theorem dX10_isOne_224 : decode cX10_isOne 224 = .ok (.putfield 83, 3) := by decide +kernel
theorem dX10_isOne_227 : decode cX10_isOne 227 = .ok (.aload_n 0, 1) := by decide +kernel
theorem dX10_isOne_228 : decode cX10_isOne 228 = .ok (.iconst 0, 1) := by decide +kernel
theorem dX10_isOne_229 : decode cX10_isOne 229 = .ok (.invokevirtual 134, 3) := by decide +kernel
theorem dX10_isOne_232 : decode cX10_isOne 232 = .ok (.ireturn, 1) := by decide +kernel
theorem dX10_isOne_233 : decode cX10_isOne 233 = .ok (.aload_n 0, 1) := by decide +kernel
theorem dX10_isOne_234 : decode cX10_isOne 234 = .ok (.getfield 89, 3) := by decide +kernel
theorem dX10_isOne_237 : decode cX10_isOne 237 = .ok (.istore 4, 2) := by decide +kernel
theorem dX10_isOne_239 : decode cX10_isOne 239 = .ok (.aload_n 0, 1) := by decide +kernel
theorem dX10_isOne_240 : decode cX10_isOne 240 = .ok (.bipush 7, 2) := by decide +kernel
theorem dX10_isOne_242 : decode cX10_isOne 242 = .ok (.iload_n 1, 1) := by decide +kernel
theorem dX10_isOne_243 : decode cX10_isOne 243 = .ok (.invokevirtual 112, 3) := by decide +kernel
theorem dX10_isOne_246 : decode cX10_isOne 246 = .ok (.ifCond .ne 5, 3) := by decide +kernel
theorem dX10_isOne_249 : decode cX10_isOne 249 = .ok (.iconst 0, 1) := by decide +kernel
theorem dX10_isOne_250 : decode cX10_isOne 250 = .ok (.ireturn, 1) := by decide +kernel
theorem dX10_isOne_251 : decode cX10_isOne 251 = .ok (.aload_n 0, 1) := by decide +kernel
theorem dX10_isOne_252 : decode cX10_isOne 252 = .ok (.invokevirtual 115, 3) := by decide +kernel
theorem dX10_isOne_255 : decode cX10_isOne 255 = .ok (.bipush 61, 2) := by decide +kernel
theorem dX10_isOne_257 : decode cX10_isOne 257 = .ok (.if_icmp .eq 5, 3) := by decide +kernel
theorem dX10_isOne_260 : decode cX10_isOne 260 = .ok (.iconst 1, 1) := by decide +kernel
theorem dX10_isOne_261 : decode cX10_isOne 261 = .ok (.ireturn, 1) := by decide +kernel
theorem dX10_isOne_262 : decode cX10_isOne 262 = .ok (.aload_n 0, 1) := by decide +kernel
theorem dX10_isOne_263 : decode cX10_isOne 263 = .ok (.dup, 1) := by decide +kernel
theorem dX10_isOne_264 : decode cX10_isOne 264 = .ok (.getfield 83, 3) := by decide +kernel
theorem dX10_isOne_267 : decode cX10_isOne 267 = .ok (.iconst 1, 1) := by decide +kernel
theorem dX10_isOne_268 : decode cX10_isOne 268 = .ok (.iadd, 1) := by decide +kernel
theorem dX10_isOne_269 : decode cX10_isOne 269 = .ok (.putfield 83, 3) := by decide +kernel
theorem dX10_isOne_272 : decode cX10_isOne 272 = .ok (.aload_n 0, 1) := by decide +kernel
theorem dX10_isOne_273 : decode cX10_isOne 273 = .ok (.getfield 21, 3) := by decide +kernel
theorem dX10_isOne_276 : decode cX10_isOne 276 = .ok (.iload 4, 2) := by decide +kernel
theorem dX10_isOne_278 : decode cX10_isOne 278 = .ok (.dup2, 1) := by decide +kernel
theorem dX10_isOne_279 : decode cX10_isOne 279 = .ok (.iaload, 1) := by decide +kernel
theorem dX10_isOne_280 : decode cX10_isOne 280 = .ok (.iconst 1, 1) := by decide +kernel
theorem dX10_isOne_281 : decode cX10_isOne 281 = .ok (.iadd, 1) := by decide +kernel
theorem dX10_isOne_282 : decode cX10_isOne 282 = .ok (.iastore, 1) := by decide +kernel
theorem dX10_isOne_283 : decode cX10_isOne 283 = .ok (.aload_n 0, 1) := by decide +kernel
theorem dX10_isOne_284 : decode cX10_isOne 284 = .ok (.iload 4, 2) := by decide +kernel
theorem dX10_isOne_286 : decode cX10_isOne 286 = .ok (.iconst 4, 1) := by decide +kernel
theorem dX10_isOne_287 : decode cX10_isOne 287 = .ok (.invokevirtual 131, 3) := by decide +kernel
theorem dX10_isOne_290 : decode cX10_isOne 290 = .ok (.ifCond .eq 17, 3) := by decide +kernel
theorem dX10_isOne_293 : decode cX10_isOne 293 = .ok (.aload_n 0, 1) := by decide +kernel
theorem dX10_isOne_294 : decode cX10_isOne 294 = .ok (.bipush 8, 2) := by decide +kernel
theorem dX10_isOne_296 : decode cX10_isOne 296 = .ok (.iload_n 1, 1) := by decide +kernel
theorem dX10_isOne_297 : decode cX10_isOne 297 = .ok (.invokevirtual 112, 3) := by decide +kernel
theorem dX10_isOne_300 : decode cX10_isOne 300 = .ok (.ifCond .eq 7, 3) := by decide +kernel
theorem dX10_isOne_303 : decode cX10_isOne 303 = .ok (.iconst 1, 1) := by decide +kernel
theorem dX10_isOne_304 : decode cX10_isOne 304 = .ok (.goto 4, 3) := by decide +kernel
theorem dX10_isOne_307 : decode cX10_isOne 307 = .ok (.iconst 0, 1) := by decide +kernel
theorem dX10_isOne_308 : decode cX10_isOne 308 = .ok (.ireturn, 1) := by decide +kernel
theorem dX10_isTerm_0 : decode cX10_isTerm 0 = .ok (.aload_n 0, 1) := by decide +kernel
theorem dX10_isTerm_1 : decode cX10_isTerm 1 = .ok (.getfield 89, 3) := by decide +kernel
theorem dX10_isTerm_4 : decode cX10_isTerm 4 = .ok (.istore_n 3, 1) := by decide +kernel
theorem dX10_isTerm_5 : decode cX10_isTerm 5 = .ok (.aload_n 0, 1) := by decide +kernel
theorem dX10_isTerm_6 : decode cX10_isTerm 6 = .ok (.invokevirtual 119, 3) := by decide +kernel
theorem dX10_isTerm_9 : decode cX10_isTerm 9 = .ok (.istore 4, 2) := by decide +kernel
theorem dX10_isTerm_11 : decode cX10_isTerm 11 = .ok (.aload_n 0, 1) := by decide +kernel
theorem dX10_isTerm_12 : decode cX10_isTerm 12 = .ok (.dup, 1) := by decide +kernel
theorem dX10_isTerm_13 : decode cX10_isTerm 13 = .ok (.getfield 83, 3) := by decide +kernel
theorem dX10_isTerm_16 : decode cX10_isTerm 16 = .ok (.iconst 1, 1) := by decide +kernel
theorem dX10_isTerm_17 : decode cX10_isTerm 17 = .ok (.iadd, 1) := by decide +kernel
theorem dX10_isTerm_18 : decode cX10_isTerm 18 = .ok (.putfield 83, 3) := by decide +kernel
theorem dX10_isTerm_21 : decode cX10_isTerm 21 = .ok (.iload 4, 2) := by decide +kernel
theorem dX10_isTerm_23 : decode cX10_isTerm 23 = .ok (.iconst 2, 1) := by decide +kernel
theorem dX10_isTerm_24 : decode cX10_isTerm 24 = .ok (.if_icmp .le 17, 3) := by decide +kernel
theorem dX10_isTerm_27 : decode cX10_isTerm 27 = .ok (.aload_n 0, 1) := by decide +kernel
theorem dX10_isTerm_28 : decode cX10_isTerm 28 = .ok (.iload_n 1, 1) := by decide +kernel
theorem dX10_isTerm_29 : decode cX10_isTerm 29 = .ok (.iload 4, 2) := by decide +kernel
theorem dX10_isTerm_31 : decode cX10_isTerm 31 = .ok (.bipush 15, 2) := by decide +kernel
theorem dX10_isTerm_33 : decode cX10_isTerm 33 = .ok (.ishl, 1) := by decide +kernel
theorem dX10_isTerm_34 : decode cX10_isTerm 34 = .ok (.ior, 1) := by decide +kernel
theorem dX10_isTerm_35 : decode cX10_isTerm 35 = .ok (.invokevirtual 134, 3) := by decide +kernel
theorem dX10_isTerm_38 : decode cX10_isTerm 38 = .ok (.ifCond .ne 5, 3) := by decide +kernel
theorem dX10_isTerm_41 : decode cX10_isTerm 41 = .ok (.iconst 0, 1) := by decide +kernel
theorem dX10_isTerm_42 : decode cX10_isTerm 42 = .ok (.ireturn, 1) := by decide +kernel
theorem dX10_isTerm_43 : decode cX10_isTerm 43 = .ok (.aload_n 0, 1) := by decide +kernel
theorem dX10_isTerm_44 : decode cX10_isTerm 44 = .ok (.invokevirtual 115, 3) := by decide +kernel
theorem dX10_isTerm_47 : decode cX10_isTerm 47 = .ok (.bipush 40, 2) := by decide +kernel
theorem dX10_isTerm_49 : decode cX10_isTerm 49 = .ok (.if_icmp .eq 5, 3) := by decide +kernel
theorem dX10_isTerm_52 : decode cX10_isTerm 52 = .ok (.iconst 1, 1) := by decide +kernel
theorem dX10_isTerm_53 : decode cX10_isTerm 53 = .ok (.ireturn, 1) := by decide +kernel
theorem dX10_isTerm_54 : decode cX10_isTerm 54 = .ok (.iload_n 2, 1) := by decide +kernel
theorem dX10_isTerm_55 : decode cX10_isTerm 55 = .ok (.bipush 12, 2) := by decide +kernel
theorem dX10_isTerm_57 : decode cX10_isTerm 57 = .ok (.if_icmp .lt 5, 3) := by decide +kernel
theorem dX10_isTerm_60 : decode cX10_isTerm 60 = .ok (.iconst 0, 1) := by decide +kernel
theorem dX10_isTerm_61 : decode cX10_isTerm 61 = .ok (.ireturn, 1) := by decide +kernel
theorem dX10_isTerm_62 : decode cX10_isTerm 62 = .ok (.iconst 1, 1) := by decide +kernel
theorem dX10_isTerm_63 : decode cX10_isTerm 63 = .ok (.istore 5, 2) := by decide +kernel
theorem dX10_isTerm_65 : decode cX10_isTerm 65 = .ok (.iload 5, 2) := by decide +kernel
theorem dX10_isTerm_67 : decode cX10_isTerm 67 = .ok (.sipush 2047, 3) := by decide +kernel
theorem dX10_isTerm_70 : decode cX10_isTerm 70 = .ok (.if_icmp .gt 62, 3) := by decide +kernel
theorem dX10_isTerm_73 : decode cX10_isTerm 73 = .ok (.aload_n 0, 1) := by decide +kernel
theorem dX10_isTerm_74 : decode cX10_isTerm 74 = .ok (.dup, 1) := by decide +kernel
theorem dX10_isTerm_75 : decode cX10_isTerm 75 = .ok (.getfield 83, 3) := by decide +kernel
theorem dX10_isTerm_78 : decode cX10_isTerm 78 = .ok (.iconst 1, 1) := by decide +kernel
theorem dX10_isTerm_79 : decode cX10_isTerm 79 = .ok (.iadd, 1) := by decide +kernel
theorem dX10_isTerm_80 : decode cX10_isTerm 80 = .ok (.putfield 83, 3) := by decide +kernel
theorem dX10_isTerm_83 : decode cX10_isTerm 83 = .ok (.aload_n 0, 1) := by decide +kernel
theorem dX10_isTerm_84 : decode cX10_isTerm 84 = .ok (.bipush 8, 2) := by decide +kernel
theorem dX10_isTerm_86 : decode cX10_isTerm 86 = .ok (.iload_n 2, 1) := by decide +kernel
theorem dX10_isTerm_87 : decode cX10_isTerm 87 = .ok (.iconst 1, 1) := by decide +kernel
theorem dX10_isTerm_88 : decode cX10_isTerm 88 = .ok (.iadd, 1) := by decide +kernel
theorem dX10_isTerm_89 : decode cX10_isTerm 89 = .ok (.invokevirtual 112, 3) := by decide +kernel
theorem dX10_isTerm_92 : decode cX10_isTerm 92 = .ok (.ifCond .ne 5, 3) := by decide +kernel
theorem dX10_isTerm_95 : decode cX10_isTerm 95 = .ok (.iconst 0, 1) := by decide +kernel
theorem dX10_isTerm_96 : decode cX10_isTerm 96 = .ok (.ireturn, 1) := by decide +kernel
theorem dX10_isTerm_97 : decode cX10_isTerm 97 = .ok (.aload_n 0, 1) := by decide +kernel
theorem dX10_isTerm_98 : decode cX10_isTerm 98 = .ok (.invokevirtual 115, 3) := by decide +kernel
theorem dX10_isTerm_101 : decode cX10_isTerm 101 = .ok (.bipush 44, 2) := by decide +kernel
theorem dX10_isTerm_103 : decode cX10_isTerm 103 = .ok (.if_icmp .eq 23, 3) := by decide +kernel
theorem dX10_isTerm_106 : decode cX10_isTerm 106 = .ok (.aload_n 0, 1) := by decide +kernel
theorem dX10_isTerm_107 : decode cX10_isTerm 107 = .ok (.getfield 21, 3) := by decide +kernel
theorem dX10_isTerm_110 : decode cX10_isTerm 110 = .ok (.iload_n 3, 1) := by decide +kernel
theorem dX10_isTerm_111 : decode cX10_isTerm 111 = .ok (.dup2, 1) := by decide +kernel
theorem dX10_isTerm_112 : decode cX10_isTerm 112 = .ok (.iaload, 1) := by decide +kernel
theorem dX10_isTerm_113 : decode cX10_isTerm 113 = .ok (.iload 5, 2) := by decide +kernel
theorem dX10_isTerm_115 : decode cX10_isTerm 115 = .ok (.iconst 4, 1) := by decide +kernel
theorem dX10_isTerm_116 : decode cX10_isTerm 116 = .ok (.ishl, 1) := by decide +kernel
theorem dX10_isTerm_117 : decode cX10_isTerm 117 = .ok (.ior, 1) := by decide +kernel
theorem dX10_isTerm_118 : decode cX10_isTerm 118 = .ok (.iastore, 1) := by decide +kernel
theorem dX10_isTerm_119 : decode cX10_isTerm 119 = .ok (.aload_n 0, 1) := by decide +kernel
theorem dX10_isTerm_120 : decode cX10_isTerm 120 = .ok (.bipush 41, 2) := by decide +kernel
theorem dX10_isTerm_122 : decode cX10_isTerm 122 = .ok (.invokevirtual 105, 3) := by decide +kernel
theorem dX10_isTerm_125 : decode cX10_isTerm 125 = .ok (.ireturn, 1) := by decide +kernel
theorem dX10_isTerm_126 : decode cX10_isTerm 126 = .ok (.iinc 5 1, 3) := by decide +kernel
theorem dX10_isTerm_129 : decode cX10_isTerm 129 = .ok (.goto (-64), 3) := by decide +kernel
theorem dX10_isTerm_132 : decode cX10_isTerm 132 = .ok (.iconst 0, 1) := by decide +kernel
theorem dX10_isTerm_133 : decode cX10_isTerm 133 = .ok (.ireturn, 1) := by decide +kernel
end
section
theorem dX10_isSentence_0 : decode cX10_isSentence 0 = .ok (.aload_n 0, 1) := by decide +kernel
theorem dX10_isSentence_1 : decode cX10_isSentence 1 = .ok (.iconst 1, 1) := by decide +kernel
theorem dX10_isSentence_2 : decode cX10_isSentence 2 = .ok (.putfield 83, 3) := by decide +kernel
theorem dX10_isSentence_5 : decode cX10_isSentence 5 = .ok (.aload_n 0, 1) := by decide +kernel
theorem dX10_isSentence_6 : decode cX10_isSentence 6 = .ok (.iconst 0, 1) := by decide +kernel
theorem dX10_isSentence_7 : decode cX10_isSentence 7 = .ok (.putfield 86, 3) := by decide +kernel
theorem dX10_isSentence_10 : decode cX10_isSentence 10 = .ok (.aload_n 0, 1) := by decide +kernel
theorem dX10_isSentence_11 : decode cX10_isSentence 11 = .ok (.iconst 0, 1) := by decide +kernel
theorem dX10_isSentence_12 : decode cX10_isSentence 12 = .ok (.putfield 89, 3) := by decide +kernel
theorem dX10_isSentence_15 : decode cX10_isSentence 15 = .ok (.aload_n 0, 1) := by decide +kernel
theorem dX10_isSentence_16 : decode cX10_isSentence 16 = .ok (.iconst 0, 1) := by decide +kernel
theorem dX10_isSentence_17 : decode cX10_isSentence 17 = .ok (.putfield 92, 3) := by decide +kernel
theorem dX10_isSentence_20 : decode cX10_isSentence 20 = .ok (.aload_n 0, 1) := by decide +kernel
theorem dX10_isSentence_21 : decode cX10_isSentence 21 = .ok (.aload_n 0, 1) := by decide +kernel
theorem dX10_isSentence_22 : decode cX10_isSentence 22 = .ok (.getfield 28, 3) := by decide +kernel
theorem dX10_isSentence_25 : decode cX10_isSentence 25 = .ok (.ifCond .le 23, 3) := by decide +kernel
theorem dX10_isSentence_28 : decode cX10_isSentence 28 = .ok (.aload_n 0, 1) := by decide +kernel
theorem dX10_isSentence_29 : decode cX10_isSentence 29 = .ok (.getfield 9, 3) := by decide +kernel
theorem dX10_isSentence_32 : decode cX10_isSentence 32 = .ok (.iconst 0, 1) := by decide +kernel
theorem dX10_isSentence_33 : decode cX10_isSentence 33 = .ok (.iaload, 1) := by decide +kernel
theorem dX10_isSentence_34 : decode cX10_isSentence 34 = .ok (.bipush 110, 2) := by decide +kernel
theorem dX10_isSentence_36 : decode cX10_isSentence 36 = .ok (.if_icmp .ne 12, 3) := by decide +kernel
theorem dX10_isSentence_39 : decode cX10_isSentence 39 = .ok (.aload_n 0, 1) := by decide +kernel
theorem dX10_isSentence_40 : decode cX10_isSentence 40 = .ok (.getfield 15, 3) := by decide +kernel
theorem dX10_isSentence_43 : decode cX10_isSentence 43 = .ok (.iconst 0, 1) := by decide +kernel
theorem dX10_isSentence_44 : decode cX10_isSentence 44 = .ok (.iaload, 1) := by decide +kernel
theorem dX10_isSentence_45 : decode cX10_isSentence 45 = .ok (.goto 4, 3) := by decide +kernel
theorem dX10_isSentence_48 : decode cX10_isSentence 48 = .ok (.iconst (-1), 1) := by decide +kernel
theorem dX10_isSentence_49 : decode cX10_isSentence 49 = .ok (.putfield 95, 3) := by decide +kernel
theorem dX10_isSentence_52 : decode cX10_isSentence 52 = .ok (.aload_n 0, 1) := by decide +kernel
theorem dX10_isSentence_53 : decode cX10_isSentence 53 = .ok (.getfield 95, 3) := by decide +kernel
theorem dX10_isSentence_56 : decode cX10_isSentence 56 = .ok (.tableswitch 236 3 21 #[92, 92, 115, 115, 149, 149, 154, 154, 154, 149, 149, 149, 162, 154, 192, 203, 149, 154, 115], 92) := by decide +kernel
theorem dX10_isSentence_148 : decode cX10_isSentence 148 = .ok (.aload_n 0, 1) := by decide +kernel
theorem dX10_isSentence_149 : decode cX10_isSentence 149 = .ok (.invokevirtual 98, 3) := by decide +kernel
theorem dX10_isSentence_152 : decode cX10_isSentence 152 = .ok (.ifCond .eq 14, 3) := by decide +kernel
theorem dX10_isSentence_155 : decode cX10_isSentence 155 = .ok (.aload_n 0, 1) := by decide +kernel
theorem dX10_isSentence_156 : decode cX10_isSentence 156 = .ok (.invokevirtual 102, 3) := by decide +kernel
theorem dX10_isSentence_159 : decode cX10_isSentence 159 = .ok (.ifCond .eq 7, 3) := by decide +kernel
theorem dX10_isSentence_162 : decode cX10_isSentence 162 = .ok (.iconst 1, 1) := by decide +kernel
theorem dX10_isSentence_163 : decode cX10_isSentence 163 = .ok (.goto 4, 3) := by decide +kernel
theorem dX10_isSentence_166 : decode cX10_isSentence 166 = .ok (.iconst 0, 1) := by decide +kernel
theorem dX10_isSentence_167 : decode cX10_isSentence 167 = .ok (.istore_n 1, 1) := by decide +kernel
theorem dX10_isSentence_168 : decode cX10_isSentence 168 = .ok (.goto 126, 3) := by decide +kernel
theorem dX10_isSentence_171 : decode cX10_isSentence 171 = .ok (.aload_n 0, 1) := by decide +kernel
theorem dX10_isSentence_172 : decode cX10_isSentence 172 = .ok (.invokevirtual 98, 3) := by decide +kernel
theorem dX10_isSentence_175 : decode cX10_isSentence 175 = .ok (.ifCond .eq 25, 3) := by decide +kernel
theorem dX10_isSentence_178 : decode cX10_isSentence 178 = .ok (.aload_n 0, 1) := by decide +kernel
theorem dX10_isSentence_179 : decode cX10_isSentence 179 = .ok (.bipush 58, 2) := by decide +kernel
theorem dX10_isSentence_181 : decode cX10_isSentence 181 = .ok (.invokevirtual 105, 3) := by decide +kernel
theorem dX10_isSentence_184 : decode cX10_isSentence 184 = .ok (.ifCond .eq 16, 3) := by decide +kernel
theorem dX10_isSentence_187 : decode cX10_isSentence 187 = .ok (.aload_n 0, 1) := by decide +kernel
theorem dX10_isSentence_188 : decode cX10_isSentence 188 = .ok (.iconst 0, 1) := by decide +kernel
theorem dX10_isSentence_189 : decode cX10_isSentence 189 = .ok (.iconst 0, 1) := by decide +kernel
theorem dX10_isSentence_190 : decode cX10_isSentence 190 = .ok (.invokevirtual 108, 3) := by decide +kernel
theorem dX10_isSentence_193 : decode cX10_isSentence 193 = .ok (.ifCond .eq 7, 3) := by decide +kernel
theorem dX10_isSentence_196 : decode cX10_isSentence 196 = .ok (.iconst 1, 1) := by decide +kernel
theorem dX10_isSentence_197 : decode cX10_isSentence 197 = .ok (.goto 4, 3) := by decide +kernel
theorem dX10_isSentence_200 : decode cX10_isSentence 200 = .ok (.iconst 0, 1) := by decide +kernel
theorem dX10_isSentence_201 : decode cX10_isSentence 201 = .ok (.istore_n 1, 1) := by decide +kernel
theorem dX10_isSentence_202 : decode cX10_isSentence 202 = .ok (.goto 92, 3) := by decide +kernel
theorem dX10_isSentence_205 : decode cX10_isSentence 205 = .ok (.iconst 1, 1) := by decide +kernel
theorem dX10_isSentence_206 : decode cX10_isSentence 206 = .ok (.istore_n 1, 1) := by decide +kernel
theorem dX10_isSentence_207 : decode cX10_isSentence 207 = .ok (.goto 87, 3) := by decide +kernel
theorem dX10_isSentence_210 : decode cX10_isSentence 210 = .ok (.aload_n 0, 1) := by decide +kernel
theorem dX10_isSentence_211 : decode cX10_isSentence 211 = .ok (.invokevirtual 98, 3) := by decide +kernel
theorem dX10_isSentence_214 : decode cX10_isSentence 214 = .ok (.istore_n 1, 1) := by decide +kernel
theorem dX10_isSentence_215 : decode cX10_isSentence 215 = .ok (.goto 79, 3) := by decide +kernel
theorem dX10_isSentence_218 : decode cX10_isSentence 218 = .ok (.aload_n 0, 1) := by decide +kernel
theorem dX10_isSentence_219 : decode cX10_isSentence 219 = .ok (.invokevirtual 98, 3) := by decide +kernel
theorem dX10_isSentence_222 : decode cX10_isSentence 222 = .ok (.ifCond .eq 21, 3) := by decide +kernel
theorem dX10_isSentence_225 : decode cX10_isSentence 225 = .ok (.aload_n 0, 1) := by decide +kernel
theorem dX10_isSentence_226 : decode cX10_isSentence 226 = .ok (.invokevirtual 98, 3) := by decide +kernel
theorem dX10_isSentence_229 : decode cX10_isSentence 229 = .ok (.ifCond .eq 14, 3) := by decide +kernel
theorem dX10_isSentence_232 : decode cX10_isSentence 232 = .ok (.aload_n 0, 1) := by decide +kernel
theorem dX10_isSentence_233 : decode cX10_isSentence 233 = .ok (.invokevirtual 98, 3) := by decide +kernel
theorem dX10_isSentence_236 : decode cX10_isSentence 236 = .ok (.ifCond .eq 7, 3) := by decide +kernel
theorem dX10_isSentence_239 : decode cX10_isSentence 239 = .ok (.iconst 1, 1) := by decide +kernel
theorem dX10_isSentence_240 : decode cX10_isSentence 240 = .ok (.goto 4, 3) := by decide +kernel
theorem dX10_isSentence_243 : decode cX10_isSentence 243 = .ok (.iconst 0, 1) := by decide +kernel
theorem dX10_isSentence_244 : decode cX10_isSentence 244 = .ok (.istore_n 1, 1) := by decide +kernel
theorem dX10_isSentence_245 : decode cX10_isSentence 245 = .ok (.goto 49, 3) := by decide +kernel
theorem dX10_isSentence_248 : decode cX10_isSentence 248 = .ok (.aload_n 0, 1) := by decide +kernel
theorem dX10_isSentence_249 : decode cX10_isSentence 249 = .ok (.bipush 8, 2) := by decide +kernel
theorem dX10_isSentence_251 : decode cX10_isSentence 251 = .ok (.iconst 0, 1) := by decide +kernel
theorem dX10_isSentence_252 : decode cX10_isSentence 252 = .ok (.invokevirtual 112, 3) := by decide +kernel
theorem dX10_isSentence_255 : decode cX10_isSentence 255 = .ok (.istore_n 1, 1) := by decide +kernel
theorem dX10_isSentence_256 : decode cX10_isSentence 256 = .ok (.goto 38, 3) := by decide +kernel
theorem dX10_isSentence_259 : decode cX10_isSentence 259 = .ok (.aload_n 0, 1) := by decide +kernel
theorem dX10_isSentence_260 : decode cX10_isSentence 260 = .ok (.invokevirtual 98, 3) := by decide +kernel
theorem dX10_isSentence_263 : decode cX10_isSentence 263 = .ok (.ifCond .eq 24, 3) := by decide +kernel
theorem dX10_isSentence_266 : decode cX10_isSentence 266 = .ok (.aload_n 0, 1) := by decide +kernel
theorem dX10_isSentence_267 : decode cX10_isSentence 267 = .ok (.bipush 8, 2) := by decide +kernel
theorem dX10_isSentence_269 : decode cX10_isSentence 269 = .ok (.iconst 0, 1) := by decide +kernel
theorem dX10_isSentence_270 : decode cX10_isSentence 270 = .ok (.invokevirtual 112, 3) := by decide +kernel
theorem dX10_isSentence_273 : decode cX10_isSentence 273 = .ok (.ifCond .eq 14, 3) := by decide +kernel
theorem dX10_isSentence_276 : decode cX10_isSentence 276 = .ok (.aload_n 0, 1) := by decide +kernel
theorem dX10_isSentence_277 : decode cX10_isSentence 277 = .ok (.invokevirtual 98, 3) := by decide +kernel
theorem dX10_isSentence_280 : decode cX10_isSentence 280 = .ok (.ifCond .eq 7, 3) := by decide +kernel
theorem dX10_isSentence_283 : decode cX10_isSentence 283 = .ok (.iconst 1, 1) := by decide +kernel
theorem dX10_isSentence_284 : decode cX10_isSentence 284 = .ok (.goto 4, 3) := by decide +kernel
theorem dX10_isSentence_287 : decode cX10_isSentence 287 = .ok (.iconst 0, 1) := by decide +kernel
theorem dX10_isSentence_288 : decode cX10_isSentence 288 = .ok (.istore_n 1, 1) := by decide +kernel
theorem dX10_isSentence_289 : decode cX10_isSentence 289 = .ok (.goto 5, 3) := by decide +kernel
theorem dX10_isSentence_292 : decode cX10_isSentence 292 = .ok (.iconst 0, 1) := by decide +kernel
theorem dX10_isSentence_293 : decode cX10_isSentence 293 = .ok (.istore_n 1, 1) := by decide +kernel
theorem dX10_isSentence_294 : decode cX10_isSentence 294 = .ok (.iload_n 1, 1) := by decide +kernel
theorem dX10_isSentence_295 : decode cX10_isSentence 295 = .ok (.ifCond .eq 29, 3) := by decide +kernel
theorem dX10_isSentence_298 : decode cX10_isSentence 298 = .ok (.aload_n 0, 1) := by decide +kernel
theorem dX10_isSentence_299 : decode cX10_isSentence 299 = .ok (.getfield 83, 3) := by decide +kernel
theorem dX10_isSentence_302 : decode cX10_isSentence 302 = .ok (.aload_n 0, 1) := by decide +kernel
theorem dX10_isSentence_303 : decode cX10_isSentence 303 = .ok (.getfield 28, 3) := by decide +kernel
theorem dX10_isSentence_306 : decode cX10_isSentence 306 = .ok (.iconst 1, 1) := by decide +kernel
theorem dX10_isSentence_307 : decode cX10_isSentence 307 = .ok (.isub, 1) := by decide +kernel
theorem dX10_isSentence_308 : decode cX10_isSentence 308 = .ok (.if_icmp .ne 16, 3) := by decide +kernel
theorem dX10_isSentence_311 : decode cX10_isSentence 311 = .ok (.aload_n 0, 1) := by decide +kernel
theorem dX10_isSentence_312 : decode cX10_isSentence 312 = .ok (.invokevirtual 115, 3) := by decide +kernel
theorem dX10_isSentence_315 : decode cX10_isSentence 315 = .ok (.bipush 46, 2) := by decide +kernel
theorem dX10_isSentence_317 : decode cX10_isSentence 317 = .ok (.if_icmp .ne 7, 3) := by decide +kernel
theorem dX10_isSentence_320 : decode cX10_isSentence 320 = .ok (.iconst 1, 1) := by decide +kernel
theorem dX10_isSentence_321 : decode cX10_isSentence 321 = .ok (.goto 4, 3) := by decide +kernel
theorem dX10_isSentence_324 : decode cX10_isSentence 324 = .ok (.iconst 0, 1) := by decide +kernel
theorem dX10_isSentence_325 : decode cX10_isSentence 325 = .ok (.ireturn, 1) := by decide +kernel
end
section
theorem dX1_earlyFault_0 : decode cX1_earlyFault 0 = .ok (.aload_n 0, 1) := by decide +kernel
theorem dX1_earlyFault_1 : decode cX1_earlyFault 1 = .ok (.getfield 72, 3) := by decide +kernel
theorem dX1_earlyFault_4 : decode cX1_earlyFault 4 = .ok (.aload_n 0, 1) := by decide +kernel
theorem dX1_earlyFault_5 : decode cX1_earlyFault 5 = .ok (.getfield 69, 3) := by decide +kernel
theorem dX1_earlyFault_8 : decode cX1_earlyFault 8 = .ok (.if_icmp .ge 15, 3) := by decide +kernel
theorem dX1_earlyFault_11 : decode cX1_earlyFault 11 = .ok (.aload_n 0, 1) := by decide +kernel
theorem dX1_earlyFault_12 : decode cX1_earlyFault 12 = .ok (.getfield 27, 3) := by decide +kernel
theorem dX1_earlyFault_15 : decode cX1_earlyFault 15 = .ok (.aload_n 0, 1) := by decide +kernel
theorem dX1_earlyFault_16 : decode cX1_earlyFault 16 = .ok (.getfield 72, 3) := by decide +kernel
theorem dX1_earlyFault_19 : decode cX1_earlyFault 19 = .ok (.iaload, 1) := by decide +kernel
theorem dX1_earlyFault_20 : decode cX1_earlyFault 20 = .ok (.goto 4, 3) := by decide +kernel
theorem dX1_earlyFault_23 : decode cX1_earlyFault 23 = .ok (.iconst 0, 1) := by decide +kernel
theorem dX1_earlyFault_24 : decode cX1_earlyFault 24 = .ok (.ireturn, 1) := by decide +kernel
def EX1_earlyFault : List (Nat × Nat) := []
set_option maxHeartbeats 4000000 in
set_option maxRecDepth 20000 in
theorem uX1_earlyFault (l : Launch) (dC : Nat → ClassId) (dI : Nat → Nat → Nat) (ca : Nat → ClassId) (base : Nat) (B : jF) (hB : jBok B) (hAp : jAp (dC, dI)) (hB3 : ∀ n G a H, B 3 n G a H ↔ jOb (dC, dI) 3 17 (F3 n G) a H) (hB101 : ∀ n G a H, B 101 n G a H ↔ jAr (dC, dI) (ca 1) (fun j z => True) n a H) (G0 : jT) (H0 : Heap) (r0 : Nat) : Met l yX1_earlyFault (jw yX1_earlyFault cX1_earlyFault 1 (some .int)) ({ frames := 0, cells := 0, slots := 0, locals := 0 }) (va_Pc [.ref r0] (fun U => U.heap = H0 ∧ jX B base G0 [] H0 ∧ jG dC dI ca base U ∧ G0 r0 = some (3, 0) ∧ jP (dC, dI) G0 H0 [] ∧ True)) (va_Qi (S := Unit) (fun r u => (True)) (fun u t => jRt (dC, dI) B base G0 EX1_earlyFault H0 [] t.heap) (jA base)) 0 0 (jA base) := by
  refine Met.ofW (cc := cX1_earlyFault) (maxL := 1) (ret := (some .int)) (by decide) rfl ?_
  intro p e s m args below meth c s₁ Bd hml hv
  obtain ⟨rfl, hH0, hX, hG, hg_r0, hP0, hp0⟩ := hv
  have hK := hG.1
  have hx := Bd.exec
  have hb := Bd.bytes
  have hr := Bd.returns
  have hts := atoms_spec (ws := (jw yX1_earlyFault cX1_earlyFault 1 (some .int))) Bd.pre
  have htw : ∀ w ∈ jWl, w.before _ s = true := fun w h => hts w (List.mem_cons_of_mem _ h)
  have hown : s.vm.findClass RX1 = some m.cls := findClass_of_methodNamed Bd.named
  have hlocks := Bd.notSynchronized
  obtain ⟨Q, hQ⟩ : ∃ Q, Q = MQ below (va_Qi (S := Unit) (fun r u => (True)) (fun u t => jRt (dC, dI) B base G0 EX1_earlyFault H0 [] t.heap) (jA base)) ([.ref r0] : List Value).toArray s 0 0 (jA base) := ⟨_, rfl⟩
  rw [← hQ]
  have hl := lv_entry ([.ref r0]) (n := 1) (Nat.le_of_ble_eq_true rfl)
  rw [lg_entry_eq]
  generalize (lg_sl ([.ref r0]) ++ List.replicate (1 - (lg_sl ([.ref r0])).length) Slot.unset).toArray = ls at hl ⊢
  have hl : lv_has ls 1 [(0, .ref r0)] := hl
  generalize hR : (headSpec (jw yX1_earlyFault cX1_earlyFault 1 (some .int)) ({ frames := 0, cells := 0, slots := 0, locals := 0 })).room = R
  subst hH0
  have hh : jSt (dC, dI) B base G0 G0 EX1_earlyFault s.heap 0 0 [] [] [] s.heap [] := jSt.start hX hP0 jMc.nil jIs.nil
  clear hX hP0
  have hk0 : (0 : Int32).toInt = 0 := by decide
  have hk1 : (1 : Int32).toInt = 1 := by decide
  have hly_3_4 := htw (u_lay RX1 TX1 4) (jWc_wsX10 _ (u_in_lay (by decide)))
  have hly_3_8 := htw (u_lay RX1 TX1 8) (jWc_wsX10 _ (u_in_lay (by decide)))
  have hly_3_10 := htw (u_lay RX1 TX1 10) (jWc_wsX10 _ (u_in_lay (by decide)))
  have hlk_72 := (htw (.fieldLink RX1 72 "ProofServer$Document" "checked" "I") (jWr_42 _ (List.mem_of_getElem? (i := 20) rfl)))
  have hlk_69 := (htw (.fieldLink RX1 69 "ProofServer$Document" "sentences" "I") (jWr_29 _ (List.mem_of_getElem? (i := 14) rfl)))
  have hlk_27 := (htw (.fieldLink RX1 27 "ProofServer$Document" "early" "[I") (jWr_10 _ (List.mem_of_getElem? (i := 10) rfl)))
  refine lv_aload_n hx hb dX1_earlyFault_0 rfl (lv_at hl 0 rfl) ?_
  obtain ⟨v_1, hv_1, hh_2⟩ := hh.pin (C := RX1) (T := TX1) (N := 17) hB3 rfl (by decide) hg_r0 (i := 10) (by decide) rfl
  clear hh
  obtain ⟨checked_3, rfl, hlochecked_3, hhichecked_3⟩ := hv_1
  refine j7_read hx hb hown hK (C := RX1) (T := TX1) (N := 17) rfl hly_3_10 hlk_72 (hh_2.at 0 rfl) dX1_earlyFault_1 ?_
  refine lv_aload_n hx hb dX1_earlyFault_4 rfl (lv_at hl 0 rfl) ?_
  obtain ⟨v_4, hv_4, hh_5⟩ := hh_2.pin (C := RX1) (T := TX1) (N := 17) hB3 rfl (by decide) hg_r0 (i := 4) (by decide) rfl
  clear hh_2
  obtain ⟨sentences_6, rfl, hlosentences_6, hhisentences_6⟩ := hv_4
  refine j7_read hx hb hown hK (C := RX1) (T := TX1) (N := 17) rfl hly_3_4 hlk_69 (hh_5.at 0 rfl) dX1_earlyFault_5 ?_
  refine lv_icmp_ge (tgt := 23) hx hb dX1_earlyFault_8 (by decide) (fun c_7 => ?_) (fun c_7 => ?_)
  · skip
    have c_7' : checked_3.toInt ≥ sentences_6.toInt := jb_ge (rfl) (rfl) c_7
    refine lv_iconst (v := 0) hx hb dX1_earlyFault_23 (by decide) ?_
    rw [hQ]
    exact W.iret (v := 0) hx hb hr (fun t ht hW => ⟨⟨0, (), rfl, trivial, hh_5.rt (M1 := []) [] rfl ht⟩, by rw [ht]; try exact hh_5.1.1, fun q h9 hq => by rw [ht]; try exact hh_5.1.2.1 q h9 hq⟩) hh_5.1.2.2 dX1_earlyFault_24
  · skip
    have c_7' : checked_3.toInt < sentences_6.toInt := jb_ge_n (rfl) (rfl) c_7
    refine lv_aload_n hx hb dX1_earlyFault_11 rfl (lv_at hl 0 rfl) ?_
    obtain ⟨v_8, hv_8, hh_9⟩ := hh_5.pin (C := RX1) (T := TX1) (N := 17) hB3 rfl (by decide) hg_r0 (i := 8) (by decide) rfl
    clear hh_5
    obtain ⟨early_10, rfl, hg_early_10⟩ := hv_8
    refine j7_read hx hb hown hK (C := RX1) (T := TX1) (N := 17) rfl hly_3_8 hlk_27 (hh_9.at 0 rfl) dX1_earlyFault_12 ?_
    refine lv_aload_n hx hb dX1_earlyFault_15 rfl (lv_at hl 0 rfl) ?_
    refine j7_read hx hb hown hK (C := RX1) (T := TX1) (N := 17) rfl hly_3_10 hlk_72 (hh_9.at 2 rfl) dX1_earlyFault_16 ?_
    refine j7_iald hx hb hK hh_9 hB101 1 rfl (by decide) hg_early_10 (x := checked_3.toInt) (rfl) (by omega) dX1_earlyFault_19 (fun z_11 (hz_11 : True) => ?_)
    refine lv_goto (tgt := 24) hx hb dX1_earlyFault_20 (by decide) ?_
    rw [hQ]
    exact W.iret (v := z_11) hx hb hr (fun t ht hW => ⟨⟨z_11, (), rfl, trivial, hh_9.rt (M1 := []) [] rfl ht⟩, by rw [ht]; try exact hh_9.1.1, fun q h9 hq => by rw [ht]; try exact hh_9.1.2.1 q h9 hq⟩) hh_9.1.2.2 dX1_earlyFault_24
end
section
theorem dX5_leadingBound_0 : decode cX5_leadingBound 0 = .ok (.iconst 0, 1) := by decide +kernel
theorem dX5_leadingBound_1 : decode cX5_leadingBound 1 = .ok (.istore_n 1, 1) := by decide +kernel
theorem dX5_leadingBound_2 : decode cX5_leadingBound 2 = .ok (.iload_n 1, 1) := by decide +kernel
theorem dX5_leadingBound_3 : decode cX5_leadingBound 3 = .ok (.aload_n 0, 1) := by decide +kernel
theorem dX5_leadingBound_4 : decode cX5_leadingBound 4 = .ok (.arraylength, 1) := by decide +kernel
theorem dX5_leadingBound_5 : decode cX5_leadingBound 5 = .ok (.if_icmp .ge 25, 3) := by decide +kernel
theorem dX5_leadingBound_8 : decode cX5_leadingBound 8 = .ok (.iload_n 1, 1) := by decide +kernel
theorem dX5_leadingBound_9 : decode cX5_leadingBound 9 = .ok (.bipush 12, 2) := by decide +kernel
theorem dX5_leadingBound_11 : decode cX5_leadingBound 11 = .ok (.if_icmp .ge 19, 3) := by decide +kernel
theorem dX5_leadingBound_14 : decode cX5_leadingBound 14 = .ok (.aload_n 0, 1) := by decide +kernel
theorem dX5_leadingBound_15 : decode cX5_leadingBound 15 = .ok (.iload_n 1, 1) := by decide +kernel
theorem dX5_leadingBound_16 : decode cX5_leadingBound 16 = .ok (.iaload, 1) := by decide +kernel
theorem dX5_leadingBound_17 : decode cX5_leadingBound 17 = .ok (.bipush 15, 2) := by decide +kernel
theorem dX5_leadingBound_19 : decode cX5_leadingBound 19 = .ok (.iand, 1) := by decide +kernel
theorem dX5_leadingBound_20 : decode cX5_leadingBound 20 = .ok (.iconst 5, 1) := by decide +kernel
theorem dX5_leadingBound_21 : decode cX5_leadingBound 21 = .ok (.if_icmp .ne 9, 3) := by decide +kernel
theorem dX5_leadingBound_24 : decode cX5_leadingBound 24 = .ok (.iinc 1 1, 3) := by decide +kernel
theorem dX5_leadingBound_27 : decode cX5_leadingBound 27 = .ok (.goto (-25), 3) := by decide +kernel
theorem dX5_leadingBound_30 : decode cX5_leadingBound 30 = .ok (.iload_n 1, 1) := by decide +kernel
theorem dX5_leadingBound_31 : decode cX5_leadingBound 31 = .ok (.ireturn, 1) := by decide +kernel
theorem dX5_areSame_0 : decode cX5_areSame 0 = .ok (.aload_n 0, 1) := by decide +kernel
theorem dX5_areSame_1 : decode cX5_areSame 1 = .ok (.arraylength, 1) := by decide +kernel
theorem dX5_areSame_2 : decode cX5_areSame 2 = .ok (.aload_n 1, 1) := by decide +kernel
theorem dX5_areSame_3 : decode cX5_areSame 3 = .ok (.arraylength, 1) := by decide +kernel
theorem dX5_areSame_4 : decode cX5_areSame 4 = .ok (.if_icmp .eq 5, 3) := by decide +kernel
theorem dX5_areSame_7 : decode cX5_areSame 7 = .ok (.iconst 0, 1) := by decide +kernel
theorem dX5_areSame_8 : decode cX5_areSame 8 = .ok (.ireturn, 1) := by decide +kernel
theorem dX5_areSame_9 : decode cX5_areSame 9 = .ok (.iconst 0, 1) := by decide +kernel
theorem dX5_areSame_10 : decode cX5_areSame 10 = .ok (.istore_n 2, 1) := by decide +kernel
theorem dX5_areSame_11 : decode cX5_areSame 11 = .ok (.iload_n 2, 1) := by decide +kernel
theorem dX5_areSame_12 : decode cX5_areSame 12 = .ok (.aload_n 0, 1) := by decide +kernel
theorem dX5_areSame_13 : decode cX5_areSame 13 = .ok (.arraylength, 1) := by decide +kernel
theorem dX5_areSame_14 : decode cX5_areSame 14 = .ok (.if_icmp .ge 23, 3) := by decide +kernel
theorem dX5_areSame_17 : decode cX5_areSame 17 = .ok (.aload_n 0, 1) := by decide +kernel
theorem dX5_areSame_18 : decode cX5_areSame 18 = .ok (.iload_n 2, 1) := by decide +kernel
theorem dX5_areSame_19 : decode cX5_areSame 19 = .ok (.iaload, 1) := by decide +kernel
theorem dX5_areSame_20 : decode cX5_areSame 20 = .ok (.aload_n 1, 1) := by decide +kernel
theorem dX5_areSame_21 : decode cX5_areSame 21 = .ok (.iload_n 2, 1) := by decide +kernel
theorem dX5_areSame_22 : decode cX5_areSame 22 = .ok (.iaload, 1) := by decide +kernel
theorem dX5_areSame_23 : decode cX5_areSame 23 = .ok (.invokestatic 291, 3) := by decide +kernel
theorem dX5_areSame_26 : decode cX5_areSame 26 = .ok (.ifCond .ne 5, 3) := by decide +kernel
theorem dX5_areSame_29 : decode cX5_areSame 29 = .ok (.iconst 0, 1) := by decide +kernel
theorem dX5_areSame_30 : decode cX5_areSame 30 = .ok (.ireturn, 1) := by decide +kernel
theorem dX5_areSame_31 : decode cX5_areSame 31 = .ok (.iinc 2 1, 3) := by decide +kernel
theorem dX5_areSame_34 : decode cX5_areSame 34 = .ok (.goto (-23), 3) := by decide +kernel
theorem dX5_areSame_37 : decode cX5_areSame 37 = .ok (.iconst 1, 1) := by decide +kernel
theorem dX5_areSame_38 : decode cX5_areSame 38 = .ok (.ireturn, 1) := by decide +kernel
theorem dX5_standsAt_0 : decode cX5_standsAt 0 = .ok (.iload_n 1, 1) := by decide +kernel
theorem dX5_standsAt_1 : decode cX5_standsAt 1 = .ok (.ifCond .lt 25, 3) := by decide +kernel
theorem dX5_standsAt_4 : decode cX5_standsAt 4 = .ok (.iload_n 3, 1) := by decide +kernel
theorem dX5_standsAt_5 : decode cX5_standsAt 5 = .ok (.ifCond .lt 21, 3) := by decide +kernel
theorem dX5_standsAt_8 : decode cX5_standsAt 8 = .ok (.iload_n 1, 1) := by decide +kernel
theorem dX5_standsAt_9 : decode cX5_standsAt 9 = .ok (.iload 4, 2) := by decide +kernel
theorem dX5_standsAt_11 : decode cX5_standsAt 11 = .ok (.iadd, 1) := by decide +kernel
theorem dX5_standsAt_12 : decode cX5_standsAt 12 = .ok (.aload_n 0, 1) := by decide +kernel
theorem dX5_standsAt_13 : decode cX5_standsAt 13 = .ok (.arraylength, 1) := by decide +kernel
theorem dX5_standsAt_14 : decode cX5_standsAt 14 = .ok (.if_icmp .gt 12, 3) := by decide +kernel
theorem dX5_standsAt_17 : decode cX5_standsAt 17 = .ok (.iload_n 3, 1) := by decide +kernel
theorem dX5_standsAt_18 : decode cX5_standsAt 18 = .ok (.iload 4, 2) := by decide +kernel
theorem dX5_standsAt_20 : decode cX5_standsAt 20 = .ok (.iadd, 1) := by decide +kernel
theorem dX5_standsAt_21 : decode cX5_standsAt 21 = .ok (.aload_n 2, 1) := by decide +kernel
theorem dX5_standsAt_22 : decode cX5_standsAt 22 = .ok (.arraylength, 1) := by decide +kernel
theorem dX5_standsAt_23 : decode cX5_standsAt 23 = .ok (.if_icmp .le 5, 3) := by decide +kernel
theorem dX5_standsAt_26 : decode cX5_standsAt 26 = .ok (.iconst 0, 1) := by decide +kernel
theorem dX5_standsAt_27 : decode cX5_standsAt 27 = .ok (.ireturn, 1) := by decide +kernel
theorem dX5_standsAt_28 : decode cX5_standsAt 28 = .ok (.iconst 0, 1) := by decide +kernel
theorem dX5_standsAt_29 : decode cX5_standsAt 29 = .ok (.istore 5, 2) := by decide +kernel
theorem dX5_standsAt_31 : decode cX5_standsAt 31 = .ok (.iload 5, 2) := by decide +kernel
theorem dX5_standsAt_33 : decode cX5_standsAt 33 = .ok (.iload 4, 2) := by decide +kernel
theorem dX5_standsAt_35 : decode cX5_standsAt 35 = .ok (.if_icmp .ge 26, 3) := by decide +kernel
theorem dX5_standsAt_38 : decode cX5_standsAt 38 = .ok (.aload_n 0, 1) := by decide +kernel
theorem dX5_standsAt_39 : decode cX5_standsAt 39 = .ok (.iload_n 1, 1) := by decide +kernel
theorem dX5_standsAt_40 : decode cX5_standsAt 40 = .ok (.iload 5, 2) := by decide +kernel
theorem dX5_standsAt_42 : decode cX5_standsAt 42 = .ok (.iadd, 1) := by decide +kernel
theorem dX5_standsAt_43 : decode cX5_standsAt 43 = .ok (.iaload, 1) := by decide +kernel
theorem dX5_standsAt_44 : decode cX5_standsAt 44 = .ok (.aload_n 2, 1) := by decide +kernel
theorem dX5_standsAt_45 : decode cX5_standsAt 45 = .ok (.iload_n 3, 1) := by decide +kernel
theorem dX5_standsAt_46 : decode cX5_standsAt 46 = .ok (.iload 5, 2) := by decide +kernel
theorem dX5_standsAt_48 : decode cX5_standsAt 48 = .ok (.iadd, 1) := by decide +kernel
theorem dX5_standsAt_49 : decode cX5_standsAt 49 = .ok (.iaload, 1) := by decide +kernel
theorem dX5_standsAt_50 : decode cX5_standsAt 50 = .ok (.if_icmp .eq 5, 3) := by decide +kernel
theorem dX5_standsAt_53 : decode cX5_standsAt 53 = .ok (.iconst 0, 1) := by decide +kernel
theorem dX5_standsAt_54 : decode cX5_standsAt 54 = .ok (.ireturn, 1) := by decide +kernel
theorem dX5_standsAt_55 : decode cX5_standsAt 55 = .ok (.iinc 5 1, 3) := by decide +kernel
theorem dX5_standsAt_58 : decode cX5_standsAt 58 = .ok (.goto (-27), 3) := by decide +kernel
theorem dX5_standsAt_61 : decode cX5_standsAt 61 = .ok (.iconst 1, 1) := by decide +kernel
theorem dX5_standsAt_62 : decode cX5_standsAt 62 = .ok (.ireturn, 1) := by decide +kernel
end
section
def EX1_isSentence : List (Nat × Nat) := []
set_option maxHeartbeats 4000000 in
set_option maxRecDepth 20000 in
theorem uX1_isSentence (l : Launch) (dC : Nat → ClassId) (dI : Nat → Nat → Nat) (ca : Nat → ClassId) (base : Nat) (B : jF) (hB : jBok B) (hAp : jAp (dC, dI)) (hB3 : ∀ n G a H, B 3 n G a H ↔ jOb (dC, dI) 3 17 (F3 n G) a H) (hB101 : ∀ n G a H, B 101 n G a H ↔ jAr (dC, dI) (ca 1) (fun j z => True) n a H) (hB171 : ∀ n G a H, B 171 n G a H ↔ jAr (dC, dI) (ca 1) (fun j z => 0 ≤ z.toInt ∧ z.toInt ≤ 1500) n a H) (hB172 : ∀ n G a H, B 172 n G a H ↔ jAr (dC, dI) (ca 1) (fun j z => 0 ≤ z.toInt ∧ z.toInt ≤ 1500) n a H) (G0 : jT) (H0 : Heap) (r0 : Nat) (a1 : Int32) (r2 : Nat) (n2 : Nat) : Met l yX1_isSentence (jw yX1_isSentence cX1_isSentence 4 (some .boolean)) ({ frames := 0, cells := 0, slots := 0, locals := 0 }) (va_Pc [.ref r0, .int a1, .ref r2] (fun U => U.heap = H0 ∧ jX B base G0 [] H0 ∧ jG dC dI ca base U ∧ G0 r2 = some (101, n2) ∧ G0 r0 = some (3, 0) ∧ jP (dC, dI) G0 H0 [] ∧ n2 ≤ 3000)) (va_Qi (S := Unit) (fun r u => (r = 0 ∨ r = 1) ∧ (True)) (fun u t => jRt (dC, dI) B base G0 EX1_isSentence H0 [] t.heap) (jA base)) 0 0 (jA base) := by
  refine Met.ofW (cc := cX1_isSentence) (maxL := 4) (ret := (some .boolean)) (by decide) rfl ?_
  intro p e s m args below meth c s₁ Bd hml hv
  obtain ⟨rfl, hH0, hX, hG, hg_r2, hg_r0, hP0, hp0⟩ := hv
  have hK := hG.1
  have hx := Bd.exec
  have hb := Bd.bytes
  have hr := Bd.returns
  have hts := atoms_spec (ws := (jw yX1_isSentence cX1_isSentence 4 (some .boolean))) Bd.pre
  have htw : ∀ w ∈ jWl, w.before _ s = true := fun w h => hts w (List.mem_cons_of_mem _ h)
  have hown : s.vm.findClass RX1 = some m.cls := findClass_of_methodNamed Bd.named
  have hlocks := Bd.notSynchronized
  obtain ⟨Q, hQ⟩ : ∃ Q, Q = MQ below (va_Qi (S := Unit) (fun r u => (r = 0 ∨ r = 1) ∧ (True)) (fun u t => jRt (dC, dI) B base G0 EX1_isSentence H0 [] t.heap) (jA base)) ([.ref r0, .int a1, .ref r2] : List Value).toArray s 0 0 (jA base) := ⟨_, rfl⟩
  rw [← hQ]
  have hl := lv_entry ([.ref r0, .int a1, .ref r2]) (n := 4) (Nat.le_of_ble_eq_true rfl)
  rw [lg_entry_eq]
  generalize (lg_sl ([.ref r0, .int a1, .ref r2]) ++ List.replicate (4 - (lg_sl ([.ref r0, .int a1, .ref r2])).length) Slot.unset).toArray = ls at hl ⊢
  have hl : lv_has ls 4 [(0, .ref r0), (1, .int a1), (2, .ref r2)] := hl
  generalize hR : (headSpec (jw yX1_isSentence cX1_isSentence 4 (some .boolean)) ({ frames := 0, cells := 0, slots := 0, locals := 0 })).room = R
  subst hH0
  have hh : jSt (dC, dI) B base G0 G0 EX1_isSentence s.heap 0 0 [] [] [] s.heap [] := jSt.start hX hP0 jMc.nil jIs.nil
  clear hX hP0
  have hk0 : (0 : Int32).toInt = 0 := by decide
  have hk1 : (1 : Int32).toInt = 1 := by decide
  have hly_3_2 := htw (u_lay RX1 TX1 2) (jWc_wsX10 _ (u_in_lay (by decide)))
  have hly_3_4 := htw (u_lay RX1 TX1 4) (jWc_wsX10 _ (u_in_lay (by decide)))
  have hly_3_5 := htw (u_lay RX1 TX1 5) (jWc_wsX10 _ (u_in_lay (by decide)))
  have hly_3_6 := htw (u_lay RX1 TX1 6) (jWc_wsX10 _ (u_in_lay (by decide)))
  have hlk_69 := (htw (.fieldLink RX1 69 "ProofServer$Document" "sentences" "I") (jWr_29 _ (List.mem_of_getElem? (i := 14) rfl)))
  have hlk_21 := (htw (.fieldLink RX1 21 "ProofServer$Document" "ends" "[I") (jWr_10 _ (List.mem_of_getElem? (i := 8) rfl)))
  have hlk_18 := (htw (.fieldLink RX1 18 "ProofServer$Document" "starts" "[I") (jWr_10 _ (List.mem_of_getElem? (i := 7) rfl)))
  have hlk_15 := (htw (.fieldLink RX1 15 "ProofServer$Document" "text" "[I") (jWr_10 _ (List.mem_of_getElem? (i := 6) rfl)))
  have hrg_a1 := jb_rng a1
  refine lv_iload_n hx hb dX1_isSentence_0 rfl (lv_at hl 1 rfl) ?_
  refine lv_if_lt (tgt := 30) hx hb dX1_isSentence_1 (by decide) (fun c_1 => ?_) (fun c_1 => ?_)
  · skip
    have c_1' : a1.toInt < 0 := jb_lt (rfl) ((by decide)) c_1
    refine lv_iconst (v := 0) hx hb dX1_isSentence_30 (by decide) ?_
    rw [hQ]
    exact W.zret (v := 0) hx hb hr (jb_nz (Or.inl rfl)) (fun t ht hW => ⟨⟨0, (), rfl, ⟨(Or.inl rfl), trivial⟩, hh.rt (M1 := []) [] rfl ht⟩, by rw [ht]; try exact hh.1.1, fun q h9 hq => by rw [ht]; try exact hh.1.2.1 q h9 hq⟩) hh.1.2.2 dX1_isSentence_31
  · skip
    have c_1' : a1.toInt ≥ 0 := jb_lt_n (rfl) ((by decide)) c_1
    refine lv_iload_n hx hb dX1_isSentence_4 rfl (lv_at hl 1 rfl) ?_
    refine lv_aload_n hx hb dX1_isSentence_5 rfl (lv_at hl 0 rfl) ?_
    obtain ⟨v_2, hv_2, hh_3⟩ := hh.pin (C := RX1) (T := TX1) (N := 17) hB3 rfl (by decide) hg_r0 (i := 4) (by decide) rfl
    clear hh
    obtain ⟨sentences_4, rfl, hlosentences_4, hhisentences_4⟩ := hv_2
    refine j7_read hx hb hown hK (C := RX1) (T := TX1) (N := 17) rfl hly_3_4 hlk_69 (hh_3.at 0 rfl) dX1_isSentence_6 ?_
    refine lv_icmp_ge (tgt := 30) hx hb dX1_isSentence_9 (by decide) (fun c_5 => ?_) (fun c_5 => ?_)
    · skip
      have c_5' : a1.toInt ≥ sentences_4.toInt := jb_ge (rfl) (rfl) c_5
      refine lv_iconst (v := 0) hx hb dX1_isSentence_30 (by decide) ?_
      rw [hQ]
      exact W.zret (v := 0) hx hb hr (jb_nz (Or.inl rfl)) (fun t ht hW => ⟨⟨0, (), rfl, ⟨(Or.inl rfl), trivial⟩, hh_3.rt (M1 := []) [] rfl ht⟩, by rw [ht]; try exact hh_3.1.1, fun q h9 hq => by rw [ht]; try exact hh_3.1.2.1 q h9 hq⟩) hh_3.1.2.2 dX1_isSentence_31
    · skip
      have c_5' : a1.toInt < sentences_4.toInt := jb_ge_n (rfl) (rfl) c_5
      obtain ⟨v_6, hv_6, hh_7⟩ := hh_3.pin (C := RX1) (T := TX1) (N := 17) hB3 rfl (by decide) hg_r0 (i := 5) (by decide) rfl
      obtain ⟨starts_8, rfl, hg_starts_8⟩ := hv_6
      obtain ⟨f_starts_9, hh_9⟩ := hh_7.cpin hB171 (by decide) (by decide) hg_starts_8
      clear hh_7
      obtain ⟨v_10, hv_10, hh_11⟩ := hh_9.pin (C := RX1) (T := TX1) (N := 17) hB3 rfl (by decide) hg_r0 (i := 6) (by decide) rfl
      obtain ⟨ends_12, rfl, hg_ends_12⟩ := hv_10
      obtain ⟨f_ends_13, hh_13⟩ := hh_11.cpin hB172 (by decide) (by decide) hg_ends_12
      clear hh_11
      refine lv_aload_n hx hb dX1_isSentence_12 rfl (lv_at hl 0 rfl) ?_
      refine j7_read hx hb hown hK (C := RX1) (T := TX1) (N := 17) rfl hly_3_6 hlk_21 (hh_13.at 0 rfl) dX1_isSentence_13 ?_
      refine lv_iload_n hx hb dX1_isSentence_16 rfl (lv_at hl 1 rfl) ?_
      refine j7_ialdM hx hb hK hh_13 hB172 1 rfl (by decide) hg_ends_12 (x := a1.toInt) (rfl) (by omega) (j := 0) rfl dX1_isSentence_17 (fun z_14 ez_14 (hz_14 : 0 ≤ z_14.toInt ∧ z_14.toInt ≤ 1500) => ?_)
      have hqz_14 : z_14.toInt = jSo f_ends_13 (a1.toInt) := by unfold jSo; rw [ez_14]
      refine lv_aload_n hx hb dX1_isSentence_18 rfl (lv_at hl 0 rfl) ?_
      refine j7_read hx hb hown hK (C := RX1) (T := TX1) (N := 17) rfl hly_3_5 hlk_18 (hh_13.at 1 rfl) dX1_isSentence_19 ?_
      refine lv_iload_n hx hb dX1_isSentence_22 rfl (lv_at hl 1 rfl) ?_
      refine j7_ialdM hx hb hK hh_13 hB171 1 rfl (by decide) hg_starts_8 (x := a1.toInt) (rfl) (by omega) (j := 1) rfl dX1_isSentence_23 (fun z_15 ez_15 (hz_15 : 0 ≤ z_15.toInt ∧ z_15.toInt ≤ 1500) => ?_)
      have hqz_15 : z_15.toInt = jSo f_starts_9 (a1.toInt) := by unfold jSo; rw [ez_15]
      refine lv_isub hx hb dX1_isSentence_24 ?_
      refine lv_topi (fun z_16 ez_16 => ?_)
      have hz_16 : z_16.toInt = z_14.toInt - z_15.toInt := by rw [ez_16]; exact jb_isub2 (rfl) (rfl) (by omega)
      refine lv_aload_n hx hb dX1_isSentence_25 rfl (lv_at hl 2 rfl) ?_
      refine j7_len hx hb hK hh_13 hB101 1 rfl (by decide) hg_r2 (by omega) dX1_isSentence_26 (fun z_17 hz_17 => ?_)
      refine lv_icmp_eq (tgt := 32) hx hb dX1_isSentence_27 (by decide) (fun c_18 => ?_) (fun c_18 => ?_)
      · skip
        have c_18' : z_16.toInt = z_17.toInt := jb_eq (rfl) (rfl) c_18
        refine lv_iconst (v := 0) hx hb dX1_isSentence_32 (by decide) ?_
        refine lv_istore_n (lv' := [(3, .int 0), (0, .ref r0), (1, .int a1), (2, .ref r2)]) hx hb dX1_isSentence_33 rfl hl (by decide) rfl (fun ls hl => ?_)
        have L34 : ∀ (N : Nat) (v3_19 : Int32) (H_19 : Heap) (locs_19 : List Loc), jSt (dC, dI) B base G0 G0 EX1_isSentence s.heap 0 0 [(r0, 3, 6, .ref ends_12), (r0, 3, 5, .ref starts_8), (r0, 3, 4, .int sentences_4)] [(ends_12, 172, 40, ca 1, f_ends_13), (starts_8, 171, 40, ca 1, f_starts_9)] [] H_19 locs_19 → (0 ≤ v3_19.toInt ∧ v3_19.toInt ≤ n2) → (n2 - v3_19.toInt : Int) < N → ∀ ls : Array Slot, lv_has ls 4 [(0, .ref r0), (1, .int a1), (2, .ref r2), (3, .int v3_19)] → W p l e R s m ([.ref r0, .int a1, .ref r2] : List Value).toArray below meth c H_19 locs_19 0 0 Q (F0 m 34 ls []) := by
          intro N
          induction N with
          | zero => intro v3_19 H_19 locs_19 hh_19  hi_19 hm; exact absurd hm (by omega)
          | succ N L34 =>
            intro v3_19 H_19 locs_19 hh_19  hi_19 hm_19 ls hl
            obtain ⟨hi_19_0, hi_19_1⟩ := hi_19
            refine lv_iload_n hx hb dX1_isSentence_34 rfl (lv_at hl 3 rfl) ?_
            refine lv_aload_n hx hb dX1_isSentence_35 rfl (lv_at hl 2 rfl) ?_
            refine j7_len hx hb hK hh_19 hB101 1 rfl (by decide) hg_r2 (by omega) dX1_isSentence_36 (fun z_20 hz_20 => ?_)
            refine lv_icmp_ge (tgt := 67) hx hb dX1_isSentence_37 (by decide) (fun c_21 => ?_) (fun c_21 => ?_)
            · skip
              have c_21' : v3_19.toInt ≥ z_20.toInt := jb_ge (rfl) (rfl) c_21
              refine lv_iconst (v := 1) hx hb dX1_isSentence_67 (by decide) ?_
              rw [hQ]
              exact W.zret (v := 1) hx hb hr (jb_nz (Or.inr rfl)) (fun t ht hW => ⟨⟨1, (), rfl, ⟨(Or.inr rfl), trivial⟩, hh_19.rt (M1 := []) [] rfl ht⟩, by rw [ht]; try exact hh_19.1.1, fun q h9 hq => by rw [ht]; try exact hh_19.1.2.1 q h9 hq⟩) hh_19.1.2.2 dX1_isSentence_68
            · skip
              have c_21' : v3_19.toInt < z_20.toInt := jb_ge_n (rfl) (rfl) c_21
              refine lv_aload_n hx hb dX1_isSentence_40 rfl (lv_at hl 0 rfl) ?_
              obtain ⟨v_22, hv_22, hh_23⟩ := hh_19.pin (C := RX1) (T := TX1) (N := 17) hB3 rfl (by decide) hg_r0 (i := 2) (by decide) rfl
              clear hh_19
              obtain ⟨text_24, rfl, hg_text_24⟩ := hv_22
              refine j7_read hx hb hown hK (C := RX1) (T := TX1) (N := 17) rfl hly_3_2 hlk_15 (hh_23.at 0 rfl) dX1_isSentence_41 ?_
              refine lv_aload_n hx hb dX1_isSentence_44 rfl (lv_at hl 0 rfl) ?_
              refine j7_read hx hb hown hK (C := RX1) (T := TX1) (N := 17) rfl hly_3_5 hlk_18 (hh_23.at 2 rfl) dX1_isSentence_45 ?_
              refine lv_iload_n hx hb dX1_isSentence_48 rfl (lv_at hl 1 rfl) ?_
              refine j7_ialdM hx hb hK hh_23 hB171 1 rfl (by decide) hg_starts_8 (x := a1.toInt) (rfl) (by omega) (j := 1) rfl dX1_isSentence_49 (fun z_25 ez_25 (hz_25 : 0 ≤ z_25.toInt ∧ z_25.toInt ≤ 1500) => ?_)
              have hqz_25 : z_25.toInt = jSo f_starts_9 (a1.toInt) := by unfold jSo; rw [ez_25]
              refine lv_iload_n hx hb dX1_isSentence_50 rfl (lv_at hl 3 rfl) ?_
              refine lv_iadd hx hb dX1_isSentence_51 ?_
              refine lv_topi (fun z_26 ez_26 => ?_)
              have hz_26 : z_26.toInt = z_25.toInt + v3_19.toInt := by rw [ez_26]; exact jb_iadd2 (rfl) (rfl) (by omega)
              refine j7_iald hx hb hK hh_23 hB101 1 rfl (by decide) hg_text_24 (x := z_26.toInt) (rfl) (by omega) dX1_isSentence_52 (fun z_27 (hz_27 : True) => ?_)
              refine lv_aload_n hx hb dX1_isSentence_53 rfl (lv_at hl 2 rfl) ?_
              refine lv_iload_n hx hb dX1_isSentence_54 rfl (lv_at hl 3 rfl) ?_
              refine j7_iald hx hb hK hh_23 hB101 1 rfl (by decide) hg_r2 (x := v3_19.toInt) (rfl) (by omega) dX1_isSentence_55 (fun z_28 (hz_28 : True) => ?_)
              refine lv_icmp_eq (tgt := 61) hx hb dX1_isSentence_56 (by decide) (fun c_29 => ?_) (fun c_29 => ?_)
              · skip
                have c_29' : z_27.toInt = z_28.toInt := jb_eq (rfl) (rfl) c_29
                obtain ⟨z_30, ez_30⟩ : ∃ y : Int32, y = v3_19 + 1 := ⟨_, rfl⟩
                refine lv_iinc (v := z_30) (lv' := [(3, .int z_30), (0, .ref r0), (1, .int a1), (2, .ref r2)]) hx hb dX1_isSentence_61 hl (k := 3) rfl (by rw [ez_30]; rfl) (by decide) rfl (fun ls hl => ?_)
                have hz_30 : z_30.toInt = v3_19.toInt + 1 := by rw [ez_30]; exact jb_iadd2 (rfl) (by decide) (by omega)
                refine lv_goto (tgt := 34) hx hb dX1_isSentence_64 (by decide) ?_
                exact L34 z_30 _ _ (hh_23.sub (L1 := [(r0, 3, 6, .ref ends_12), (r0, 3, 5, .ref starts_8), (r0, 3, 4, .int sentences_4)]) [1, 2, 3] rfl (M1 := [(ends_12, 172, 40, ca 1, f_ends_13), (starts_8, 171, 40, ca 1, f_starts_9)]) [0, 1] rfl (I1 := []) [] rfl) (by first | omega | (refine ⟨?_, ?_⟩ <;> (first | omega | rfl | assumption | decide | exact Or.inl rfl | exact Or.inr rfl | (simp only; omega)))) (by omega) _ (lv_sub hl [1, 2, 3, 0] rfl)
              · skip
                have c_29' : z_27.toInt ≠ z_28.toInt := jb_eq_n (rfl) (rfl) c_29
                refine lv_iconst (v := 0) hx hb dX1_isSentence_59 (by decide) ?_
                rw [hQ]
                exact W.zret (v := 0) hx hb hr (jb_nz (Or.inl rfl)) (fun t ht hW => ⟨⟨0, (), rfl, ⟨(Or.inl rfl), trivial⟩, hh_23.rt (M1 := []) [] rfl ht⟩, by rw [ht]; try exact hh_23.1.1, fun q h9 hq => by rw [ht]; try exact hh_23.1.2.1 q h9 hq⟩) hh_23.1.2.2 dX1_isSentence_60
        exact L34 (n2 - (0 : Int32).toInt : Int).toNat.succ 0 _ _ hh_13 (by first | omega | (refine ⟨?_, ?_⟩ <;> (first | omega | rfl | assumption | decide | exact Or.inl rfl | exact Or.inr rfl | (simp only; omega)))) (by omega) _ (lv_sub hl [1, 2, 3, 0] rfl)
      · skip
        have c_18' : z_16.toInt ≠ z_17.toInt := jb_eq_n (rfl) (rfl) c_18
        refine lv_iconst (v := 0) hx hb dX1_isSentence_30 (by decide) ?_
        rw [hQ]
        exact W.zret (v := 0) hx hb hr (jb_nz (Or.inl rfl)) (fun t ht hW => ⟨⟨0, (), rfl, ⟨(Or.inl rfl), trivial⟩, hh_13.rt (M1 := []) [] rfl ht⟩, by rw [ht]; try exact hh_13.1.1, fun q h9 hq => by rw [ht]; try exact hh_13.1.2.1 q h9 hq⟩) hh_13.1.2.2 dX1_isSentence_31
end
section
-- bits: what masks, shifts and or leave
theorem jb_or28 {x y z : Int32} (e : z = x ||| y) (hx : 0 ≤ x.toInt) (hy : 0 ≤ y.toInt) (hx1 : x.toInt < 268435456) (hy1 : y.toInt < 268435456) : 0 ≤ z.toInt ∧ z.toInt < 268435456 := by
  obtain ⟨n, hn, ex, ex2⟩ := jN_of hx
  obtain ⟨m, hm, ey, ey2⟩ := jN_of hy
  have h1 : n ||| m < 2 ^ 28 := Nat.or_lt_two_pow (by omega) (by omega)
  rw [e, ex, ey, jN_or hn hm, nI_toInt (by omega)]
  omega
end
section
-- formulas whose nodes may be -1
def EX5_areSameB : List (Nat × Nat) := []
def EX5_leadingBoundB : List (Nat × Nat) := []
def EX5_standsAtB : List (Nat × Nat) := []
set_option maxHeartbeats 4000000 in
set_option maxRecDepth 20000 in
theorem uX5_areSameB (l : Launch) (dC : Nat → ClassId) (dI : Nat → Nat → Nat) (ca : Nat → ClassId) (base : Nat) (B : jF) (hB : jBok B) (hAp : jAp (dC, dI)) (hB280 : ∀ n G a H, B 280 n G a H ↔ jAr (dC, dI) (ca 1) (fun j z => -1 ≤ z.toInt) n a H) (G0 : jT) (H0 : Heap) (r0 : Nat) (r1 : Nat) (n0 : Nat) (n1 : Nat) : Met l yX5_areSame (jw yX5_areSame cX5_areSame 3 (some .boolean)) ({ frames := 1, cells := 0, slots := 0, locals := 22 }) (va_Pc [.ref r0, .ref r1] (fun U => U.heap = H0 ∧ jX B base G0 [] H0 ∧ jG dC dI ca base U ∧ G0 r0 = some (280, n0) ∧ G0 r1 = some (280, n1) ∧ jP (dC, dI) G0 H0 [] ∧ n0 < 2147483648 ∧ n1 < 2147483648)) (va_Qi (S := Unit) (fun r u => (r = 0 ∨ r = 1) ∧ (True)) (fun u t => jRt (dC, dI) B base G0 EX5_areSameB H0 [] t.heap) (jA base)) 0 0 (jA base) := by
  refine Met.ofW (cc := cX5_areSame) (maxL := 3) (ret := (some .boolean)) (by decide) rfl ?_
  intro p e s m args below meth c s₁ Bd hml hv
  obtain ⟨rfl, hH0, hX, hG, hg_r0, hg_r1, hP0, hp0, hp1⟩ := hv
  have hK := hG.1
  have hx := Bd.exec
  have hb := Bd.bytes
  have hr := Bd.returns
  have hts := atoms_spec (ws := (jw yX5_areSame cX5_areSame 3 (some .boolean))) Bd.pre
  have htw : ∀ w ∈ jWl, w.before _ s = true := fun w h => hts w (List.mem_cons_of_mem _ h)
  have hown : s.vm.findClass RX5 = some m.cls := findClass_of_methodNamed Bd.named
  have hlocks := Bd.notSynchronized
  obtain ⟨Q, hQ⟩ : ∃ Q, Q = MQ below (va_Qi (S := Unit) (fun r u => (r = 0 ∨ r = 1) ∧ (True)) (fun u t => jRt (dC, dI) B base G0 EX5_areSameB H0 [] t.heap) (jA base)) ([.ref r0, .ref r1] : List Value).toArray s 0 0 (jA base) := ⟨_, rfl⟩
  rw [← hQ]
  have hl := lv_entry ([.ref r0, .ref r1]) (n := 3) (Nat.le_of_ble_eq_true rfl)
  rw [lg_entry_eq]
  generalize (lg_sl ([.ref r0, .ref r1]) ++ List.replicate (3 - (lg_sl ([.ref r0, .ref r1])).length) Slot.unset).toArray = ls at hl ⊢
  have hl : lv_has ls 3 [(0, .ref r0), (1, .ref r1)] := hl
  generalize hR : (headSpec (jw yX5_areSame cX5_areSame 3 (some .boolean)) ({ frames := 1, cells := 0, slots := 0, locals := 22 })).room = R
  subst hH0
  have hh : jSt (dC, dI) B base G0 G0 EX5_areSameB s.heap 0 0 [] [] [] s.heap [] := jSt.start hX hP0 jMc.nil jIs.nil
  clear hX hP0
  have hk0 : (0 : Int32).toInt = 0 := by decide
  have hk1 : (1 : Int32).toInt = 1 := by decide
  refine lv_aload_n hx hb dX5_areSame_0 rfl (lv_at hl 0 rfl) ?_
  refine j7_len hx hb hK hh hB280 1 rfl (by decide) hg_r0 (by omega) dX5_areSame_1 (fun z_1 hz_1 => ?_)
  refine lv_aload_n hx hb dX5_areSame_2 rfl (lv_at hl 1 rfl) ?_
  refine j7_len hx hb hK hh hB280 1 rfl (by decide) hg_r1 (by omega) dX5_areSame_3 (fun z_2 hz_2 => ?_)
  refine lv_icmp_eq (tgt := 9) hx hb dX5_areSame_4 (by decide) (fun c_3 => ?_) (fun c_3 => ?_)
  · skip
    have c_3' : z_1.toInt = z_2.toInt := jb_eq (rfl) (rfl) c_3
    refine lv_iconst (v := 0) hx hb dX5_areSame_9 (by decide) ?_
    refine lv_istore_n (lv' := [(2, .int 0), (0, .ref r0), (1, .ref r1)]) hx hb dX5_areSame_10 rfl hl (by decide) rfl (fun ls hl => ?_)
    have L11 : ∀ (N : Nat) (v2_4 : Int32) (H_4 : Heap) (locs_4 : List Loc), jSt (dC, dI) B base G0 G0 EX5_areSameB s.heap 0 0 [] [] [] H_4 locs_4 → (0 ≤ v2_4.toInt ∧ v2_4.toInt ≤ n0) → (n0 - v2_4.toInt : Int) < N → ∀ ls : Array Slot, lv_has ls 3 [(0, .ref r0), (1, .ref r1), (2, .int v2_4)] → W p l e R s m ([.ref r0, .ref r1] : List Value).toArray below meth c H_4 locs_4 0 0 Q (F0 m 11 ls []) := by
      intro N
      induction N with
      | zero => intro v2_4 H_4 locs_4 hh_4  hi_4 hm; exact absurd hm (by omega)
      | succ N L11 =>
        intro v2_4 H_4 locs_4 hh_4  hi_4 hm_4 ls hl
        obtain ⟨hi_4_0, hi_4_1⟩ := hi_4
        refine lv_iload_n hx hb dX5_areSame_11 rfl (lv_at hl 2 rfl) ?_
        refine lv_aload_n hx hb dX5_areSame_12 rfl (lv_at hl 0 rfl) ?_
        refine j7_len hx hb hK hh_4 hB280 1 rfl (by decide) hg_r0 (by omega) dX5_areSame_13 (fun z_5 hz_5 => ?_)
        refine lv_icmp_ge (tgt := 37) hx hb dX5_areSame_14 (by decide) (fun c_6 => ?_) (fun c_6 => ?_)
        · skip
          have c_6' : v2_4.toInt ≥ z_5.toInt := jb_ge (rfl) (rfl) c_6
          refine lv_iconst (v := 1) hx hb dX5_areSame_37 (by decide) ?_
          rw [hQ]
          exact W.zret (v := 1) hx hb hr (jb_nz (Or.inr rfl)) (fun t ht hW => ⟨⟨1, (), rfl, ⟨(Or.inr rfl), trivial⟩, hh_4.rt (M1 := []) [] rfl ht⟩, by rw [ht]; try exact hh_4.1.1, fun q h9 hq => by rw [ht]; try exact hh_4.1.2.1 q h9 hq⟩) hh_4.1.2.2 dX5_areSame_38
        · skip
          have c_6' : v2_4.toInt < z_5.toInt := jb_ge_n (rfl) (rfl) c_6
          refine lv_aload_n hx hb dX5_areSame_17 rfl (lv_at hl 0 rfl) ?_
          refine lv_iload_n hx hb dX5_areSame_18 rfl (lv_at hl 2 rfl) ?_
          refine j7_iald hx hb hK hh_4 hB280 1 rfl (by decide) hg_r0 (x := v2_4.toInt) (rfl) (by omega) dX5_areSame_19 (fun z_7 (hz_7 : -1 ≤ z_7.toInt) => ?_)
          refine lv_aload_n hx hb dX5_areSame_20 rfl (lv_at hl 1 rfl) ?_
          refine lv_iload_n hx hb dX5_areSame_21 rfl (lv_at hl 2 rfl) ?_
          refine j7_iald hx hb hK hh_4 hB280 1 rfl (by decide) hg_r1 (x := v2_4.toInt) (rfl) (by omega) dX5_areSame_22 (fun z_8 (hz_8 : -1 ≤ z_8.toInt) => ?_)
          refine vp_callSi (W.runS (As := [.int z_7, .int z_8]) (rest := []) ⟨hx, hb, hml, hown, hts⟩ (wX5_areAlike l dC dI ca base H_4 z_7 z_8) (va_cwS 2 hts (jgS (jWr_86 _ (List.mem_of_getElem? (i := 9) rfl)) (jWr_86 _ (List.mem_of_getElem? (i := 10) rfl)) (jWr_2 _ (List.mem_of_getElem? (i := 4) rfl)) (jWr_86 _ (List.mem_of_getElem? (i := 11) rfl))) rfl rfl rfl (by decide +kernel) ⟨by rw [← hR]; exact Nat.le_of_ble_eq_true rfl, by rw [← hR]; exact Nat.le_of_ble_eq_true rfl⟩) ⟨fun a U g mk q => by obtain ⟨q0, q1, qK, q9⟩ := q; exact ⟨q0, q1, jG.calling g mk a qK, q9⟩, fun U hU hW => ⟨rfl, hU, hG.step hW hU hh_4.1, by first | trivial | omega | (constructor <;> omega)⟩⟩ rfl rfl hl.1 rfl (lv_room (Nat.le_of_ble_eq_true rfl)) dX5_areSame_23 ⟨Nat.zero_le _, Nat.zero_le _⟩) (fun r_9 hr_9 => ?_)
          have hr_9' : r_9.toInt = 0 ∨ r_9.toInt = 1 := jb_01 hr_9
          refine lv_if_ne (tgt := 31) hx hb dX5_areSame_26 (by decide) (fun c_10 => ?_) (fun c_10 => ?_)
          · skip
            have c_10' : r_9.toInt ≠ 0 := jb_ne (rfl) ((by decide)) c_10
            obtain ⟨z_11, ez_11⟩ : ∃ y : Int32, y = v2_4 + 1 := ⟨_, rfl⟩
            refine lv_iinc (v := z_11) (lv' := [(2, .int z_11), (0, .ref r0), (1, .ref r1)]) hx hb dX5_areSame_31 hl (k := 2) rfl (by rw [ez_11]; rfl) (by decide) rfl (fun ls hl => ?_)
            have hz_11 : z_11.toInt = v2_4.toInt + 1 := by rw [ez_11]; exact jb_iadd2 (rfl) (by decide) (by omega)
            refine lv_goto (tgt := 11) hx hb dX5_areSame_34 (by decide) ?_
            exact L11 z_11 _ _ hh_4 (by first | omega | (refine ⟨?_, ?_⟩ <;> (first | omega | rfl | assumption | decide | exact Or.inl rfl | exact Or.inr rfl | (simp only; omega)))) (by omega) _ (lv_sub hl [1, 2, 0] rfl)
          · skip
            have c_10' : r_9.toInt = 0 := jb_ne_n (rfl) ((by decide)) c_10
            refine lv_iconst (v := 0) hx hb dX5_areSame_29 (by decide) ?_
            rw [hQ]
            exact W.zret (v := 0) hx hb hr (jb_nz (Or.inl rfl)) (fun t ht hW => ⟨⟨0, (), rfl, ⟨(Or.inl rfl), trivial⟩, hh_4.rt (M1 := []) [] rfl ht⟩, by rw [ht]; try exact hh_4.1.1, fun q h9 hq => by rw [ht]; try exact hh_4.1.2.1 q h9 hq⟩) hh_4.1.2.2 dX5_areSame_30
    exact L11 (n0 - (0 : Int32).toInt : Int).toNat.succ 0 _ _ hh (by first | omega | (refine ⟨?_, ?_⟩ <;> (first | omega | rfl | assumption | decide | exact Or.inl rfl | exact Or.inr rfl | (simp only; omega)))) (by omega) _ (lv_sub hl [1, 2, 0] rfl)
  · skip
    have c_3' : z_1.toInt ≠ z_2.toInt := jb_eq_n (rfl) (rfl) c_3
    refine lv_iconst (v := 0) hx hb dX5_areSame_7 (by decide) ?_
    rw [hQ]
    exact W.zret (v := 0) hx hb hr (jb_nz (Or.inl rfl)) (fun t ht hW => ⟨⟨0, (), rfl, ⟨(Or.inl rfl), trivial⟩, hh.rt (M1 := []) [] rfl ht⟩, by rw [ht]; try exact hh.1.1, fun q h9 hq => by rw [ht]; try exact hh.1.2.1 q h9 hq⟩) hh.1.2.2 dX5_areSame_8
set_option maxHeartbeats 4000000 in
set_option maxRecDepth 20000 in
theorem uX5_leadingBoundB (l : Launch) (dC : Nat → ClassId) (dI : Nat → Nat → Nat) (ca : Nat → ClassId) (base : Nat) (B : jF) (hB : jBok B) (hAp : jAp (dC, dI)) (hB280 : ∀ n G a H, B 280 n G a H ↔ jAr (dC, dI) (ca 1) (fun j z => -1 ≤ z.toInt) n a H) (G0 : jT) (H0 : Heap) (r0 : Nat) (n0 : Nat) (ff : Nat → Int32) : Met l yX5_leadingBound (jw yX5_leadingBound cX5_leadingBound 2 (some .int)) ({ frames := 0, cells := 0, slots := 0, locals := 0 }) (va_Pc [.ref r0] (fun U => U.heap = H0 ∧ jX B base G0 [] H0 ∧ jG dC dI ca base U ∧ G0 r0 = some (280, n0) ∧ jP (dC, dI) G0 H0 [] ∧ jMc (dC, dI) G0 H0 [(r0, 280, n0, ca 1, ff)] ∧ n0 < 2147483648)) (va_Qi (S := Unit) (fun r u => (0 ≤ r.toInt ∧ r.toInt ≤ n0 ∧ r.toInt ≤ 12 ∧ jLd ff n0 r.toInt)) (fun u t => jRt (dC, dI) B base G0 EX5_leadingBoundB H0 [] t.heap) (jA base)) 0 0 (jA base) := by
  refine Met.ofW (cc := cX5_leadingBound) (maxL := 2) (ret := (some .int)) (by decide) rfl ?_
  intro p e s m args below meth c s₁ Bd hml hv
  obtain ⟨rfl, hH0, hX, hG, hg_r0, hP0, hM0, hp0⟩ := hv
  have hK := hG.1
  have hx := Bd.exec
  have hb := Bd.bytes
  have hr := Bd.returns
  have hts := atoms_spec (ws := (jw yX5_leadingBound cX5_leadingBound 2 (some .int))) Bd.pre
  have htw : ∀ w ∈ jWl, w.before _ s = true := fun w h => hts w (List.mem_cons_of_mem _ h)
  have hown : s.vm.findClass RX5 = some m.cls := findClass_of_methodNamed Bd.named
  have hlocks := Bd.notSynchronized
  obtain ⟨Q, hQ⟩ : ∃ Q, Q = MQ below (va_Qi (S := Unit) (fun r u => (0 ≤ r.toInt ∧ r.toInt ≤ n0 ∧ r.toInt ≤ 12 ∧ jLd ff n0 r.toInt)) (fun u t => jRt (dC, dI) B base G0 EX5_leadingBoundB H0 [] t.heap) (jA base)) ([.ref r0] : List Value).toArray s 0 0 (jA base) := ⟨_, rfl⟩
  rw [← hQ]
  have hl := lv_entry ([.ref r0]) (n := 2) (Nat.le_of_ble_eq_true rfl)
  rw [lg_entry_eq]
  generalize (lg_sl ([.ref r0]) ++ List.replicate (2 - (lg_sl ([.ref r0])).length) Slot.unset).toArray = ls at hl ⊢
  have hl : lv_has ls 2 [(0, .ref r0)] := hl
  generalize hR : (headSpec (jw yX5_leadingBound cX5_leadingBound 2 (some .int)) ({ frames := 0, cells := 0, slots := 0, locals := 0 })).room = R
  subst hH0
  have hh : jSt (dC, dI) B base G0 G0 EX5_leadingBoundB s.heap 0 0 [] [(r0, 280, n0, ca 1, ff)] [] s.heap [] := jSt.start hX hP0 hM0 jIs.nil
  clear hX hP0
  have hk0 : (0 : Int32).toInt = 0 := by decide
  have hk1 : (1 : Int32).toInt = 1 := by decide
  have hk5 : (5 : Int32).toInt = 5 := by decide
  have hk12 : (12 : Int32).toInt = 12 := by decide
  have hk15 : (15 : Int32).toInt = 15 := by decide
  refine lv_iconst (v := 0) hx hb dX5_leadingBound_0 (by decide) ?_
  refine lv_istore_n (lv' := [(1, .int 0), (0, .ref r0)]) hx hb dX5_leadingBound_1 rfl hl (by decide) rfl (fun ls hl => ?_)
  have L2 : ∀ (N : Nat) (v1_1 : Int32) (H_1 : Heap) (locs_1 : List Loc), jSt (dC, dI) B base G0 G0 EX5_leadingBoundB s.heap 0 0 [] [(r0, 280, n0, ca 1, ff)] [] H_1 locs_1 → (0 ≤ v1_1.toInt ∧ v1_1.toInt ≤ n0 ∧ v1_1.toInt ≤ 12 ∧ jLe5 ff v1_1.toInt) → (12 - v1_1.toInt : Int) < N → ∀ ls : Array Slot, lv_has ls 2 [(0, .ref r0), (1, .int v1_1)] → W p l e R s m ([.ref r0] : List Value).toArray below meth c H_1 locs_1 0 0 Q (F0 m 2 ls []) := by
    intro N
    induction N with
    | zero => intro v1_1 H_1 locs_1 hh_1  hi_1 hm; exact absurd hm (by omega)
    | succ N L2 =>
      intro v1_1 H_1 locs_1 hh_1  hi_1 hm_1 ls hl
      obtain ⟨hi_1_0, hi_1_1, hi_1_2, hi_1_3⟩ := hi_1
      refine lv_iload_n hx hb dX5_leadingBound_2 rfl (lv_at hl 1 rfl) ?_
      refine lv_aload_n hx hb dX5_leadingBound_3 rfl (lv_at hl 0 rfl) ?_
      refine j7_len hx hb hK hh_1 hB280 1 rfl (by decide) hg_r0 (by omega) dX5_leadingBound_4 (fun z_2 hz_2 => ?_)
      refine lv_icmp_ge (tgt := 30) hx hb dX5_leadingBound_5 (by decide) (fun c_3 => ?_) (fun c_3 => ?_)
      · skip
        have c_3' : v1_1.toInt ≥ z_2.toInt := jb_ge (rfl) (rfl) c_3
        refine lv_iload_n hx hb dX5_leadingBound_30 rfl (lv_at hl 1 rfl) ?_
        rw [hQ]
        exact W.iret (v := v1_1) hx hb hr (fun t ht hW => ⟨⟨v1_1, (), rfl, by refine ⟨by omega, by omega, by omega, ?_⟩; exact And.intro hi_1_3 (by omega), hh_1.rt (M1 := []) [] rfl ht⟩, by rw [ht]; try exact hh_1.1.1, fun q h9 hq => by rw [ht]; try exact hh_1.1.2.1 q h9 hq⟩) hh_1.1.2.2 dX5_leadingBound_31
      · skip
        have c_3' : v1_1.toInt < z_2.toInt := jb_ge_n (rfl) (rfl) c_3
        refine lv_iload_n hx hb dX5_leadingBound_8 rfl (lv_at hl 1 rfl) ?_
        refine lv_bipush (v := 12) hx hb dX5_leadingBound_9 (by decide) ?_
        refine lv_icmp_ge (tgt := 30) hx hb dX5_leadingBound_11 (by decide) (fun c_4 => ?_) (fun c_4 => ?_)
        · skip
          have c_4' : v1_1.toInt ≥ 12 := jb_ge (rfl) ((by decide)) c_4
          refine lv_iload_n hx hb dX5_leadingBound_30 rfl (lv_at hl 1 rfl) ?_
          rw [hQ]
          exact W.iret (v := v1_1) hx hb hr (fun t ht hW => ⟨⟨v1_1, (), rfl, by refine ⟨by omega, by omega, by omega, ?_⟩; exact And.intro hi_1_3 (by omega), hh_1.rt (M1 := []) [] rfl ht⟩, by rw [ht]; try exact hh_1.1.1, fun q h9 hq => by rw [ht]; try exact hh_1.1.2.1 q h9 hq⟩) hh_1.1.2.2 dX5_leadingBound_31
        · skip
          have c_4' : v1_1.toInt < 12 := jb_ge_n (rfl) ((by decide)) c_4
          refine lv_aload_n hx hb dX5_leadingBound_14 rfl (lv_at hl 0 rfl) ?_
          refine lv_iload_n hx hb dX5_leadingBound_15 rfl (lv_at hl 1 rfl) ?_
          refine j7_ialdM hx hb hK hh_1 hB280 1 rfl (by decide) hg_r0 (x := v1_1.toInt) (rfl) (by omega) (j := 0) rfl dX5_leadingBound_16 (fun z_5 ez_5 (hz_5 : -1 ≤ z_5.toInt) => ?_)
          have hqz_5 : z_5.toInt = jSo ff (v1_1.toInt) := by unfold jSo; rw [ez_5]
          refine lv_bipush (v := 15) hx hb dX5_leadingBound_17 (by decide) ?_
          refine lv_iand hx hb dX5_leadingBound_19 ?_
          refine lv_topi (fun z_6 ez_6 => ?_)
          have hz_6 : 0 ≤ z_6.toInt ∧ z_6.toInt ≤ 15 := by rw [ez_6]; exact jb_and z_5 (m := 15) (k := 4) (by decide) (by decide)
          have hbz_6 : z_6.toInt = z_5.toInt % 16 := by rw [ez_6, jb_and15]
          refine lv_iconst (v := 5) hx hb dX5_leadingBound_20 (by decide) ?_
          refine lv_icmp_ne (tgt := 30) hx hb dX5_leadingBound_21 (by decide) (fun c_7 => ?_) (fun c_7 => ?_)
          · skip
            have c_7' : z_6.toInt ≠ 5 := jb_ne (rfl) ((by decide)) c_7
            refine lv_iload_n hx hb dX5_leadingBound_30 rfl (lv_at hl 1 rfl) ?_
            rw [hQ]
            exact W.iret (v := v1_1) hx hb hr (fun t ht hW => ⟨⟨v1_1, (), rfl, by refine ⟨by omega, by omega, by omega, ?_⟩; exact And.intro hi_1_3 (by omega), hh_1.rt (M1 := []) [] rfl ht⟩, by rw [ht]; try exact hh_1.1.1, fun q h9 hq => by rw [ht]; try exact hh_1.1.2.1 q h9 hq⟩) hh_1.1.2.2 dX5_leadingBound_31
          · skip
            have c_7' : z_6.toInt = 5 := jb_ne_n (rfl) ((by decide)) c_7
            obtain ⟨z_8, ez_8⟩ : ∃ y : Int32, y = v1_1 + 1 := ⟨_, rfl⟩
            refine lv_iinc (v := z_8) (lv' := [(1, .int z_8), (0, .ref r0)]) hx hb dX5_leadingBound_24 hl (k := 1) rfl (by rw [ez_8]; rfl) (by decide) rfl (fun ls hl => ?_)
            have hz_8 : z_8.toInt = v1_1.toInt + 1 := by rw [ez_8]; exact jb_iadd2 (rfl) (by decide) (by omega)
            refine lv_goto (tgt := 2) hx hb dX5_leadingBound_27 (by decide) ?_
            exact L2 z_8 _ _ hh_1 (by refine ⟨by omega, by omega, by omega, hi_1_3.step (by omega) (by omega)⟩) (by omega) _ (lv_sub hl [1, 0] rfl)
  exact L2 (12 - (0 : Int32).toInt : Int).toNat.succ 0 _ _ hh (by refine ⟨by omega, by omega, by omega, fun j h0 h1 => by omega⟩) (by omega) _ (lv_sub hl [1, 0] rfl)
set_option maxHeartbeats 4000000 in
set_option maxRecDepth 20000 in
theorem uX5_standsAtB (l : Launch) (dC : Nat → ClassId) (dI : Nat → Nat → Nat) (ca : Nat → ClassId) (base : Nat) (B : jF) (hB : jBok B) (hAp : jAp (dC, dI)) (hB280 : ∀ n G a H, B 280 n G a H ↔ jAr (dC, dI) (ca 1) (fun j z => -1 ≤ z.toInt) n a H) (G0 : jT) (H0 : Heap) (r0 : Nat) (a1 : Int32) (r2 : Nat) (a3 : Int32) (a4 : Int32) (n0 : Nat) (n2 : Nat) : Met l yX5_standsAt (jw yX5_standsAt cX5_standsAt 6 (some .boolean)) ({ frames := 0, cells := 0, slots := 0, locals := 0 }) (va_Pc [.ref r0, .int a1, .ref r2, .int a3, .int a4] (fun U => U.heap = H0 ∧ jX B base G0 [] H0 ∧ jG dC dI ca base U ∧ G0 r0 = some (280, n0) ∧ G0 r2 = some (280, n2) ∧ jP (dC, dI) G0 H0 [] ∧ n0 ≤ 100000 ∧ n2 ≤ 100000 ∧ a1.toInt ≤ 100000 ∧ a3.toInt ≤ 100000 ∧ a4.toInt ≤ 1000000)) (va_Qi (S := Unit) (fun r u => (r = 0 ∨ r = 1) ∧ (True)) (fun u t => jRt (dC, dI) B base G0 EX5_standsAtB H0 [] t.heap) (jA base)) 0 0 (jA base) := by
  refine Met.ofW (cc := cX5_standsAt) (maxL := 6) (ret := (some .boolean)) (by decide) rfl ?_
  intro p e s m args below meth c s₁ Bd hml hv
  obtain ⟨rfl, hH0, hX, hG, hg_r0, hg_r2, hP0, hp0, hp1, hp2, hp3, hp4⟩ := hv
  have hK := hG.1
  have hx := Bd.exec
  have hb := Bd.bytes
  have hr := Bd.returns
  have hts := atoms_spec (ws := (jw yX5_standsAt cX5_standsAt 6 (some .boolean))) Bd.pre
  have htw : ∀ w ∈ jWl, w.before _ s = true := fun w h => hts w (List.mem_cons_of_mem _ h)
  have hown : s.vm.findClass RX5 = some m.cls := findClass_of_methodNamed Bd.named
  have hlocks := Bd.notSynchronized
  obtain ⟨Q, hQ⟩ : ∃ Q, Q = MQ below (va_Qi (S := Unit) (fun r u => (r = 0 ∨ r = 1) ∧ (True)) (fun u t => jRt (dC, dI) B base G0 EX5_standsAtB H0 [] t.heap) (jA base)) ([.ref r0, .int a1, .ref r2, .int a3, .int a4] : List Value).toArray s 0 0 (jA base) := ⟨_, rfl⟩
  rw [← hQ]
  have hl := lv_entry ([.ref r0, .int a1, .ref r2, .int a3, .int a4]) (n := 6) (Nat.le_of_ble_eq_true rfl)
  rw [lg_entry_eq]
  generalize (lg_sl ([.ref r0, .int a1, .ref r2, .int a3, .int a4]) ++ List.replicate (6 - (lg_sl ([.ref r0, .int a1, .ref r2, .int a3, .int a4])).length) Slot.unset).toArray = ls at hl ⊢
  have hl : lv_has ls 6 [(0, .ref r0), (1, .int a1), (2, .ref r2), (3, .int a3), (4, .int a4)] := hl
  generalize hR : (headSpec (jw yX5_standsAt cX5_standsAt 6 (some .boolean)) ({ frames := 0, cells := 0, slots := 0, locals := 0 })).room = R
  subst hH0
  have hh : jSt (dC, dI) B base G0 G0 EX5_standsAtB s.heap 0 0 [] [] [] s.heap [] := jSt.start hX hP0 jMc.nil jIs.nil
  clear hX hP0
  have hk0 : (0 : Int32).toInt = 0 := by decide
  have hk1 : (1 : Int32).toInt = 1 := by decide
  have hrg_a1 := jb_rng a1
  have hrg_a3 := jb_rng a3
  have hrg_a4 := jb_rng a4
  refine lv_iload_n hx hb dX5_standsAt_0 rfl (lv_at hl 1 rfl) ?_
  refine lv_if_lt (tgt := 26) hx hb dX5_standsAt_1 (by decide) (fun c_1 => ?_) (fun c_1 => ?_)
  · skip
    have c_1' : a1.toInt < 0 := jb_lt (rfl) ((by decide)) c_1
    refine lv_iconst (v := 0) hx hb dX5_standsAt_26 (by decide) ?_
    rw [hQ]
    exact W.zret (v := 0) hx hb hr (jb_nz (Or.inl rfl)) (fun t ht hW => ⟨⟨0, (), rfl, ⟨(Or.inl rfl), trivial⟩, hh.rt (M1 := []) [] rfl ht⟩, by rw [ht]; try exact hh.1.1, fun q h9 hq => by rw [ht]; try exact hh.1.2.1 q h9 hq⟩) hh.1.2.2 dX5_standsAt_27
  · skip
    have c_1' : a1.toInt ≥ 0 := jb_lt_n (rfl) ((by decide)) c_1
    refine lv_iload_n hx hb dX5_standsAt_4 rfl (lv_at hl 3 rfl) ?_
    refine lv_if_lt (tgt := 26) hx hb dX5_standsAt_5 (by decide) (fun c_2 => ?_) (fun c_2 => ?_)
    · skip
      have c_2' : a3.toInt < 0 := jb_lt (rfl) ((by decide)) c_2
      refine lv_iconst (v := 0) hx hb dX5_standsAt_26 (by decide) ?_
      rw [hQ]
      exact W.zret (v := 0) hx hb hr (jb_nz (Or.inl rfl)) (fun t ht hW => ⟨⟨0, (), rfl, ⟨(Or.inl rfl), trivial⟩, hh.rt (M1 := []) [] rfl ht⟩, by rw [ht]; try exact hh.1.1, fun q h9 hq => by rw [ht]; try exact hh.1.2.1 q h9 hq⟩) hh.1.2.2 dX5_standsAt_27
    · skip
      have c_2' : a3.toInt ≥ 0 := jb_lt_n (rfl) ((by decide)) c_2
      refine lv_iload_n hx hb dX5_standsAt_8 rfl (lv_at hl 1 rfl) ?_
      refine lv_iload hx hb dX5_standsAt_9 (lv_at hl 4 rfl) ?_
      refine lv_iadd hx hb dX5_standsAt_11 ?_
      refine lv_topi (fun z_3 ez_3 => ?_)
      have hz_3 : z_3.toInt = a1.toInt + a4.toInt := by rw [ez_3]; exact jb_iadd2 (rfl) (rfl) (by omega)
      refine lv_aload_n hx hb dX5_standsAt_12 rfl (lv_at hl 0 rfl) ?_
      refine j7_len hx hb hK hh hB280 1 rfl (by decide) hg_r0 (by omega) dX5_standsAt_13 (fun z_4 hz_4 => ?_)
      refine lv_icmp_gt (tgt := 26) hx hb dX5_standsAt_14 (by decide) (fun c_5 => ?_) (fun c_5 => ?_)
      · skip
        have c_5' : z_3.toInt > z_4.toInt := jb_gt (rfl) (rfl) c_5
        refine lv_iconst (v := 0) hx hb dX5_standsAt_26 (by decide) ?_
        rw [hQ]
        exact W.zret (v := 0) hx hb hr (jb_nz (Or.inl rfl)) (fun t ht hW => ⟨⟨0, (), rfl, ⟨(Or.inl rfl), trivial⟩, hh.rt (M1 := []) [] rfl ht⟩, by rw [ht]; try exact hh.1.1, fun q h9 hq => by rw [ht]; try exact hh.1.2.1 q h9 hq⟩) hh.1.2.2 dX5_standsAt_27
      · skip
        have c_5' : z_3.toInt ≤ z_4.toInt := jb_gt_n (rfl) (rfl) c_5
        refine lv_iload_n hx hb dX5_standsAt_17 rfl (lv_at hl 3 rfl) ?_
        refine lv_iload hx hb dX5_standsAt_18 (lv_at hl 4 rfl) ?_
        refine lv_iadd hx hb dX5_standsAt_20 ?_
        refine lv_topi (fun z_6 ez_6 => ?_)
        have hz_6 : z_6.toInt = a3.toInt + a4.toInt := by rw [ez_6]; exact jb_iadd2 (rfl) (rfl) (by omega)
        refine lv_aload_n hx hb dX5_standsAt_21 rfl (lv_at hl 2 rfl) ?_
        refine j7_len hx hb hK hh hB280 1 rfl (by decide) hg_r2 (by omega) dX5_standsAt_22 (fun z_7 hz_7 => ?_)
        refine lv_icmp_le (tgt := 28) hx hb dX5_standsAt_23 (by decide) (fun c_8 => ?_) (fun c_8 => ?_)
        · skip
          have c_8' : z_6.toInt ≤ z_7.toInt := jb_le (rfl) (rfl) c_8
          refine lv_iconst (v := 0) hx hb dX5_standsAt_28 (by decide) ?_
          refine lv_istore (lv' := [(5, .int 0), (0, .ref r0), (1, .int a1), (2, .ref r2), (3, .int a3), (4, .int a4)]) hx hb dX5_standsAt_29 hl (by decide) rfl (fun ls hl => ?_)
          have L31 : ∀ (N : Nat) (v5_9 : Int32) (H_9 : Heap) (locs_9 : List Loc), jSt (dC, dI) B base G0 G0 EX5_standsAtB s.heap 0 0 [] [] [] H_9 locs_9 → (0 ≤ v5_9.toInt) → (((a4.toInt - v5_9.toInt).toNat : Int) : Int) < N → ∀ ls : Array Slot, lv_has ls 6 [(0, .ref r0), (1, .int a1), (2, .ref r2), (3, .int a3), (4, .int a4), (5, .int v5_9)] → W p l e R s m ([.ref r0, .int a1, .ref r2, .int a3, .int a4] : List Value).toArray below meth c H_9 locs_9 0 0 Q (F0 m 31 ls []) := by
            intro N
            induction N with
            | zero => intro v5_9 H_9 locs_9 hh_9  hi_9 hm; exact absurd hm (by omega)
            | succ N L31 =>
              intro v5_9 H_9 locs_9 hh_9  hi_9 hm_9 ls hl
              refine lv_iload hx hb dX5_standsAt_31 (lv_at hl 5 rfl) ?_
              refine lv_iload hx hb dX5_standsAt_33 (lv_at hl 4 rfl) ?_
              refine lv_icmp_ge (tgt := 61) hx hb dX5_standsAt_35 (by decide) (fun c_10 => ?_) (fun c_10 => ?_)
              · skip
                have c_10' : v5_9.toInt ≥ a4.toInt := jb_ge (rfl) (rfl) c_10
                refine lv_iconst (v := 1) hx hb dX5_standsAt_61 (by decide) ?_
                rw [hQ]
                exact W.zret (v := 1) hx hb hr (jb_nz (Or.inr rfl)) (fun t ht hW => ⟨⟨1, (), rfl, ⟨(Or.inr rfl), trivial⟩, hh_9.rt (M1 := []) [] rfl ht⟩, by rw [ht]; try exact hh_9.1.1, fun q h9 hq => by rw [ht]; try exact hh_9.1.2.1 q h9 hq⟩) hh_9.1.2.2 dX5_standsAt_62
              · skip
                have c_10' : v5_9.toInt < a4.toInt := jb_ge_n (rfl) (rfl) c_10
                refine lv_aload_n hx hb dX5_standsAt_38 rfl (lv_at hl 0 rfl) ?_
                refine lv_iload_n hx hb dX5_standsAt_39 rfl (lv_at hl 1 rfl) ?_
                refine lv_iload hx hb dX5_standsAt_40 (lv_at hl 5 rfl) ?_
                refine lv_iadd hx hb dX5_standsAt_42 ?_
                refine lv_topi (fun z_11 ez_11 => ?_)
                have hz_11 : z_11.toInt = a1.toInt + v5_9.toInt := by rw [ez_11]; exact jb_iadd2 (rfl) (rfl) (by omega)
                refine j7_iald hx hb hK hh_9 hB280 1 rfl (by decide) hg_r0 (x := z_11.toInt) (rfl) (by omega) dX5_standsAt_43 (fun z_12 (hz_12 : -1 ≤ z_12.toInt) => ?_)
                refine lv_aload_n hx hb dX5_standsAt_44 rfl (lv_at hl 2 rfl) ?_
                refine lv_iload_n hx hb dX5_standsAt_45 rfl (lv_at hl 3 rfl) ?_
                refine lv_iload hx hb dX5_standsAt_46 (lv_at hl 5 rfl) ?_
                refine lv_iadd hx hb dX5_standsAt_48 ?_
                refine lv_topi (fun z_13 ez_13 => ?_)
                have hz_13 : z_13.toInt = a3.toInt + v5_9.toInt := by rw [ez_13]; exact jb_iadd2 (rfl) (rfl) (by omega)
                refine j7_iald hx hb hK hh_9 hB280 1 rfl (by decide) hg_r2 (x := z_13.toInt) (rfl) (by omega) dX5_standsAt_49 (fun z_14 (hz_14 : -1 ≤ z_14.toInt) => ?_)
                refine lv_icmp_eq (tgt := 55) hx hb dX5_standsAt_50 (by decide) (fun c_15 => ?_) (fun c_15 => ?_)
                · skip
                  have c_15' : z_12.toInt = z_14.toInt := jb_eq (rfl) (rfl) c_15
                  obtain ⟨z_16, ez_16⟩ : ∃ y : Int32, y = v5_9 + 1 := ⟨_, rfl⟩
                  refine lv_iinc (v := z_16) (lv' := [(5, .int z_16), (0, .ref r0), (1, .int a1), (2, .ref r2), (3, .int a3), (4, .int a4)]) hx hb dX5_standsAt_55 hl (k := 5) rfl (by rw [ez_16]; rfl) (by decide) rfl (fun ls hl => ?_)
                  have hz_16 : z_16.toInt = v5_9.toInt + 1 := by rw [ez_16]; exact jb_iadd2 (rfl) (by decide) (by omega)
                  refine lv_goto (tgt := 31) hx hb dX5_standsAt_58 (by decide) ?_
                  exact L31 z_16 _ _ hh_9 (by first | omega | rfl | assumption | decide | exact Or.inl rfl | exact Or.inr rfl | (simp only; omega)) (by omega) _ (lv_sub hl [1, 2, 3, 4, 5, 0] rfl)
                · skip
                  have c_15' : z_12.toInt ≠ z_14.toInt := jb_eq_n (rfl) (rfl) c_15
                  refine lv_iconst (v := 0) hx hb dX5_standsAt_53 (by decide) ?_
                  rw [hQ]
                  exact W.zret (v := 0) hx hb hr (jb_nz (Or.inl rfl)) (fun t ht hW => ⟨⟨0, (), rfl, ⟨(Or.inl rfl), trivial⟩, hh_9.rt (M1 := []) [] rfl ht⟩, by rw [ht]; try exact hh_9.1.1, fun q h9 hq => by rw [ht]; try exact hh_9.1.2.1 q h9 hq⟩) hh_9.1.2.2 dX5_standsAt_54
          exact L31 (((a4.toInt - (0 : Int32).toInt).toNat : Int) : Int).toNat.succ 0 _ _ hh (by first | omega | rfl | assumption | decide | exact Or.inl rfl | exact Or.inr rfl | (simp only; omega)) (by omega) _ (lv_sub hl [1, 2, 3, 4, 5, 0] rfl)
        · skip
          have c_8' : z_6.toInt > z_7.toInt := jb_le_n (rfl) (rfl) c_8
          refine lv_iconst (v := 0) hx hb dX5_standsAt_26 (by decide) ?_
          rw [hQ]
          exact W.zret (v := 0) hx hb hr (jb_nz (Or.inl rfl)) (fun t ht hW => ⟨⟨0, (), rfl, ⟨(Or.inl rfl), trivial⟩, hh.rt (M1 := []) [] rfl ht⟩, by rw [ht]; try exact hh.1.1, fun q h9 hq => by rw [ht]; try exact hh.1.2.1 q h9 hq⟩) hh.1.2.2 dX5_standsAt_27
end
section
-- arrays of references that get their kind when they are filled; arrays of arrays of ints
section J22
variable {p : Program} {l : Launch} {e : Env} {R : Room} {s : State} {m : MethodId} {args : Array Value} {below : List Frame} {meth : Method} {c : Code} {H : Heap} {locs : List Loc} {cells slots : Nat} {Q : State → Prop}
variable {cc : ByteArray} {pc : Nat} {ls : Array Slot} {rest : List Value} {dC : Nat → ClassId} {dI : Nat → Nat → Nat} {ca : Nat → ClassId} {B : jF} {base : Nat} {G0 G : jT} {E : List (Nat × Nat)} {H0 : Heap} {zc zs : Nat} {L : List jPin} {M : List jCt} {I : List jIv} {a k n index : Nat} {tys : List (ClassId × FieldType)} {own C : String} {cA : ClassId} {f : Nat → Option Nat}
/-- an array of ints into an array of arrays that has no kind yet -/
theorem j7_qastA {Pv : Nat → Int32 → Prop} (hexec : p.tables.exec = Jvm.exec) (hb : c.code = cc) (hK5 : jK5 dC dI ca s) (hh : jSt (dC, dI) B base G0 G E H0 zc zs L M I H locs) (hB : jBok B) (hraw : va_at (dC, dI) vwCl (a, .inl (ca 8, n, .inr (.inr (.inr (.inr f))))) H) (hnr : ∀ t, G a ≠ some t) (hba : base ≤ a) {i : Int32} {x : Int} (hi : i.toInt = x) (h12 : 0 ≤ x ∧ x < n)
    {v kv nv : Nat} (hBv : ∀ n G a H, B kv n G a H ↔ jAr (dC, dI) (ca 1) Pv n a H) (hkv : kv < 1000) (hv : G v = some (kv, nv)) (hdg : decode cc pc = .ok (.aastore, 1))
    (kk : ∀ (H1 : Heap) (locs1 : List Loc), va_at (dC, dI) vwCl (a, .inl (ca 8, n, .inr (.inr (.inr (.inr (va_up f x.toNat (some v))))))) H1 → (∀ q, q ≠ a → H1[q]? = H[q]?) → jSt (dC, dI) B base G0 G E H0 zc zs L M I H1 locs1 → W p l e R s m args below meth c H1 locs1 cells slots Q (F0 m (pc + 1) ls rest)) : W p l e R s m args below meth c H locs cells slots Q (F0 m pc ls (.ref v :: .int i :: .ref a :: rest)) := by
  obtain ⟨h1, h2⟩ := h12
  have g1 : H[a]? = some (vp_cell (ca 8) (n, .inr (.inr (.inr (.inr f))))) := hraw
  obtain ⟨gv, gv1, -⟩ := hh.ar hBv hkv hv
  have q1 : H[v]? = some (vp_cell (ca 1) (nv, .inl gv)) := gv1
  have hlt := jb_cl_lt hi h1 h2
  have hcl := jb_cl hi h1
  obtain ⟨-, ⟨kA, k1, k2⟩, ⟨kI, hkI⟩, -⟩ := hK5
  refine W.aast hexec hb g1 (fun q h => by cases h) (fun h => by cases h) k1 k2 rfl hkI ⟨jb_n0 hi h1, by show _ < (arrV _ _ _).slots.size; rw [arrV_size]; exact hlt⟩ q1 (fun q h => by cases h) hkI (va_asg _ _) rfl rfl hdg fun H1 e1 z oq => ?_
  refine kk H1 _ ?_ oq (hh.rawput hB hnr hba z oq (jTot_set z g1 e1 (jSet_sz _ _ _) oq) (fun q hq => ?_))
  · show H1[a]? = some (vp_cell _ _)
    rw [e1, vp_cell_q, vp_cell_q, arrV_store, hcl]
    congr 2
    funext q
    by_cases hq : q = x.toNat
    · subst hq
      simp [updV, va_up, va_rf]
    · simp [updV, va_up, hq]
  · rcases List.mem_append.mp hq with h | h
    · exact hh.1.2.2 q h
    · cases List.mem_singleton.mp h; exact hba
end J22
end
section
theorem dX1_addChecked_0 : decode cX1_addChecked 0 = .ok (.aload_n 0, 1) := by decide +kernel
theorem dX1_addChecked_1 : decode cX1_addChecked 1 = .ok (.getfield 72, 3) := by decide +kernel
theorem dX1_addChecked_4 : decode cX1_addChecked 4 = .ok (.aload_n 0, 1) := by decide +kernel
theorem dX1_addChecked_5 : decode cX1_addChecked 5 = .ok (.getfield 69, 3) := by decide +kernel
theorem dX1_addChecked_8 : decode cX1_addChecked 8 = .ok (.if_icmp .ge 23, 3) := by decide +kernel
theorem dX1_addChecked_11 : decode cX1_addChecked 11 = .ok (.aload_n 0, 1) := by decide +kernel
theorem dX1_addChecked_12 : decode cX1_addChecked 12 = .ok (.getfield 32, 3) := by decide +kernel
theorem dX1_addChecked_15 : decode cX1_addChecked 15 = .ok (.aload_n 0, 1) := by decide +kernel
theorem dX1_addChecked_16 : decode cX1_addChecked 16 = .ok (.getfield 72, 3) := by decide +kernel
theorem dX1_addChecked_19 : decode cX1_addChecked 19 = .ok (.aload_n 1, 1) := by decide +kernel
theorem dX1_addChecked_20 : decode cX1_addChecked 20 = .ok (.aastore, 1) := by decide +kernel
theorem dX1_addChecked_21 : decode cX1_addChecked 21 = .ok (.aload_n 0, 1) := by decide +kernel
theorem dX1_addChecked_22 : decode cX1_addChecked 22 = .ok (.dup, 1) := by decide +kernel
theorem dX1_addChecked_23 : decode cX1_addChecked 23 = .ok (.getfield 72, 3) := by decide +kernel
theorem dX1_addChecked_26 : decode cX1_addChecked 26 = .ok (.iconst 1, 1) := by decide +kernel
theorem dX1_addChecked_27 : decode cX1_addChecked 27 = .ok (.iadd, 1) := by decide +kernel
theorem dX1_addChecked_28 : decode cX1_addChecked 28 = .ok (.putfield 72, 3) := by decide +kernel
theorem dX1_addChecked_31 : decode cX1_addChecked 31 = .ok (.return_, 1) := by decide +kernel
theorem dX9_isSameRow_0 : decode cX9_isSameRow 0 = .ok (.aload_n 0, 1) := by decide +kernel
theorem dX9_isSameRow_1 : decode cX9_isSameRow 1 = .ok (.astore_n 2, 1) := by decide +kernel
theorem dX9_isSameRow_2 : decode cX9_isSameRow 2 = .ok (.aload_n 1, 1) := by decide +kernel
theorem dX9_isSameRow_3 : decode cX9_isSameRow 3 = .ok (.astore_n 3, 1) := by decide +kernel
theorem dX9_isSameRow_4 : decode cX9_isSameRow 4 = .ok (.iconst 0, 1) := by decide +kernel
theorem dX9_isSameRow_5 : decode cX9_isSameRow 5 = .ok (.istore 4, 2) := by decide +kernel
theorem dX9_isSameRow_7 : decode cX9_isSameRow 7 = .ok (.iload 4, 2) := by decide +kernel
theorem dX9_isSameRow_9 : decode cX9_isSameRow 9 = .ok (.bipush 41, 2) := by decide +kernel
theorem dX9_isSameRow_11 : decode cX9_isSameRow 11 = .ok (.if_icmp .gt 87, 3) := by decide +kernel
theorem dX9_isSameRow_14 : decode cX9_isSameRow 14 = .ok (.aload_n 2, 1) := by decide +kernel
theorem dX9_isSameRow_15 : decode cX9_isSameRow 15 = .ok (.aload_n 3, 1) := by decide +kernel
theorem dX9_isSameRow_16 : decode cX9_isSameRow 16 = .ok (.if_acmp .ne 5, 3) := by decide +kernel
theorem dX9_isSameRow_19 : decode cX9_isSameRow 19 = .ok (.iconst 1, 1) := by decide +kernel
theorem dX9_isSameRow_20 : decode cX9_isSameRow 20 = .ok (.ireturn, 1) := by decide +kernel
theorem dX9_isSameRow_21 : decode cX9_isSameRow 21 = .ok (.aload_n 2, 1) := by decide +kernel
theorem dX9_isSameRow_22 : decode cX9_isSameRow 22 = .ok (.ifnull 20, 3) := by decide +kernel
theorem dX9_isSameRow_25 : decode cX9_isSameRow 25 = .ok (.aload_n 3, 1) := by decide +kernel
theorem dX9_isSameRow_26 : decode cX9_isSameRow 26 = .ok (.ifnull 16, 3) := by decide +kernel
theorem dX9_isSameRow_29 : decode cX9_isSameRow 29 = .ok (.aload_n 2, 1) := by decide +kernel
theorem dX9_isSameRow_30 : decode cX9_isSameRow 30 = .ok (.getfield 40, 3) := by decide +kernel
theorem dX9_isSameRow_33 : decode cX9_isSameRow 33 = .ok (.arraylength, 1) := by decide +kernel
theorem dX9_isSameRow_34 : decode cX9_isSameRow 34 = .ok (.aload_n 3, 1) := by decide +kernel
theorem dX9_isSameRow_35 : decode cX9_isSameRow 35 = .ok (.getfield 40, 3) := by decide +kernel
theorem dX9_isSameRow_38 : decode cX9_isSameRow 38 = .ok (.arraylength, 1) := by decide +kernel
theorem dX9_isSameRow_39 : decode cX9_isSameRow 39 = .ok (.if_icmp .eq 5, 3) := by decide +kernel
theorem dX9_isSameRow_42 : decode cX9_isSameRow 42 = .ok (.iconst 0, 1) := by decide +kernel
theorem dX9_isSameRow_43 : decode cX9_isSameRow 43 = .ok (.ireturn, 1) := by decide +kernel
theorem dX9_isSameRow_44 : decode cX9_isSameRow 44 = .ok (.iconst 0, 1) := by decide +kernel
theorem dX9_isSameRow_45 : decode cX9_isSameRow 45 = .ok (.istore 5, 2) := by decide +kernel
theorem dX9_isSameRow_47 : decode cX9_isSameRow 47 = .ok (.iload 5, 2) := by decide +kernel
theorem dX9_isSameRow_49 : decode cX9_isSameRow 49 = .ok (.aload_n 2, 1) := by decide +kernel
theorem dX9_isSameRow_50 : decode cX9_isSameRow 50 = .ok (.getfield 40, 3) := by decide +kernel
theorem dX9_isSameRow_53 : decode cX9_isSameRow 53 = .ok (.arraylength, 1) := by decide +kernel
theorem dX9_isSameRow_54 : decode cX9_isSameRow 54 = .ok (.if_icmp .ge 28, 3) := by decide +kernel
theorem dX9_isSameRow_57 : decode cX9_isSameRow 57 = .ok (.aload_n 2, 1) := by decide +kernel
theorem dX9_isSameRow_58 : decode cX9_isSameRow 58 = .ok (.getfield 40, 3) := by decide +kernel
theorem dX9_isSameRow_61 : decode cX9_isSameRow 61 = .ok (.iload 5, 2) := by decide +kernel
theorem dX9_isSameRow_63 : decode cX9_isSameRow 63 = .ok (.iaload, 1) := by decide +kernel
theorem dX9_isSameRow_64 : decode cX9_isSameRow 64 = .ok (.aload_n 3, 1) := by decide +kernel
theorem dX9_isSameRow_65 : decode cX9_isSameRow 65 = .ok (.getfield 40, 3) := by decide +kernel
theorem dX9_isSameRow_68 : decode cX9_isSameRow 68 = .ok (.iload 5, 2) := by decide +kernel
theorem dX9_isSameRow_70 : decode cX9_isSameRow 70 = .ok (.iaload, 1) := by decide +kernel
theorem dX9_isSameRow_71 : decode cX9_isSameRow 71 = .ok (.if_icmp .eq 5, 3) := by decide +kernel
theorem dX9_isSameRow_74 : decode cX9_isSameRow 74 = .ok (.iconst 0, 1) := by decide +kernel
theorem dX9_isSameRow_75 : decode cX9_isSameRow 75 = .ok (.ireturn, 1) := by decide +kernel
theorem dX9_isSameRow_76 : decode cX9_isSameRow 76 = .ok (.iinc 5 1, 3) := by decide +kernel
theorem dX9_isSameRow_79 : decode cX9_isSameRow 79 = .ok (.goto (-32), 3) := by decide +kernel
theorem dX9_isSameRow_82 : decode cX9_isSameRow 82 = .ok (.aload_n 2, 1) := by decide +kernel
theorem dX9_isSameRow_83 : decode cX9_isSameRow 83 = .ok (.getfield 36, 3) := by decide +kernel
theorem dX9_isSameRow_86 : decode cX9_isSameRow 86 = .ok (.astore_n 2, 1) := by decide +kernel
theorem dX9_isSameRow_87 : decode cX9_isSameRow 87 = .ok (.aload_n 3, 1) := by decide +kernel
theorem dX9_isSameRow_88 : decode cX9_isSameRow 88 = .ok (.getfield 36, 3) := by decide +kernel
theorem dX9_isSameRow_91 : decode cX9_isSameRow 91 = .ok (.astore_n 3, 1) := by decide +kernel
theorem dX9_isSameRow_92 : decode cX9_isSameRow 92 = .ok (.iinc 4 1, 3) := by decide +kernel
theorem dX9_isSameRow_95 : decode cX9_isSameRow 95 = .ok (.goto (-88), 3) := by decide +kernel
theorem dX9_isSameRow_98 : decode cX9_isSameRow 98 = .ok (.iconst 0, 1) := by decide +kernel
theorem dX9_isSameRow_99 : decode cX9_isSameRow 99 = .ok (.ireturn, 1) := by decide +kernel
def EX9_isSameRow : List (Nat × Nat) := []
def EX9_isSameRowZ : List (Nat × Nat) := []
set_option maxHeartbeats 4000000 in
set_option maxRecDepth 20000 in
theorem uX9_isSameRow (l : Launch) (dC : Nat → ClassId) (dI : Nat → Nat → Nat) (ca : Nat → ClassId) (base : Nat) (B : jF) (hB : jBok B) (hAp : jAp (dC, dI)) (hB11 : ∀ n G a H, B 11 n G a H ↔ jOb (dC, dI) 11 9 (F11 n G) a H) (hB101 : ∀ n G a H, B 101 n G a H ↔ jAr (dC, dI) (ca 1) (fun j z => True) n a H) (G0 : jT) (H0 : Heap) (r0 : Nat) (r1 : Nat) : Met l yX9_isSameRow (jw yX9_isSameRow cX9_isSameRow 6 (some .boolean)) ({ frames := 0, cells := 0, slots := 0, locals := 0 }) (va_Pc [.ref r0, .ref r1] (fun U => U.heap = H0 ∧ jX B base G0 [] H0 ∧ jG dC dI ca base U ∧ G0 r0 = some (11, 0) ∧ G0 r1 = some (11, 0) ∧ jP (dC, dI) G0 H0 [] ∧ True)) (va_Qi (S := Unit) (fun r u => (r = 0 ∨ r = 1) ∧ (True)) (fun u t => jRt (dC, dI) B base G0 EX9_isSameRow H0 [] t.heap) (jA base)) 0 0 (jA base) := by
  refine Met.ofW (cc := cX9_isSameRow) (maxL := 6) (ret := (some .boolean)) (by decide) rfl ?_
  intro p e s m args below meth c s₁ Bd hml hv
  obtain ⟨rfl, hH0, hX, hG, hg_r0, hg_r1, hP0, hp0⟩ := hv
  have hK := hG.1
  have hx := Bd.exec
  have hb := Bd.bytes
  have hr := Bd.returns
  have hts := atoms_spec (ws := (jw yX9_isSameRow cX9_isSameRow 6 (some .boolean))) Bd.pre
  have htw : ∀ w ∈ jWl, w.before _ s = true := fun w h => hts w (List.mem_cons_of_mem _ h)
  have hown : s.vm.findClass RX9 = some m.cls := findClass_of_methodNamed Bd.named
  have hlocks := Bd.notSynchronized
  obtain ⟨Q, hQ⟩ : ∃ Q, Q = MQ below (va_Qi (S := Unit) (fun r u => (r = 0 ∨ r = 1) ∧ (True)) (fun u t => jRt (dC, dI) B base G0 EX9_isSameRow H0 [] t.heap) (jA base)) ([.ref r0, .ref r1] : List Value).toArray s 0 0 (jA base) := ⟨_, rfl⟩
  rw [← hQ]
  have hl := lv_entry ([.ref r0, .ref r1]) (n := 6) (Nat.le_of_ble_eq_true rfl)
  rw [lg_entry_eq]
  generalize (lg_sl ([.ref r0, .ref r1]) ++ List.replicate (6 - (lg_sl ([.ref r0, .ref r1])).length) Slot.unset).toArray = ls at hl ⊢
  have hl : lv_has ls 6 [(0, .ref r0), (1, .ref r1)] := hl
  generalize hR : (headSpec (jw yX9_isSameRow cX9_isSameRow 6 (some .boolean)) ({ frames := 0, cells := 0, slots := 0, locals := 0 })).room = R
  subst hH0
  have hh : jSt (dC, dI) B base G0 G0 EX9_isSameRow s.heap 0 0 [] [] [] s.heap [] := jSt.start hX hP0 jMc.nil jIs.nil
  clear hX hP0
  have hk0 : (0 : Int32).toInt = 0 := by decide
  have hk1 : (1 : Int32).toInt = 1 := by decide
  have hk41 : (41 : Int32).toInt = 41 := by decide
  have hly_11_0 := htw (u_lay RX9 TX9 0) (jWc_wsX90 _ (u_in_lay (by decide)))
  have hly_11_1 := htw (u_lay RX9 TX9 1) (jWc_wsX90 _ (u_in_lay (by decide)))
  have hlk_40 := (htw (.fieldLink RX9 40 "ProofServer$State" "units" "[I") (jWr_9 _ (List.mem_of_getElem? (i := 2) rfl)))
  have hlk_36 := (htw (.fieldLink RX9 36 "ProofServer$State" "ahead" "LProofServer$State;") (jWr_9 _ (List.mem_of_getElem? (i := 1) rfl)))
  refine lv_aload_n hx hb dX9_isSameRow_0 rfl (lv_at hl 0 rfl) ?_
  refine lv_astore_n (lv' := [(2, .ref r0), (0, .ref r0), (1, .ref r1)]) hx hb dX9_isSameRow_1 rfl hl (by decide) rfl (fun ls hl => ?_)
  refine lv_aload_n hx hb dX9_isSameRow_2 rfl (lv_at hl 2 rfl) ?_
  refine lv_astore_n (lv' := [(3, .ref r1), (2, .ref r0), (0, .ref r0), (1, .ref r1)]) hx hb dX9_isSameRow_3 rfl hl (by decide) rfl (fun ls hl => ?_)
  refine lv_iconst (v := 0) hx hb dX9_isSameRow_4 (by decide) ?_
  refine lv_istore (lv' := [(4, .int 0), (3, .ref r1), (2, .ref r0), (0, .ref r0), (1, .ref r1)]) hx hb dX9_isSameRow_5 hl (by decide) rfl (fun ls hl => ?_)
  have L7 : ∀ (N : Nat) (v2_1 : Option Nat) (v3_1 : Option Nat) (v4_1 : Int32) (H_1 : Heap) (locs_1 : List Loc), jSt (dC, dI) B base G0 G0 EX9_isSameRow s.heap 0 0 [] [] [] H_1 locs_1 → jQn 11 0 G0 v2_1 → jQn 11 0 G0 v3_1 → (0 ≤ v4_1.toInt ∧ v4_1.toInt ≤ 42) → (42 - v4_1.toInt : Int) < N → ∀ ls : Array Slot, lv_has ls 6 [(0, .ref r0), (1, .ref r1), (2, va_rf v2_1), (3, va_rf v3_1), (4, .int v4_1)] → W p l e R s m ([.ref r0, .ref r1] : List Value).toArray below meth c H_1 locs_1 0 0 Q (F0 m 7 ls []) := by
    intro N
    induction N with
    | zero => intro v2_1 v3_1 v4_1 H_1 locs_1 hh_1 hq_v2_1 hq_v3_1 hi_1 hm; exact absurd hm (by omega)
    | succ N L7 =>
      intro v2_1 v3_1 v4_1 H_1 locs_1 hh_1 hq_v2_1 hq_v3_1 hi_1 hm_1 ls hl
      obtain ⟨hi_1_0, hi_1_1⟩ := hi_1
      rcases hq_v2_1 with rfl | ⟨nv_2, rfl, hg_nv_2⟩
      · have hl : lv_has ls 6 [(0, .ref r0), (1, .ref r1), (2, .null), (3, va_rf v3_1), (4, .int v4_1)] := hl
        rcases hq_v3_1 with rfl | ⟨nv_3, rfl, hg_nv_3⟩
        · have hl : lv_has ls 6 [(0, .ref r0), (1, .ref r1), (2, .null), (3, .null), (4, .int v4_1)] := hl
          refine lv_iload hx hb dX9_isSameRow_7 (lv_at hl 4 rfl) ?_
          refine lv_bipush (v := 41) hx hb dX9_isSameRow_9 (by decide) ?_
          refine lv_icmp_gt (tgt := 98) hx hb dX9_isSameRow_11 (by decide) (fun c_4 => ?_) (fun c_4 => ?_)
          · skip
            have c_4' : v4_1.toInt > 41 := jb_gt (rfl) ((by decide)) c_4
            refine lv_iconst (v := 0) hx hb dX9_isSameRow_98 (by decide) ?_
            rw [hQ]
            exact W.zret (v := 0) hx hb hr (jb_nz (Or.inl rfl)) (fun t ht hW => ⟨⟨0, (), rfl, ⟨(Or.inl rfl), trivial⟩, hh_1.rt (M1 := []) [] rfl ht⟩, by rw [ht]; try exact hh_1.1.1, fun q h9 hq => by rw [ht]; try exact hh_1.1.2.1 q h9 hq⟩) hh_1.1.2.2 dX9_isSameRow_99
          · skip
            have c_4' : v4_1.toInt ≤ 41 := jb_gt_n (rfl) ((by decide)) c_4
            refine j7_nld_n hx hb dX9_isSameRow_14 rfl (lv_at hl 2 rfl) ?_
            refine j7_nld_n hx hb dX9_isSameRow_15 rfl (lv_at hl 3 rfl) ?_
            refine lv_acmp_ne (rx := none) (ry := none) (tgt := 21) hx hb dX9_isSameRow_16 (by decide) (fun c_5 => ?_) (fun c_5 => ?_)
            · skip
              exact absurd rfl c_5
            · skip
              refine lv_iconst (v := 1) hx hb dX9_isSameRow_19 (by decide) ?_
              rw [hQ]
              exact W.zret (v := 1) hx hb hr (jb_nz (Or.inr rfl)) (fun t ht hW => ⟨⟨1, (), rfl, ⟨(Or.inr rfl), trivial⟩, hh_1.rt (M1 := []) [] rfl ht⟩, by rw [ht]; try exact hh_1.1.1, fun q h9 hq => by rw [ht]; try exact hh_1.1.2.1 q h9 hq⟩) hh_1.1.2.2 dX9_isSameRow_20
        · have hl : lv_has ls 6 [(0, .ref r0), (1, .ref r1), (2, .null), (3, .ref nv_3), (4, .int v4_1)] := hl
          refine lv_iload hx hb dX9_isSameRow_7 (lv_at hl 4 rfl) ?_
          refine lv_bipush (v := 41) hx hb dX9_isSameRow_9 (by decide) ?_
          refine lv_icmp_gt (tgt := 98) hx hb dX9_isSameRow_11 (by decide) (fun c_6 => ?_) (fun c_6 => ?_)
          · skip
            have c_6' : v4_1.toInt > 41 := jb_gt (rfl) ((by decide)) c_6
            refine lv_iconst (v := 0) hx hb dX9_isSameRow_98 (by decide) ?_
            rw [hQ]
            exact W.zret (v := 0) hx hb hr (jb_nz (Or.inl rfl)) (fun t ht hW => ⟨⟨0, (), rfl, ⟨(Or.inl rfl), trivial⟩, hh_1.rt (M1 := []) [] rfl ht⟩, by rw [ht]; try exact hh_1.1.1, fun q h9 hq => by rw [ht]; try exact hh_1.1.2.1 q h9 hq⟩) hh_1.1.2.2 dX9_isSameRow_99
          · skip
            have c_6' : v4_1.toInt ≤ 41 := jb_gt_n (rfl) ((by decide)) c_6
            refine j7_nld_n hx hb dX9_isSameRow_14 rfl (lv_at hl 2 rfl) ?_
            refine lv_aload_n hx hb dX9_isSameRow_15 rfl (lv_at hl 3 rfl) ?_
            refine lv_acmp_ne (rx := none) (ry := (some nv_3)) (tgt := 21) hx hb dX9_isSameRow_16 (by decide) (fun c_7 => ?_) (fun c_7 => ?_)
            · skip
              refine j7_nld_n hx hb dX9_isSameRow_21 rfl (lv_at hl 2 rfl) ?_
              refine lv_ifnullN (tgt := 42) hx hb dX9_isSameRow_22 (by decide) ?_
              refine lv_iconst (v := 0) hx hb dX9_isSameRow_42 (by decide) ?_
              rw [hQ]
              exact W.zret (v := 0) hx hb hr (jb_nz (Or.inl rfl)) (fun t ht hW => ⟨⟨0, (), rfl, ⟨(Or.inl rfl), trivial⟩, hh_1.rt (M1 := []) [] rfl ht⟩, by rw [ht]; try exact hh_1.1.1, fun q h9 hq => by rw [ht]; try exact hh_1.1.2.1 q h9 hq⟩) hh_1.1.2.2 dX9_isSameRow_43
            · skip
              cases c_7
      · have hl : lv_has ls 6 [(0, .ref r0), (1, .ref r1), (2, .ref nv_2), (3, va_rf v3_1), (4, .int v4_1)] := hl
        rcases hq_v3_1 with rfl | ⟨nv_8, rfl, hg_nv_8⟩
        · have hl : lv_has ls 6 [(0, .ref r0), (1, .ref r1), (2, .ref nv_2), (3, .null), (4, .int v4_1)] := hl
          refine lv_iload hx hb dX9_isSameRow_7 (lv_at hl 4 rfl) ?_
          refine lv_bipush (v := 41) hx hb dX9_isSameRow_9 (by decide) ?_
          refine lv_icmp_gt (tgt := 98) hx hb dX9_isSameRow_11 (by decide) (fun c_9 => ?_) (fun c_9 => ?_)
          · skip
            have c_9' : v4_1.toInt > 41 := jb_gt (rfl) ((by decide)) c_9
            refine lv_iconst (v := 0) hx hb dX9_isSameRow_98 (by decide) ?_
            rw [hQ]
            exact W.zret (v := 0) hx hb hr (jb_nz (Or.inl rfl)) (fun t ht hW => ⟨⟨0, (), rfl, ⟨(Or.inl rfl), trivial⟩, hh_1.rt (M1 := []) [] rfl ht⟩, by rw [ht]; try exact hh_1.1.1, fun q h9 hq => by rw [ht]; try exact hh_1.1.2.1 q h9 hq⟩) hh_1.1.2.2 dX9_isSameRow_99
          · skip
            have c_9' : v4_1.toInt ≤ 41 := jb_gt_n (rfl) ((by decide)) c_9
            refine lv_aload_n hx hb dX9_isSameRow_14 rfl (lv_at hl 2 rfl) ?_
            refine j7_nld_n hx hb dX9_isSameRow_15 rfl (lv_at hl 3 rfl) ?_
            refine lv_acmp_ne (rx := (some nv_2)) (ry := none) (tgt := 21) hx hb dX9_isSameRow_16 (by decide) (fun c_10 => ?_) (fun c_10 => ?_)
            · skip
              refine lv_aload_n hx hb dX9_isSameRow_21 rfl (lv_at hl 2 rfl) ?_
              refine lv_ifnull hx hb dX9_isSameRow_22 ?_
              refine j7_nld_n hx hb dX9_isSameRow_25 rfl (lv_at hl 3 rfl) ?_
              refine lv_ifnullN (tgt := 42) hx hb dX9_isSameRow_26 (by decide) ?_
              refine lv_iconst (v := 0) hx hb dX9_isSameRow_42 (by decide) ?_
              rw [hQ]
              exact W.zret (v := 0) hx hb hr (jb_nz (Or.inl rfl)) (fun t ht hW => ⟨⟨0, (), rfl, ⟨(Or.inl rfl), trivial⟩, hh_1.rt (M1 := []) [] rfl ht⟩, by rw [ht]; try exact hh_1.1.1, fun q h9 hq => by rw [ht]; try exact hh_1.1.2.1 q h9 hq⟩) hh_1.1.2.2 dX9_isSameRow_43
            · skip
              cases c_10
        · have hl : lv_has ls 6 [(0, .ref r0), (1, .ref r1), (2, .ref nv_2), (3, .ref nv_8), (4, .int v4_1)] := hl
          refine lv_iload hx hb dX9_isSameRow_7 (lv_at hl 4 rfl) ?_
          refine lv_bipush (v := 41) hx hb dX9_isSameRow_9 (by decide) ?_
          refine lv_icmp_gt (tgt := 98) hx hb dX9_isSameRow_11 (by decide) (fun c_11 => ?_) (fun c_11 => ?_)
          · skip
            have c_11' : v4_1.toInt > 41 := jb_gt (rfl) ((by decide)) c_11
            refine lv_iconst (v := 0) hx hb dX9_isSameRow_98 (by decide) ?_
            rw [hQ]
            exact W.zret (v := 0) hx hb hr (jb_nz (Or.inl rfl)) (fun t ht hW => ⟨⟨0, (), rfl, ⟨(Or.inl rfl), trivial⟩, hh_1.rt (M1 := []) [] rfl ht⟩, by rw [ht]; try exact hh_1.1.1, fun q h9 hq => by rw [ht]; try exact hh_1.1.2.1 q h9 hq⟩) hh_1.1.2.2 dX9_isSameRow_99
          · skip
            have c_11' : v4_1.toInt ≤ 41 := jb_gt_n (rfl) ((by decide)) c_11
            refine lv_aload_n hx hb dX9_isSameRow_14 rfl (lv_at hl 2 rfl) ?_
            refine lv_aload_n hx hb dX9_isSameRow_15 rfl (lv_at hl 3 rfl) ?_
            refine lv_acmp_ne (rx := (some nv_2)) (ry := (some nv_8)) (tgt := 21) hx hb dX9_isSameRow_16 (by decide) (fun c_12 => ?_) (fun c_12 => ?_)
            · skip
              refine lv_aload_n hx hb dX9_isSameRow_21 rfl (lv_at hl 2 rfl) ?_
              refine lv_ifnull hx hb dX9_isSameRow_22 ?_
              refine lv_aload_n hx hb dX9_isSameRow_25 rfl (lv_at hl 3 rfl) ?_
              refine lv_ifnull hx hb dX9_isSameRow_26 ?_
              refine lv_aload_n hx hb dX9_isSameRow_29 rfl (lv_at hl 2 rfl) ?_
              obtain ⟨v_13, hv_13, hh_14⟩ := hh_1.pin (C := RX9) (T := TX9) (N := 9) hB11 rfl (by decide) hg_nv_2 (i := 1) (by decide) rfl
              clear hh_1
              obtain ⟨units_15, nunits_15, rfl, hg_units_15, hn_units_15⟩ := hv_13
              refine j7_read hx hb hown hK (C := RX9) (T := TX9) (N := 9) rfl hly_11_1 hlk_40 (hh_14.at 0 rfl) dX9_isSameRow_30 ?_
              refine j7_len hx hb hK hh_14 hB101 1 rfl (by decide) hg_units_15 (by omega) dX9_isSameRow_33 (fun z_16 hz_16 => ?_)
              refine lv_aload_n hx hb dX9_isSameRow_34 rfl (lv_at hl 3 rfl) ?_
              obtain ⟨v_17, hv_17, hh_18⟩ := hh_14.pin (C := RX9) (T := TX9) (N := 9) hB11 rfl (by decide) hg_nv_8 (i := 1) (by decide) rfl
              clear hh_14
              obtain ⟨units_19, nunits_19, rfl, hg_units_19, hn_units_19⟩ := hv_17
              refine j7_read hx hb hown hK (C := RX9) (T := TX9) (N := 9) rfl hly_11_1 hlk_40 (hh_18.at 0 rfl) dX9_isSameRow_35 ?_
              refine j7_len hx hb hK hh_18 hB101 1 rfl (by decide) hg_units_19 (by omega) dX9_isSameRow_38 (fun z_20 hz_20 => ?_)
              refine lv_icmp_eq (tgt := 44) hx hb dX9_isSameRow_39 (by decide) (fun c_21 => ?_) (fun c_21 => ?_)
              · skip
                have c_21' : z_16.toInt = z_20.toInt := jb_eq (rfl) (rfl) c_21
                refine lv_iconst (v := 0) hx hb dX9_isSameRow_44 (by decide) ?_
                refine lv_istore (lv' := [(5, .int 0), (0, .ref r0), (1, .ref r1), (2, .ref nv_2), (3, .ref nv_8), (4, .int v4_1)]) hx hb dX9_isSameRow_45 hl (by decide) rfl (fun ls hl => ?_)
                have L47 : ∀ (N : Nat) (v5_22 : Int32) (H_22 : Heap) (locs_22 : List Loc), jSt (dC, dI) B base G0 G0 EX9_isSameRow s.heap 0 0 [(nv_8, 11, 1, .ref units_19), (nv_2, 11, 1, .ref units_15)] [] [] H_22 locs_22 → (0 ≤ v5_22.toInt ∧ v5_22.toInt ≤ 1500) → (1501 - v5_22.toInt : Int) < N → ∀ ls : Array Slot, lv_has ls 6 [(0, .ref r0), (1, .ref r1), (2, .ref nv_2), (3, .ref nv_8), (4, .int v4_1), (5, .int v5_22)] → W p l e R s m ([.ref r0, .ref r1] : List Value).toArray below meth c H_22 locs_22 0 0 Q (F0 m 47 ls []) := by
                  intro N
                  induction N with
                  | zero => intro v5_22 H_22 locs_22 hh_22  hi_22 hm; exact absurd hm (by omega)
                  | succ N L47 =>
                    intro v5_22 H_22 locs_22 hh_22  hi_22 hm_22 ls hl
                    obtain ⟨hi_22_0, hi_22_1⟩ := hi_22
                    refine lv_iload hx hb dX9_isSameRow_47 (lv_at hl 5 rfl) ?_
                    refine lv_aload_n hx hb dX9_isSameRow_49 rfl (lv_at hl 2 rfl) ?_
                    refine j7_read hx hb hown hK (C := RX9) (T := TX9) (N := 9) rfl hly_11_1 hlk_40 (hh_22.at 1 rfl) dX9_isSameRow_50 ?_
                    refine j7_len hx hb hK hh_22 hB101 1 rfl (by decide) hg_units_15 (by omega) dX9_isSameRow_53 (fun z_23 hz_23 => ?_)
                    refine lv_icmp_ge (tgt := 82) hx hb dX9_isSameRow_54 (by decide) (fun c_24 => ?_) (fun c_24 => ?_)
                    · skip
                      have c_24' : v5_22.toInt ≥ z_23.toInt := jb_ge (rfl) (rfl) c_24
                      refine lv_aload_n hx hb dX9_isSameRow_82 rfl (lv_at hl 2 rfl) ?_
                      obtain ⟨v_25, hv_25, hh_26⟩ := hh_22.pin (C := RX9) (T := TX9) (N := 9) hB11 rfl (by decide) hg_nv_2 (i := 0) (by decide) rfl
                      clear hh_22
                      rcases hv_25 with rfl | ⟨ahead_27, rfl, hg_ahead_27⟩
                      · refine j7_read hx hb hown hK (C := RX9) (T := TX9) (N := 9) rfl hly_11_0 hlk_36 (hh_26.at 0 rfl) dX9_isSameRow_83 ?_
                        refine j7_nst_n (lv' := [(2, .null), (0, .ref r0), (1, .ref r1), (3, .ref nv_8), (4, .int v4_1), (5, .int v5_22)]) hx hb dX9_isSameRow_86 rfl hl (by decide) rfl (fun ls hl => ?_)
                        refine lv_aload_n hx hb dX9_isSameRow_87 rfl (lv_at hl 3 rfl) ?_
                        obtain ⟨v_28, hv_28, hh_29⟩ := hh_26.pin (C := RX9) (T := TX9) (N := 9) hB11 rfl (by decide) hg_nv_8 (i := 0) (by decide) rfl
                        clear hh_26
                        rcases hv_28 with rfl | ⟨ahead_30, rfl, hg_ahead_30⟩
                        · refine j7_read hx hb hown hK (C := RX9) (T := TX9) (N := 9) rfl hly_11_0 hlk_36 (hh_29.at 0 rfl) dX9_isSameRow_88 ?_
                          refine j7_nst_n (lv' := [(3, .null), (2, .null), (0, .ref r0), (1, .ref r1), (4, .int v4_1), (5, .int v5_22)]) hx hb dX9_isSameRow_91 rfl hl (by decide) rfl (fun ls hl => ?_)
                          obtain ⟨z_31, ez_31⟩ : ∃ y : Int32, y = v4_1 + 1 := ⟨_, rfl⟩
                          refine lv_iinc (v := z_31) (lv' := [(4, .int z_31), (3, .null), (2, .null), (0, .ref r0), (1, .ref r1), (5, .int v5_22)]) hx hb dX9_isSameRow_92 hl (k := 4) rfl (by rw [ez_31]; rfl) (by decide) rfl (fun ls hl => ?_)
                          have hz_31 : z_31.toInt = v4_1.toInt + 1 := by rw [ez_31]; exact jb_iadd2 (rfl) (by decide) (by omega)
                          refine lv_goto (tgt := 7) hx hb dX9_isSameRow_95 (by decide) ?_
                          exact L7 none none z_31 _ _ (hh_29.sub (L1 := []) [] rfl (M1 := []) [] rfl (I1 := []) [] rfl) (Or.inl rfl) (Or.inl rfl) (by first | omega | (refine ⟨?_, ?_⟩ <;> (first | omega | rfl | assumption | decide | exact Or.inl rfl | exact Or.inr rfl | (simp only; omega)))) (by omega) _ (lv_sub hl [3, 4, 2, 1, 0] rfl)
                        · refine j7_read hx hb hown hK (C := RX9) (T := TX9) (N := 9) rfl hly_11_0 hlk_36 (hh_29.at 0 rfl) dX9_isSameRow_88 ?_
                          refine lv_astore_n (lv' := [(3, .ref ahead_30), (2, .null), (0, .ref r0), (1, .ref r1), (4, .int v4_1), (5, .int v5_22)]) hx hb dX9_isSameRow_91 rfl hl (by decide) rfl (fun ls hl => ?_)
                          obtain ⟨z_32, ez_32⟩ : ∃ y : Int32, y = v4_1 + 1 := ⟨_, rfl⟩
                          refine lv_iinc (v := z_32) (lv' := [(4, .int z_32), (3, .ref ahead_30), (2, .null), (0, .ref r0), (1, .ref r1), (5, .int v5_22)]) hx hb dX9_isSameRow_92 hl (k := 4) rfl (by rw [ez_32]; rfl) (by decide) rfl (fun ls hl => ?_)
                          have hz_32 : z_32.toInt = v4_1.toInt + 1 := by rw [ez_32]; exact jb_iadd2 (rfl) (by decide) (by omega)
                          refine lv_goto (tgt := 7) hx hb dX9_isSameRow_95 (by decide) ?_
                          exact L7 none (some ahead_30) z_32 _ _ (hh_29.sub (L1 := []) [] rfl (M1 := []) [] rfl (I1 := []) [] rfl) (Or.inl rfl) (Or.inr ⟨_, rfl, hg_ahead_30⟩) (by first | omega | (refine ⟨?_, ?_⟩ <;> (first | omega | rfl | assumption | decide | exact Or.inl rfl | exact Or.inr rfl | (simp only; omega)))) (by omega) _ (lv_sub hl [3, 4, 2, 1, 0] rfl)
                      · refine j7_read hx hb hown hK (C := RX9) (T := TX9) (N := 9) rfl hly_11_0 hlk_36 (hh_26.at 0 rfl) dX9_isSameRow_83 ?_
                        refine lv_astore_n (lv' := [(2, .ref ahead_27), (0, .ref r0), (1, .ref r1), (3, .ref nv_8), (4, .int v4_1), (5, .int v5_22)]) hx hb dX9_isSameRow_86 rfl hl (by decide) rfl (fun ls hl => ?_)
                        refine lv_aload_n hx hb dX9_isSameRow_87 rfl (lv_at hl 3 rfl) ?_
                        obtain ⟨v_33, hv_33, hh_34⟩ := hh_26.pin (C := RX9) (T := TX9) (N := 9) hB11 rfl (by decide) hg_nv_8 (i := 0) (by decide) rfl
                        clear hh_26
                        rcases hv_33 with rfl | ⟨ahead_35, rfl, hg_ahead_35⟩
                        · refine j7_read hx hb hown hK (C := RX9) (T := TX9) (N := 9) rfl hly_11_0 hlk_36 (hh_34.at 0 rfl) dX9_isSameRow_88 ?_
                          refine j7_nst_n (lv' := [(3, .null), (2, .ref ahead_27), (0, .ref r0), (1, .ref r1), (4, .int v4_1), (5, .int v5_22)]) hx hb dX9_isSameRow_91 rfl hl (by decide) rfl (fun ls hl => ?_)
                          obtain ⟨z_36, ez_36⟩ : ∃ y : Int32, y = v4_1 + 1 := ⟨_, rfl⟩
                          refine lv_iinc (v := z_36) (lv' := [(4, .int z_36), (3, .null), (2, .ref ahead_27), (0, .ref r0), (1, .ref r1), (5, .int v5_22)]) hx hb dX9_isSameRow_92 hl (k := 4) rfl (by rw [ez_36]; rfl) (by decide) rfl (fun ls hl => ?_)
                          have hz_36 : z_36.toInt = v4_1.toInt + 1 := by rw [ez_36]; exact jb_iadd2 (rfl) (by decide) (by omega)
                          refine lv_goto (tgt := 7) hx hb dX9_isSameRow_95 (by decide) ?_
                          exact L7 (some ahead_27) none z_36 _ _ (hh_34.sub (L1 := []) [] rfl (M1 := []) [] rfl (I1 := []) [] rfl) (Or.inr ⟨_, rfl, hg_ahead_27⟩) (Or.inl rfl) (by first | omega | (refine ⟨?_, ?_⟩ <;> (first | omega | rfl | assumption | decide | exact Or.inl rfl | exact Or.inr rfl | (simp only; omega)))) (by omega) _ (lv_sub hl [3, 4, 2, 1, 0] rfl)
                        · refine j7_read hx hb hown hK (C := RX9) (T := TX9) (N := 9) rfl hly_11_0 hlk_36 (hh_34.at 0 rfl) dX9_isSameRow_88 ?_
                          refine lv_astore_n (lv' := [(3, .ref ahead_35), (2, .ref ahead_27), (0, .ref r0), (1, .ref r1), (4, .int v4_1), (5, .int v5_22)]) hx hb dX9_isSameRow_91 rfl hl (by decide) rfl (fun ls hl => ?_)
                          obtain ⟨z_37, ez_37⟩ : ∃ y : Int32, y = v4_1 + 1 := ⟨_, rfl⟩
                          refine lv_iinc (v := z_37) (lv' := [(4, .int z_37), (3, .ref ahead_35), (2, .ref ahead_27), (0, .ref r0), (1, .ref r1), (5, .int v5_22)]) hx hb dX9_isSameRow_92 hl (k := 4) rfl (by rw [ez_37]; rfl) (by decide) rfl (fun ls hl => ?_)
                          have hz_37 : z_37.toInt = v4_1.toInt + 1 := by rw [ez_37]; exact jb_iadd2 (rfl) (by decide) (by omega)
                          refine lv_goto (tgt := 7) hx hb dX9_isSameRow_95 (by decide) ?_
                          exact L7 (some ahead_27) (some ahead_35) z_37 _ _ (hh_34.sub (L1 := []) [] rfl (M1 := []) [] rfl (I1 := []) [] rfl) (Or.inr ⟨_, rfl, hg_ahead_27⟩) (Or.inr ⟨_, rfl, hg_ahead_35⟩) (by first | omega | (refine ⟨?_, ?_⟩ <;> (first | omega | rfl | assumption | decide | exact Or.inl rfl | exact Or.inr rfl | (simp only; omega)))) (by omega) _ (lv_sub hl [3, 4, 2, 1, 0] rfl)
                    · skip
                      have c_24' : v5_22.toInt < z_23.toInt := jb_ge_n (rfl) (rfl) c_24
                      refine lv_aload_n hx hb dX9_isSameRow_57 rfl (lv_at hl 2 rfl) ?_
                      refine j7_read hx hb hown hK (C := RX9) (T := TX9) (N := 9) rfl hly_11_1 hlk_40 (hh_22.at 1 rfl) dX9_isSameRow_58 ?_
                      refine lv_iload hx hb dX9_isSameRow_61 (lv_at hl 5 rfl) ?_
                      refine j7_iald hx hb hK hh_22 hB101 1 rfl (by decide) hg_units_15 (x := v5_22.toInt) (rfl) (by omega) dX9_isSameRow_63 (fun z_38 (hz_38 : True) => ?_)
                      refine lv_aload_n hx hb dX9_isSameRow_64 rfl (lv_at hl 3 rfl) ?_
                      refine j7_read hx hb hown hK (C := RX9) (T := TX9) (N := 9) rfl hly_11_1 hlk_40 (hh_22.at 0 rfl) dX9_isSameRow_65 ?_
                      refine lv_iload hx hb dX9_isSameRow_68 (lv_at hl 5 rfl) ?_
                      refine j7_iald hx hb hK hh_22 hB101 1 rfl (by decide) hg_units_19 (x := v5_22.toInt) (rfl) (by omega) dX9_isSameRow_70 (fun z_39 (hz_39 : True) => ?_)
                      refine lv_icmp_eq (tgt := 76) hx hb dX9_isSameRow_71 (by decide) (fun c_40 => ?_) (fun c_40 => ?_)
                      · skip
                        have c_40' : z_38.toInt = z_39.toInt := jb_eq (rfl) (rfl) c_40
                        obtain ⟨z_41, ez_41⟩ : ∃ y : Int32, y = v5_22 + 1 := ⟨_, rfl⟩
                        refine lv_iinc (v := z_41) (lv' := [(5, .int z_41), (0, .ref r0), (1, .ref r1), (2, .ref nv_2), (3, .ref nv_8), (4, .int v4_1)]) hx hb dX9_isSameRow_76 hl (k := 5) rfl (by rw [ez_41]; rfl) (by decide) rfl (fun ls hl => ?_)
                        have hz_41 : z_41.toInt = v5_22.toInt + 1 := by rw [ez_41]; exact jb_iadd2 (rfl) (by decide) (by omega)
                        refine lv_goto (tgt := 47) hx hb dX9_isSameRow_79 (by decide) ?_
                        exact L47 z_41 _ _ hh_22 (by first | omega | (refine ⟨?_, ?_⟩ <;> (first | omega | rfl | assumption | decide | exact Or.inl rfl | exact Or.inr rfl | (simp only; omega)))) (by omega) _ (lv_sub hl [1, 2, 3, 4, 5, 0] rfl)
                      · skip
                        have c_40' : z_38.toInt ≠ z_39.toInt := jb_eq_n (rfl) (rfl) c_40
                        refine lv_iconst (v := 0) hx hb dX9_isSameRow_74 (by decide) ?_
                        rw [hQ]
                        exact W.zret (v := 0) hx hb hr (jb_nz (Or.inl rfl)) (fun t ht hW => ⟨⟨0, (), rfl, ⟨(Or.inl rfl), trivial⟩, hh_22.rt (M1 := []) [] rfl ht⟩, by rw [ht]; try exact hh_22.1.1, fun q h9 hq => by rw [ht]; try exact hh_22.1.2.1 q h9 hq⟩) hh_22.1.2.2 dX9_isSameRow_75
                exact L47 (1501 - (0 : Int32).toInt : Int).toNat.succ 0 _ _ hh_18 (by first | omega | (refine ⟨?_, ?_⟩ <;> (first | omega | rfl | assumption | decide | exact Or.inl rfl | exact Or.inr rfl | (simp only; omega)))) (by omega) _ (lv_sub hl [1, 2, 3, 4, 5, 0] rfl)
              · skip
                have c_21' : z_16.toInt ≠ z_20.toInt := jb_eq_n (rfl) (rfl) c_21
                refine lv_iconst (v := 0) hx hb dX9_isSameRow_42 (by decide) ?_
                rw [hQ]
                exact W.zret (v := 0) hx hb hr (jb_nz (Or.inl rfl)) (fun t ht hW => ⟨⟨0, (), rfl, ⟨(Or.inl rfl), trivial⟩, hh_18.rt (M1 := []) [] rfl ht⟩, by rw [ht]; try exact hh_18.1.1, fun q h9 hq => by rw [ht]; try exact hh_18.1.2.1 q h9 hq⟩) hh_18.1.2.2 dX9_isSameRow_43
            · skip
              refine lv_iconst (v := 1) hx hb dX9_isSameRow_19 (by decide) ?_
              rw [hQ]
              exact W.zret (v := 1) hx hb hr (jb_nz (Or.inr rfl)) (fun t ht hW => ⟨⟨1, (), rfl, ⟨(Or.inr rfl), trivial⟩, hh_1.rt (M1 := []) [] rfl ht⟩, by rw [ht]; try exact hh_1.1.1, fun q h9 hq => by rw [ht]; try exact hh_1.1.2.1 q h9 hq⟩) hh_1.1.2.2 dX9_isSameRow_20
  exact L7 (42 - (0 : Int32).toInt : Int).toNat.succ (some r0) (some r1) 0 _ _ hh (Or.inr ⟨_, rfl, hg_r0⟩) (Or.inr ⟨_, rfl, hg_r1⟩) (by first | omega | (refine ⟨?_, ?_⟩ <;> (first | omega | rfl | assumption | decide | exact Or.inl rfl | exact Or.inr rfl | (simp only; omega)))) (by omega) _ (lv_sub hl [3, 4, 2, 1, 0] rfl)
set_option maxHeartbeats 4000000 in
set_option maxRecDepth 20000 in
theorem uX9_isSameRowZ (l : Launch) (dC : Nat → ClassId) (dI : Nat → Nat → Nat) (ca : Nat → ClassId) (base : Nat) (B : jF) (hB : jBok B) (hAp : jAp (dC, dI)) (hB11 : ∀ n G a H, B 11 n G a H ↔ jOb (dC, dI) 11 9 (F11 n G) a H) (hB101 : ∀ n G a H, B 101 n G a H ↔ jAr (dC, dI) (ca 1) (fun j z => True) n a H) (G0 : jT) (H0 : Heap) (r1 : Nat) : Met l yX9_isSameRow (jw yX9_isSameRow cX9_isSameRow 6 (some .boolean)) ({ frames := 0, cells := 0, slots := 0, locals := 0 }) (va_Pc [.null, .ref r1] (fun U => U.heap = H0 ∧ jX B base G0 [] H0 ∧ jG dC dI ca base U ∧ G0 r1 = some (11, 0) ∧ jP (dC, dI) G0 H0 [] ∧ True)) (va_Qi (S := Unit) (fun r u => (r = 0 ∨ r = 1) ∧ (True)) (fun u t => jRt (dC, dI) B base G0 EX9_isSameRowZ H0 [] t.heap) (jA base)) 0 0 (jA base) := by
  refine Met.ofW (cc := cX9_isSameRow) (maxL := 6) (ret := (some .boolean)) (by decide) rfl ?_
  intro p e s m args below meth c s₁ Bd hml hv
  obtain ⟨rfl, hH0, hX, hG, hg_r1, hP0, hp0⟩ := hv
  have hK := hG.1
  have hx := Bd.exec
  have hb := Bd.bytes
  have hr := Bd.returns
  have hts := atoms_spec (ws := (jw yX9_isSameRow cX9_isSameRow 6 (some .boolean))) Bd.pre
  have htw : ∀ w ∈ jWl, w.before _ s = true := fun w h => hts w (List.mem_cons_of_mem _ h)
  have hown : s.vm.findClass RX9 = some m.cls := findClass_of_methodNamed Bd.named
  have hlocks := Bd.notSynchronized
  obtain ⟨Q, hQ⟩ : ∃ Q, Q = MQ below (va_Qi (S := Unit) (fun r u => (r = 0 ∨ r = 1) ∧ (True)) (fun u t => jRt (dC, dI) B base G0 EX9_isSameRowZ H0 [] t.heap) (jA base)) ([.null, .ref r1] : List Value).toArray s 0 0 (jA base) := ⟨_, rfl⟩
  rw [← hQ]
  have hl := lv_entry ([.null, .ref r1]) (n := 6) (Nat.le_of_ble_eq_true rfl)
  rw [lg_entry_eq]
  generalize (lg_sl ([.null, .ref r1]) ++ List.replicate (6 - (lg_sl ([.null, .ref r1])).length) Slot.unset).toArray = ls at hl ⊢
  have hl : lv_has ls 6 [(0, .null), (1, .ref r1)] := hl
  generalize hR : (headSpec (jw yX9_isSameRow cX9_isSameRow 6 (some .boolean)) ({ frames := 0, cells := 0, slots := 0, locals := 0 })).room = R
  subst hH0
  have hh : jSt (dC, dI) B base G0 G0 EX9_isSameRowZ s.heap 0 0 [] [] [] s.heap [] := jSt.start hX hP0 jMc.nil jIs.nil
  clear hX hP0
  have hk0 : (0 : Int32).toInt = 0 := by decide
  have hk1 : (1 : Int32).toInt = 1 := by decide
  have hk41 : (41 : Int32).toInt = 41 := by decide
  have hly_11_0 := htw (u_lay RX9 TX9 0) (jWc_wsX90 _ (u_in_lay (by decide)))
  have hly_11_1 := htw (u_lay RX9 TX9 1) (jWc_wsX90 _ (u_in_lay (by decide)))
  have hlk_40 := (htw (.fieldLink RX9 40 "ProofServer$State" "units" "[I") (jWr_9 _ (List.mem_of_getElem? (i := 2) rfl)))
  have hlk_36 := (htw (.fieldLink RX9 36 "ProofServer$State" "ahead" "LProofServer$State;") (jWr_9 _ (List.mem_of_getElem? (i := 1) rfl)))
  refine j7_nld_n hx hb dX9_isSameRow_0 rfl (lv_at hl 0 rfl) ?_
  refine j7_nst_n (lv' := [(2, .null), (0, .null), (1, .ref r1)]) hx hb dX9_isSameRow_1 rfl hl (by decide) rfl (fun ls hl => ?_)
  refine lv_aload_n hx hb dX9_isSameRow_2 rfl (lv_at hl 2 rfl) ?_
  refine lv_astore_n (lv' := [(3, .ref r1), (2, .null), (0, .null), (1, .ref r1)]) hx hb dX9_isSameRow_3 rfl hl (by decide) rfl (fun ls hl => ?_)
  refine lv_iconst (v := 0) hx hb dX9_isSameRow_4 (by decide) ?_
  refine lv_istore (lv' := [(4, .int 0), (3, .ref r1), (2, .null), (0, .null), (1, .ref r1)]) hx hb dX9_isSameRow_5 hl (by decide) rfl (fun ls hl => ?_)
  have L7 : ∀ (N : Nat) (v2_1 : Option Nat) (v3_1 : Option Nat) (v4_1 : Int32) (H_1 : Heap) (locs_1 : List Loc), jSt (dC, dI) B base G0 G0 EX9_isSameRowZ s.heap 0 0 [] [] [] H_1 locs_1 → jQn 11 0 G0 v2_1 → jQn 11 0 G0 v3_1 → (0 ≤ v4_1.toInt ∧ v4_1.toInt ≤ 42) → (42 - v4_1.toInt : Int) < N → ∀ ls : Array Slot, lv_has ls 6 [(0, .null), (1, .ref r1), (2, va_rf v2_1), (3, va_rf v3_1), (4, .int v4_1)] → W p l e R s m ([.null, .ref r1] : List Value).toArray below meth c H_1 locs_1 0 0 Q (F0 m 7 ls []) := by
    intro N
    induction N with
    | zero => intro v2_1 v3_1 v4_1 H_1 locs_1 hh_1 hq_v2_1 hq_v3_1 hi_1 hm; exact absurd hm (by omega)
    | succ N L7 =>
      intro v2_1 v3_1 v4_1 H_1 locs_1 hh_1 hq_v2_1 hq_v3_1 hi_1 hm_1 ls hl
      obtain ⟨hi_1_0, hi_1_1⟩ := hi_1
      rcases hq_v2_1 with rfl | ⟨nv_2, rfl, hg_nv_2⟩
      · have hl : lv_has ls 6 [(0, .null), (1, .ref r1), (2, .null), (3, va_rf v3_1), (4, .int v4_1)] := hl
        rcases hq_v3_1 with rfl | ⟨nv_3, rfl, hg_nv_3⟩
        · have hl : lv_has ls 6 [(0, .null), (1, .ref r1), (2, .null), (3, .null), (4, .int v4_1)] := hl
          refine lv_iload hx hb dX9_isSameRow_7 (lv_at hl 4 rfl) ?_
          refine lv_bipush (v := 41) hx hb dX9_isSameRow_9 (by decide) ?_
          refine lv_icmp_gt (tgt := 98) hx hb dX9_isSameRow_11 (by decide) (fun c_4 => ?_) (fun c_4 => ?_)
          · skip
            have c_4' : v4_1.toInt > 41 := jb_gt (rfl) ((by decide)) c_4
            refine lv_iconst (v := 0) hx hb dX9_isSameRow_98 (by decide) ?_
            rw [hQ]
            exact W.zret (v := 0) hx hb hr (jb_nz (Or.inl rfl)) (fun t ht hW => ⟨⟨0, (), rfl, ⟨(Or.inl rfl), trivial⟩, hh_1.rt (M1 := []) [] rfl ht⟩, by rw [ht]; try exact hh_1.1.1, fun q h9 hq => by rw [ht]; try exact hh_1.1.2.1 q h9 hq⟩) hh_1.1.2.2 dX9_isSameRow_99
          · skip
            have c_4' : v4_1.toInt ≤ 41 := jb_gt_n (rfl) ((by decide)) c_4
            refine j7_nld_n hx hb dX9_isSameRow_14 rfl (lv_at hl 2 rfl) ?_
            refine j7_nld_n hx hb dX9_isSameRow_15 rfl (lv_at hl 3 rfl) ?_
            refine lv_acmp_ne (rx := none) (ry := none) (tgt := 21) hx hb dX9_isSameRow_16 (by decide) (fun c_5 => ?_) (fun c_5 => ?_)
            · skip
              exact absurd rfl c_5
            · skip
              refine lv_iconst (v := 1) hx hb dX9_isSameRow_19 (by decide) ?_
              rw [hQ]
              exact W.zret (v := 1) hx hb hr (jb_nz (Or.inr rfl)) (fun t ht hW => ⟨⟨1, (), rfl, ⟨(Or.inr rfl), trivial⟩, hh_1.rt (M1 := []) [] rfl ht⟩, by rw [ht]; try exact hh_1.1.1, fun q h9 hq => by rw [ht]; try exact hh_1.1.2.1 q h9 hq⟩) hh_1.1.2.2 dX9_isSameRow_20
        · have hl : lv_has ls 6 [(0, .null), (1, .ref r1), (2, .null), (3, .ref nv_3), (4, .int v4_1)] := hl
          refine lv_iload hx hb dX9_isSameRow_7 (lv_at hl 4 rfl) ?_
          refine lv_bipush (v := 41) hx hb dX9_isSameRow_9 (by decide) ?_
          refine lv_icmp_gt (tgt := 98) hx hb dX9_isSameRow_11 (by decide) (fun c_6 => ?_) (fun c_6 => ?_)
          · skip
            have c_6' : v4_1.toInt > 41 := jb_gt (rfl) ((by decide)) c_6
            refine lv_iconst (v := 0) hx hb dX9_isSameRow_98 (by decide) ?_
            rw [hQ]
            exact W.zret (v := 0) hx hb hr (jb_nz (Or.inl rfl)) (fun t ht hW => ⟨⟨0, (), rfl, ⟨(Or.inl rfl), trivial⟩, hh_1.rt (M1 := []) [] rfl ht⟩, by rw [ht]; try exact hh_1.1.1, fun q h9 hq => by rw [ht]; try exact hh_1.1.2.1 q h9 hq⟩) hh_1.1.2.2 dX9_isSameRow_99
          · skip
            have c_6' : v4_1.toInt ≤ 41 := jb_gt_n (rfl) ((by decide)) c_6
            refine j7_nld_n hx hb dX9_isSameRow_14 rfl (lv_at hl 2 rfl) ?_
            refine lv_aload_n hx hb dX9_isSameRow_15 rfl (lv_at hl 3 rfl) ?_
            refine lv_acmp_ne (rx := none) (ry := (some nv_3)) (tgt := 21) hx hb dX9_isSameRow_16 (by decide) (fun c_7 => ?_) (fun c_7 => ?_)
            · skip
              refine j7_nld_n hx hb dX9_isSameRow_21 rfl (lv_at hl 2 rfl) ?_
              refine lv_ifnullN (tgt := 42) hx hb dX9_isSameRow_22 (by decide) ?_
              refine lv_iconst (v := 0) hx hb dX9_isSameRow_42 (by decide) ?_
              rw [hQ]
              exact W.zret (v := 0) hx hb hr (jb_nz (Or.inl rfl)) (fun t ht hW => ⟨⟨0, (), rfl, ⟨(Or.inl rfl), trivial⟩, hh_1.rt (M1 := []) [] rfl ht⟩, by rw [ht]; try exact hh_1.1.1, fun q h9 hq => by rw [ht]; try exact hh_1.1.2.1 q h9 hq⟩) hh_1.1.2.2 dX9_isSameRow_43
            · skip
              cases c_7
      · have hl : lv_has ls 6 [(0, .null), (1, .ref r1), (2, .ref nv_2), (3, va_rf v3_1), (4, .int v4_1)] := hl
        rcases hq_v3_1 with rfl | ⟨nv_8, rfl, hg_nv_8⟩
        · have hl : lv_has ls 6 [(0, .null), (1, .ref r1), (2, .ref nv_2), (3, .null), (4, .int v4_1)] := hl
          refine lv_iload hx hb dX9_isSameRow_7 (lv_at hl 4 rfl) ?_
          refine lv_bipush (v := 41) hx hb dX9_isSameRow_9 (by decide) ?_
          refine lv_icmp_gt (tgt := 98) hx hb dX9_isSameRow_11 (by decide) (fun c_9 => ?_) (fun c_9 => ?_)
          · skip
            have c_9' : v4_1.toInt > 41 := jb_gt (rfl) ((by decide)) c_9
            refine lv_iconst (v := 0) hx hb dX9_isSameRow_98 (by decide) ?_
            rw [hQ]
            exact W.zret (v := 0) hx hb hr (jb_nz (Or.inl rfl)) (fun t ht hW => ⟨⟨0, (), rfl, ⟨(Or.inl rfl), trivial⟩, hh_1.rt (M1 := []) [] rfl ht⟩, by rw [ht]; try exact hh_1.1.1, fun q h9 hq => by rw [ht]; try exact hh_1.1.2.1 q h9 hq⟩) hh_1.1.2.2 dX9_isSameRow_99
          · skip
            have c_9' : v4_1.toInt ≤ 41 := jb_gt_n (rfl) ((by decide)) c_9
            refine lv_aload_n hx hb dX9_isSameRow_14 rfl (lv_at hl 2 rfl) ?_
            refine j7_nld_n hx hb dX9_isSameRow_15 rfl (lv_at hl 3 rfl) ?_
            refine lv_acmp_ne (rx := (some nv_2)) (ry := none) (tgt := 21) hx hb dX9_isSameRow_16 (by decide) (fun c_10 => ?_) (fun c_10 => ?_)
            · skip
              refine lv_aload_n hx hb dX9_isSameRow_21 rfl (lv_at hl 2 rfl) ?_
              refine lv_ifnull hx hb dX9_isSameRow_22 ?_
              refine j7_nld_n hx hb dX9_isSameRow_25 rfl (lv_at hl 3 rfl) ?_
              refine lv_ifnullN (tgt := 42) hx hb dX9_isSameRow_26 (by decide) ?_
              refine lv_iconst (v := 0) hx hb dX9_isSameRow_42 (by decide) ?_
              rw [hQ]
              exact W.zret (v := 0) hx hb hr (jb_nz (Or.inl rfl)) (fun t ht hW => ⟨⟨0, (), rfl, ⟨(Or.inl rfl), trivial⟩, hh_1.rt (M1 := []) [] rfl ht⟩, by rw [ht]; try exact hh_1.1.1, fun q h9 hq => by rw [ht]; try exact hh_1.1.2.1 q h9 hq⟩) hh_1.1.2.2 dX9_isSameRow_43
            · skip
              cases c_10
        · have hl : lv_has ls 6 [(0, .null), (1, .ref r1), (2, .ref nv_2), (3, .ref nv_8), (4, .int v4_1)] := hl
          refine lv_iload hx hb dX9_isSameRow_7 (lv_at hl 4 rfl) ?_
          refine lv_bipush (v := 41) hx hb dX9_isSameRow_9 (by decide) ?_
          refine lv_icmp_gt (tgt := 98) hx hb dX9_isSameRow_11 (by decide) (fun c_11 => ?_) (fun c_11 => ?_)
          · skip
            have c_11' : v4_1.toInt > 41 := jb_gt (rfl) ((by decide)) c_11
            refine lv_iconst (v := 0) hx hb dX9_isSameRow_98 (by decide) ?_
            rw [hQ]
            exact W.zret (v := 0) hx hb hr (jb_nz (Or.inl rfl)) (fun t ht hW => ⟨⟨0, (), rfl, ⟨(Or.inl rfl), trivial⟩, hh_1.rt (M1 := []) [] rfl ht⟩, by rw [ht]; try exact hh_1.1.1, fun q h9 hq => by rw [ht]; try exact hh_1.1.2.1 q h9 hq⟩) hh_1.1.2.2 dX9_isSameRow_99
          · skip
            have c_11' : v4_1.toInt ≤ 41 := jb_gt_n (rfl) ((by decide)) c_11
            refine lv_aload_n hx hb dX9_isSameRow_14 rfl (lv_at hl 2 rfl) ?_
            refine lv_aload_n hx hb dX9_isSameRow_15 rfl (lv_at hl 3 rfl) ?_
            refine lv_acmp_ne (rx := (some nv_2)) (ry := (some nv_8)) (tgt := 21) hx hb dX9_isSameRow_16 (by decide) (fun c_12 => ?_) (fun c_12 => ?_)
            · skip
              refine lv_aload_n hx hb dX9_isSameRow_21 rfl (lv_at hl 2 rfl) ?_
              refine lv_ifnull hx hb dX9_isSameRow_22 ?_
              refine lv_aload_n hx hb dX9_isSameRow_25 rfl (lv_at hl 3 rfl) ?_
              refine lv_ifnull hx hb dX9_isSameRow_26 ?_
              refine lv_aload_n hx hb dX9_isSameRow_29 rfl (lv_at hl 2 rfl) ?_
              obtain ⟨v_13, hv_13, hh_14⟩ := hh_1.pin (C := RX9) (T := TX9) (N := 9) hB11 rfl (by decide) hg_nv_2 (i := 1) (by decide) rfl
              clear hh_1
              obtain ⟨units_15, nunits_15, rfl, hg_units_15, hn_units_15⟩ := hv_13
              refine j7_read hx hb hown hK (C := RX9) (T := TX9) (N := 9) rfl hly_11_1 hlk_40 (hh_14.at 0 rfl) dX9_isSameRow_30 ?_
              refine j7_len hx hb hK hh_14 hB101 1 rfl (by decide) hg_units_15 (by omega) dX9_isSameRow_33 (fun z_16 hz_16 => ?_)
              refine lv_aload_n hx hb dX9_isSameRow_34 rfl (lv_at hl 3 rfl) ?_
              obtain ⟨v_17, hv_17, hh_18⟩ := hh_14.pin (C := RX9) (T := TX9) (N := 9) hB11 rfl (by decide) hg_nv_8 (i := 1) (by decide) rfl
              clear hh_14
              obtain ⟨units_19, nunits_19, rfl, hg_units_19, hn_units_19⟩ := hv_17
              refine j7_read hx hb hown hK (C := RX9) (T := TX9) (N := 9) rfl hly_11_1 hlk_40 (hh_18.at 0 rfl) dX9_isSameRow_35 ?_
              refine j7_len hx hb hK hh_18 hB101 1 rfl (by decide) hg_units_19 (by omega) dX9_isSameRow_38 (fun z_20 hz_20 => ?_)
              refine lv_icmp_eq (tgt := 44) hx hb dX9_isSameRow_39 (by decide) (fun c_21 => ?_) (fun c_21 => ?_)
              · skip
                have c_21' : z_16.toInt = z_20.toInt := jb_eq (rfl) (rfl) c_21
                refine lv_iconst (v := 0) hx hb dX9_isSameRow_44 (by decide) ?_
                refine lv_istore (lv' := [(5, .int 0), (0, .null), (1, .ref r1), (2, .ref nv_2), (3, .ref nv_8), (4, .int v4_1)]) hx hb dX9_isSameRow_45 hl (by decide) rfl (fun ls hl => ?_)
                have L47 : ∀ (N : Nat) (v5_22 : Int32) (H_22 : Heap) (locs_22 : List Loc), jSt (dC, dI) B base G0 G0 EX9_isSameRowZ s.heap 0 0 [(nv_8, 11, 1, .ref units_19), (nv_2, 11, 1, .ref units_15)] [] [] H_22 locs_22 → (0 ≤ v5_22.toInt ∧ v5_22.toInt ≤ 1500) → (1501 - v5_22.toInt : Int) < N → ∀ ls : Array Slot, lv_has ls 6 [(0, .null), (1, .ref r1), (2, .ref nv_2), (3, .ref nv_8), (4, .int v4_1), (5, .int v5_22)] → W p l e R s m ([.null, .ref r1] : List Value).toArray below meth c H_22 locs_22 0 0 Q (F0 m 47 ls []) := by
                  intro N
                  induction N with
                  | zero => intro v5_22 H_22 locs_22 hh_22  hi_22 hm; exact absurd hm (by omega)
                  | succ N L47 =>
                    intro v5_22 H_22 locs_22 hh_22  hi_22 hm_22 ls hl
                    obtain ⟨hi_22_0, hi_22_1⟩ := hi_22
                    refine lv_iload hx hb dX9_isSameRow_47 (lv_at hl 5 rfl) ?_
                    refine lv_aload_n hx hb dX9_isSameRow_49 rfl (lv_at hl 2 rfl) ?_
                    refine j7_read hx hb hown hK (C := RX9) (T := TX9) (N := 9) rfl hly_11_1 hlk_40 (hh_22.at 1 rfl) dX9_isSameRow_50 ?_
                    refine j7_len hx hb hK hh_22 hB101 1 rfl (by decide) hg_units_15 (by omega) dX9_isSameRow_53 (fun z_23 hz_23 => ?_)
                    refine lv_icmp_ge (tgt := 82) hx hb dX9_isSameRow_54 (by decide) (fun c_24 => ?_) (fun c_24 => ?_)
                    · skip
                      have c_24' : v5_22.toInt ≥ z_23.toInt := jb_ge (rfl) (rfl) c_24
                      refine lv_aload_n hx hb dX9_isSameRow_82 rfl (lv_at hl 2 rfl) ?_
                      obtain ⟨v_25, hv_25, hh_26⟩ := hh_22.pin (C := RX9) (T := TX9) (N := 9) hB11 rfl (by decide) hg_nv_2 (i := 0) (by decide) rfl
                      clear hh_22
                      rcases hv_25 with rfl | ⟨ahead_27, rfl, hg_ahead_27⟩
                      · refine j7_read hx hb hown hK (C := RX9) (T := TX9) (N := 9) rfl hly_11_0 hlk_36 (hh_26.at 0 rfl) dX9_isSameRow_83 ?_
                        refine j7_nst_n (lv' := [(2, .null), (0, .null), (1, .ref r1), (3, .ref nv_8), (4, .int v4_1), (5, .int v5_22)]) hx hb dX9_isSameRow_86 rfl hl (by decide) rfl (fun ls hl => ?_)
                        refine lv_aload_n hx hb dX9_isSameRow_87 rfl (lv_at hl 3 rfl) ?_
                        obtain ⟨v_28, hv_28, hh_29⟩ := hh_26.pin (C := RX9) (T := TX9) (N := 9) hB11 rfl (by decide) hg_nv_8 (i := 0) (by decide) rfl
                        clear hh_26
                        rcases hv_28 with rfl | ⟨ahead_30, rfl, hg_ahead_30⟩
                        · refine j7_read hx hb hown hK (C := RX9) (T := TX9) (N := 9) rfl hly_11_0 hlk_36 (hh_29.at 0 rfl) dX9_isSameRow_88 ?_
                          refine j7_nst_n (lv' := [(3, .null), (2, .null), (0, .null), (1, .ref r1), (4, .int v4_1), (5, .int v5_22)]) hx hb dX9_isSameRow_91 rfl hl (by decide) rfl (fun ls hl => ?_)
                          obtain ⟨z_31, ez_31⟩ : ∃ y : Int32, y = v4_1 + 1 := ⟨_, rfl⟩
                          refine lv_iinc (v := z_31) (lv' := [(4, .int z_31), (3, .null), (2, .null), (0, .null), (1, .ref r1), (5, .int v5_22)]) hx hb dX9_isSameRow_92 hl (k := 4) rfl (by rw [ez_31]; rfl) (by decide) rfl (fun ls hl => ?_)
                          have hz_31 : z_31.toInt = v4_1.toInt + 1 := by rw [ez_31]; exact jb_iadd2 (rfl) (by decide) (by omega)
                          refine lv_goto (tgt := 7) hx hb dX9_isSameRow_95 (by decide) ?_
                          exact L7 none none z_31 _ _ (hh_29.sub (L1 := []) [] rfl (M1 := []) [] rfl (I1 := []) [] rfl) (Or.inl rfl) (Or.inl rfl) (by first | omega | (refine ⟨?_, ?_⟩ <;> (first | omega | rfl | assumption | decide | exact Or.inl rfl | exact Or.inr rfl | (simp only; omega)))) (by omega) _ (lv_sub hl [3, 4, 2, 1, 0] rfl)
                        · refine j7_read hx hb hown hK (C := RX9) (T := TX9) (N := 9) rfl hly_11_0 hlk_36 (hh_29.at 0 rfl) dX9_isSameRow_88 ?_
                          refine lv_astore_n (lv' := [(3, .ref ahead_30), (2, .null), (0, .null), (1, .ref r1), (4, .int v4_1), (5, .int v5_22)]) hx hb dX9_isSameRow_91 rfl hl (by decide) rfl (fun ls hl => ?_)
                          obtain ⟨z_32, ez_32⟩ : ∃ y : Int32, y = v4_1 + 1 := ⟨_, rfl⟩
                          refine lv_iinc (v := z_32) (lv' := [(4, .int z_32), (3, .ref ahead_30), (2, .null), (0, .null), (1, .ref r1), (5, .int v5_22)]) hx hb dX9_isSameRow_92 hl (k := 4) rfl (by rw [ez_32]; rfl) (by decide) rfl (fun ls hl => ?_)
                          have hz_32 : z_32.toInt = v4_1.toInt + 1 := by rw [ez_32]; exact jb_iadd2 (rfl) (by decide) (by omega)
                          refine lv_goto (tgt := 7) hx hb dX9_isSameRow_95 (by decide) ?_
                          exact L7 none (some ahead_30) z_32 _ _ (hh_29.sub (L1 := []) [] rfl (M1 := []) [] rfl (I1 := []) [] rfl) (Or.inl rfl) (Or.inr ⟨_, rfl, hg_ahead_30⟩) (by first | omega | (refine ⟨?_, ?_⟩ <;> (first | omega | rfl | assumption | decide | exact Or.inl rfl | exact Or.inr rfl | (simp only; omega)))) (by omega) _ (lv_sub hl [3, 4, 2, 1, 0] rfl)
                      · refine j7_read hx hb hown hK (C := RX9) (T := TX9) (N := 9) rfl hly_11_0 hlk_36 (hh_26.at 0 rfl) dX9_isSameRow_83 ?_
                        refine lv_astore_n (lv' := [(2, .ref ahead_27), (0, .null), (1, .ref r1), (3, .ref nv_8), (4, .int v4_1), (5, .int v5_22)]) hx hb dX9_isSameRow_86 rfl hl (by decide) rfl (fun ls hl => ?_)
                        refine lv_aload_n hx hb dX9_isSameRow_87 rfl (lv_at hl 3 rfl) ?_
                        obtain ⟨v_33, hv_33, hh_34⟩ := hh_26.pin (C := RX9) (T := TX9) (N := 9) hB11 rfl (by decide) hg_nv_8 (i := 0) (by decide) rfl
                        clear hh_26
                        rcases hv_33 with rfl | ⟨ahead_35, rfl, hg_ahead_35⟩
                        · refine j7_read hx hb hown hK (C := RX9) (T := TX9) (N := 9) rfl hly_11_0 hlk_36 (hh_34.at 0 rfl) dX9_isSameRow_88 ?_
                          refine j7_nst_n (lv' := [(3, .null), (2, .ref ahead_27), (0, .null), (1, .ref r1), (4, .int v4_1), (5, .int v5_22)]) hx hb dX9_isSameRow_91 rfl hl (by decide) rfl (fun ls hl => ?_)
                          obtain ⟨z_36, ez_36⟩ : ∃ y : Int32, y = v4_1 + 1 := ⟨_, rfl⟩
                          refine lv_iinc (v := z_36) (lv' := [(4, .int z_36), (3, .null), (2, .ref ahead_27), (0, .null), (1, .ref r1), (5, .int v5_22)]) hx hb dX9_isSameRow_92 hl (k := 4) rfl (by rw [ez_36]; rfl) (by decide) rfl (fun ls hl => ?_)
                          have hz_36 : z_36.toInt = v4_1.toInt + 1 := by rw [ez_36]; exact jb_iadd2 (rfl) (by decide) (by omega)
                          refine lv_goto (tgt := 7) hx hb dX9_isSameRow_95 (by decide) ?_
                          exact L7 (some ahead_27) none z_36 _ _ (hh_34.sub (L1 := []) [] rfl (M1 := []) [] rfl (I1 := []) [] rfl) (Or.inr ⟨_, rfl, hg_ahead_27⟩) (Or.inl rfl) (by first | omega | (refine ⟨?_, ?_⟩ <;> (first | omega | rfl | assumption | decide | exact Or.inl rfl | exact Or.inr rfl | (simp only; omega)))) (by omega) _ (lv_sub hl [3, 4, 2, 1, 0] rfl)
                        · refine j7_read hx hb hown hK (C := RX9) (T := TX9) (N := 9) rfl hly_11_0 hlk_36 (hh_34.at 0 rfl) dX9_isSameRow_88 ?_
                          refine lv_astore_n (lv' := [(3, .ref ahead_35), (2, .ref ahead_27), (0, .null), (1, .ref r1), (4, .int v4_1), (5, .int v5_22)]) hx hb dX9_isSameRow_91 rfl hl (by decide) rfl (fun ls hl => ?_)
                          obtain ⟨z_37, ez_37⟩ : ∃ y : Int32, y = v4_1 + 1 := ⟨_, rfl⟩
                          refine lv_iinc (v := z_37) (lv' := [(4, .int z_37), (3, .ref ahead_35), (2, .ref ahead_27), (0, .null), (1, .ref r1), (5, .int v5_22)]) hx hb dX9_isSameRow_92 hl (k := 4) rfl (by rw [ez_37]; rfl) (by decide) rfl (fun ls hl => ?_)
                          have hz_37 : z_37.toInt = v4_1.toInt + 1 := by rw [ez_37]; exact jb_iadd2 (rfl) (by decide) (by omega)
                          refine lv_goto (tgt := 7) hx hb dX9_isSameRow_95 (by decide) ?_
                          exact L7 (some ahead_27) (some ahead_35) z_37 _ _ (hh_34.sub (L1 := []) [] rfl (M1 := []) [] rfl (I1 := []) [] rfl) (Or.inr ⟨_, rfl, hg_ahead_27⟩) (Or.inr ⟨_, rfl, hg_ahead_35⟩) (by first | omega | (refine ⟨?_, ?_⟩ <;> (first | omega | rfl | assumption | decide | exact Or.inl rfl | exact Or.inr rfl | (simp only; omega)))) (by omega) _ (lv_sub hl [3, 4, 2, 1, 0] rfl)
                    · skip
                      have c_24' : v5_22.toInt < z_23.toInt := jb_ge_n (rfl) (rfl) c_24
                      refine lv_aload_n hx hb dX9_isSameRow_57 rfl (lv_at hl 2 rfl) ?_
                      refine j7_read hx hb hown hK (C := RX9) (T := TX9) (N := 9) rfl hly_11_1 hlk_40 (hh_22.at 1 rfl) dX9_isSameRow_58 ?_
                      refine lv_iload hx hb dX9_isSameRow_61 (lv_at hl 5 rfl) ?_
                      refine j7_iald hx hb hK hh_22 hB101 1 rfl (by decide) hg_units_15 (x := v5_22.toInt) (rfl) (by omega) dX9_isSameRow_63 (fun z_38 (hz_38 : True) => ?_)
                      refine lv_aload_n hx hb dX9_isSameRow_64 rfl (lv_at hl 3 rfl) ?_
                      refine j7_read hx hb hown hK (C := RX9) (T := TX9) (N := 9) rfl hly_11_1 hlk_40 (hh_22.at 0 rfl) dX9_isSameRow_65 ?_
                      refine lv_iload hx hb dX9_isSameRow_68 (lv_at hl 5 rfl) ?_
                      refine j7_iald hx hb hK hh_22 hB101 1 rfl (by decide) hg_units_19 (x := v5_22.toInt) (rfl) (by omega) dX9_isSameRow_70 (fun z_39 (hz_39 : True) => ?_)
                      refine lv_icmp_eq (tgt := 76) hx hb dX9_isSameRow_71 (by decide) (fun c_40 => ?_) (fun c_40 => ?_)
                      · skip
                        have c_40' : z_38.toInt = z_39.toInt := jb_eq (rfl) (rfl) c_40
                        obtain ⟨z_41, ez_41⟩ : ∃ y : Int32, y = v5_22 + 1 := ⟨_, rfl⟩
                        refine lv_iinc (v := z_41) (lv' := [(5, .int z_41), (0, .null), (1, .ref r1), (2, .ref nv_2), (3, .ref nv_8), (4, .int v4_1)]) hx hb dX9_isSameRow_76 hl (k := 5) rfl (by rw [ez_41]; rfl) (by decide) rfl (fun ls hl => ?_)
                        have hz_41 : z_41.toInt = v5_22.toInt + 1 := by rw [ez_41]; exact jb_iadd2 (rfl) (by decide) (by omega)
                        refine lv_goto (tgt := 47) hx hb dX9_isSameRow_79 (by decide) ?_
                        exact L47 z_41 _ _ hh_22 (by first | omega | (refine ⟨?_, ?_⟩ <;> (first | omega | rfl | assumption | decide | exact Or.inl rfl | exact Or.inr rfl | (simp only; omega)))) (by omega) _ (lv_sub hl [1, 2, 3, 4, 5, 0] rfl)
                      · skip
                        have c_40' : z_38.toInt ≠ z_39.toInt := jb_eq_n (rfl) (rfl) c_40
                        refine lv_iconst (v := 0) hx hb dX9_isSameRow_74 (by decide) ?_
                        rw [hQ]
                        exact W.zret (v := 0) hx hb hr (jb_nz (Or.inl rfl)) (fun t ht hW => ⟨⟨0, (), rfl, ⟨(Or.inl rfl), trivial⟩, hh_22.rt (M1 := []) [] rfl ht⟩, by rw [ht]; try exact hh_22.1.1, fun q h9 hq => by rw [ht]; try exact hh_22.1.2.1 q h9 hq⟩) hh_22.1.2.2 dX9_isSameRow_75
                exact L47 (1501 - (0 : Int32).toInt : Int).toNat.succ 0 _ _ hh_18 (by first | omega | (refine ⟨?_, ?_⟩ <;> (first | omega | rfl | assumption | decide | exact Or.inl rfl | exact Or.inr rfl | (simp only; omega)))) (by omega) _ (lv_sub hl [1, 2, 3, 4, 5, 0] rfl)
              · skip
                have c_21' : z_16.toInt ≠ z_20.toInt := jb_eq_n (rfl) (rfl) c_21
                refine lv_iconst (v := 0) hx hb dX9_isSameRow_42 (by decide) ?_
                rw [hQ]
                exact W.zret (v := 0) hx hb hr (jb_nz (Or.inl rfl)) (fun t ht hW => ⟨⟨0, (), rfl, ⟨(Or.inl rfl), trivial⟩, hh_18.rt (M1 := []) [] rfl ht⟩, by rw [ht]; try exact hh_18.1.1, fun q h9 hq => by rw [ht]; try exact hh_18.1.2.1 q h9 hq⟩) hh_18.1.2.2 dX9_isSameRow_43
            · skip
              refine lv_iconst (v := 1) hx hb dX9_isSameRow_19 (by decide) ?_
              rw [hQ]
              exact W.zret (v := 1) hx hb hr (jb_nz (Or.inr rfl)) (fun t ht hW => ⟨⟨1, (), rfl, ⟨(Or.inr rfl), trivial⟩, hh_1.rt (M1 := []) [] rfl ht⟩, by rw [ht]; try exact hh_1.1.1, fun q h9 hq => by rw [ht]; try exact hh_1.1.2.1 q h9 hq⟩) hh_1.1.2.2 dX9_isSameRow_20
  exact L7 (42 - (0 : Int32).toInt : Int).toNat.succ none (some r1) 0 _ _ hh (Or.inl rfl) (Or.inr ⟨_, rfl, hg_r1⟩) (by first | omega | (refine ⟨?_, ?_⟩ <;> (first | omega | rfl | assumption | decide | exact Or.inl rfl | exact Or.inr rfl | (simp only; omega)))) (by omega) _ (lv_sub hl [3, 4, 2, 1, 0] rfl)
end
section
theorem dJ7_fill_53178_0 : decode cJ7_fill_53178 0 = .ok (.iconst 0, 1) := by decide +kernel
theorem dJ7_fill_53178_1 : decode cJ7_fill_53178 1 = .ok (.istore_n 2, 1) := by decide +kernel
theorem dJ7_fill_53178_2 : decode cJ7_fill_53178 2 = .ok (.aload_n 0, 1) := by decide +kernel
theorem dJ7_fill_53178_3 : decode cJ7_fill_53178 3 = .ok (.arraylength, 1) := by decide +kernel
theorem dJ7_fill_53178_4 : decode cJ7_fill_53178 4 = .ok (.istore_n 3, 1) := by decide +kernel
theorem dJ7_fill_53178_5 : decode cJ7_fill_53178 5 = .ok (.iload_n 2, 1) := by decide +kernel
theorem dJ7_fill_53178_6 : decode cJ7_fill_53178 6 = .ok (.iload_n 3, 1) := by decide +kernel
theorem dJ7_fill_53178_7 : decode cJ7_fill_53178 7 = .ok (.if_icmp .ge 13, 3) := by decide +kernel
theorem dJ7_fill_53178_10 : decode cJ7_fill_53178 10 = .ok (.aload_n 0, 1) := by decide +kernel
theorem dJ7_fill_53178_11 : decode cJ7_fill_53178 11 = .ok (.iload_n 2, 1) := by decide +kernel
theorem dJ7_fill_53178_12 : decode cJ7_fill_53178 12 = .ok (.iload_n 1, 1) := by decide +kernel
theorem dJ7_fill_53178_13 : decode cJ7_fill_53178 13 = .ok (.iastore, 1) := by decide +kernel
theorem dJ7_fill_53178_14 : decode cJ7_fill_53178 14 = .ok (.iinc 2 1, 3) := by decide +kernel
theorem dJ7_fill_53178_17 : decode cJ7_fill_53178 17 = .ok (.goto (-12), 3) := by decide +kernel
theorem dJ7_fill_53178_20 : decode cJ7_fill_53178 20 = .ok (.return_, 1) := by decide +kernel
end
