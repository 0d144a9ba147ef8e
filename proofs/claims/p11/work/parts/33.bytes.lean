abbrev cX0_number : ByteArray := prog_2_method_5_code
def yX0_number : MethodName := ⟨RX0, "number", "(I)V"⟩
def wsX0_number_r1 : List Cond := [Cond.constantLong RX0 44 (1000000000), Cond.constantLong RX0 46 (10), Cond.constantLong RX0 48 (48), Cond.methodLink RX0 40 yX0_put, Cond.instanceMethod yX0_put, Cond.selects RX0 yX0_put yX0_put, Cond.initialized RX0, Cond.code yX0_put cX0_put 2 none, Cond.fieldLink RX0 19 "ProofServer$Bytes" "count" "I", Cond.fieldLink RX0 13 "ProofServer$Bytes" "row" "[B", Cond.constant RX0 23 (1000000), Cond.methodLink RX0 24 yJ7_copyOf_9075b, Cond.static yJ7_copyOf_9075b, Cond.initialized RJ7, Cond.code yJ7_copyOf_9075b cJ7_copyOf_9075b 3 (some (.array .byte)), Cond.methodLink RJ7 310 ⟨"[B", "clone", "()Ljava/lang/Object;"⟩, Cond.sameMethod "[B" "java/lang/Object" "clone" "()Ljava/lang/Object;", Cond.native ⟨"java/lang/Object", "clone", "()Ljava/lang/Object;"⟩, Cond.instanceMethod ⟨"java/lang/Object", "clone", "()Ljava/lang/Object;"⟩, Cond.selects "[B" ⟨"[B", "clone", "()Ljava/lang/Object;"⟩ ⟨"java/lang/Object", "clone", "()Ljava/lang/Object;"⟩, Cond.classLink RJ7 311 "[B", Cond.arrayClass .byte, Cond.methodLink RJ7 304 Lib.Math.min.name, Cond.static Lib.Math.min.name]
def wsX0_number_r2 : List Cond := [Cond.initialized "java/lang/Math", Cond.code Lib.Math.min.name Lib.Math.min.code 2 (some .int), Cond.methodLink RJ7 150 arraycopyName, Cond.native arraycopyName, Cond.static arraycopyName, Cond.initialized "java/lang/System"]
def wsX0_number : List Cond := .code yX0_number cX0_number 9 none :: ((wsX0_number_r1 ++ wsX0_number_r2) ++ wsX00)
set_option maxRecDepth 20000 in
theorem ggX0_number_X0_put : GoodIn wsX0_number wsX0_put := goodIn_r _ [8, 9, 10, 11, 12, 13, 14, 15, 16, 17, 18, 19, 20, 21, 22, 23, 24, 25, 26, 27, 28, 29, 30, 31, 32] (by decide +kernel) (by decide +kernel)
set_option maxRecDepth 20000 in
theorem gX0_number_X0_put : GoodIn wsX0_number (wsV RX0 40 RX0 yX0_put wsX0_put) := goodIn_app (goodIn_of _ (by decide +kernel)) ggX0_number_X0_put
theorem dX0_number_0 : decode cX0_number 0 = .ok (.iload_n 1, 1) := by decide +kernel
theorem dX0_number_1 : decode cX0_number 1 = .ok (.i2l, 1) := by decide +kernel
theorem dX0_number_2 : decode cX0_number 2 = .ok (.lstore_n 2, 1) := by decide +kernel
theorem dX0_number_3 : decode cX0_number 3 = .ok (.lload_n 2, 1) := by decide +kernel
theorem dX0_number_4 : decode cX0_number 4 = .ok (.lconst 0, 1) := by decide +kernel
theorem dX0_number_5 : decode cX0_number 5 = .ok (.lcmp, 1) := by decide +kernel
theorem dX0_number_6 : decode cX0_number 6 = .ok (.ifCond .ge 12, 3) := by decide +kernel
theorem dX0_number_9 : decode cX0_number 9 = .ok (.aload_n 0, 1) := by decide +kernel
theorem dX0_number_10 : decode cX0_number 10 = .ok (.bipush 45, 2) := by decide +kernel
theorem dX0_number_12 : decode cX0_number 12 = .ok (.invokevirtual 40, 3) := by decide +kernel
theorem dX0_number_15 : decode cX0_number 15 = .ok (.lload_n 2, 1) := by decide +kernel
theorem dX0_number_16 : decode cX0_number 16 = .ok (.lneg, 1) := by decide +kernel
theorem dX0_number_17 : decode cX0_number 17 = .ok (.lstore_n 2, 1) := by decide +kernel
theorem dX0_number_18 : decode cX0_number 18 = .ok (.iconst 0, 1) := by decide +kernel
theorem dX0_number_19 : decode cX0_number 19 = .ok (.istore 4, 2) := by decide +kernel
theorem dX0_number_21 : decode cX0_number 21 = .ok (.ldc2_w 44, 3) := by decide +kernel
theorem dX0_number_24 : decode cX0_number 24 = .ok (.lstore 5, 2) := by decide +kernel
theorem dX0_number_26 : decode cX0_number 26 = .ok (.lload 5, 2) := by decide +kernel
theorem dX0_number_28 : decode cX0_number 28 = .ok (.lconst 0, 1) := by decide +kernel
theorem dX0_number_29 : decode cX0_number 29 = .ok (.lcmp, 1) := by decide +kernel
theorem dX0_number_30 : decode cX0_number 30 = .ok (.ifCond .le 66, 3) := by decide +kernel
theorem dX0_number_33 : decode cX0_number 33 = .ok (.lload_n 2, 1) := by decide +kernel
theorem dX0_number_34 : decode cX0_number 34 = .ok (.lload 5, 2) := by decide +kernel
theorem dX0_number_36 : decode cX0_number 36 = .ok (.ldiv, 1) := by decide +kernel
theorem dX0_number_37 : decode cX0_number 37 = .ok (.ldc2_w 46, 3) := by decide +kernel
theorem dX0_number_40 : decode cX0_number 40 = .ok (.lrem, 1) := by decide +kernel
theorem dX0_number_41 : decode cX0_number 41 = .ok (.lstore 7, 2) := by decide +kernel
theorem dX0_number_43 : decode cX0_number 43 = .ok (.iload 4, 2) := by decide +kernel
theorem dX0_number_45 : decode cX0_number 45 = .ok (.ifCond .ne 17, 3) := by decide +kernel
theorem dX0_number_48 : decode cX0_number 48 = .ok (.lload 7, 2) := by decide +kernel
theorem dX0_number_50 : decode cX0_number 50 = .ok (.lconst 0, 1) := by decide +kernel
theorem dX0_number_51 : decode cX0_number 51 = .ok (.lcmp, 1) := by decide +kernel
theorem dX0_number_52 : decode cX0_number 52 = .ok (.ifCond .gt 10, 3) := by decide +kernel
theorem dX0_number_55 : decode cX0_number 55 = .ok (.lload 5, 2) := by decide +kernel
theorem dX0_number_57 : decode cX0_number 57 = .ok (.lconst 1, 1) := by decide +kernel
theorem dX0_number_58 : decode cX0_number 58 = .ok (.lcmp, 1) := by decide +kernel
theorem dX0_number_59 : decode cX0_number 59 = .ok (.ifCond .ne 7, 3) := by decide +kernel
theorem dX0_number_62 : decode cX0_number 62 = .ok (.iconst 1, 1) := by decide +kernel
theorem dX0_number_63 : decode cX0_number 63 = .ok (.goto 4, 3) := by decide +kernel
theorem dX0_number_66 : decode cX0_number 66 = .ok (.iconst 0, 1) := by decide +kernel
theorem dX0_number_67 : decode cX0_number 67 = .ok (.istore 4, 2) := by decide +kernel
theorem dX0_number_69 : decode cX0_number 69 = .ok (.iload 4, 2) := by decide +kernel
theorem dX0_number_71 : decode cX0_number 71 = .ok (.ifCond .eq 14, 3) := by decide +kernel
theorem dX0_number_74 : decode cX0_number 74 = .ok (.aload_n 0, 1) := by decide +kernel
theorem dX0_number_75 : decode cX0_number 75 = .ok (.ldc2_w 48, 3) := by decide +kernel
theorem dX0_number_78 : decode cX0_number 78 = .ok (.lload 7, 2) := by decide +kernel
theorem dX0_number_80 : decode cX0_number 80 = .ok (.ladd, 1) := by decide +kernel
theorem dX0_number_81 : decode cX0_number 81 = .ok (.l2i, 1) := by decide +kernel
theorem dX0_number_82 : decode cX0_number 82 = .ok (.invokevirtual 40, 3) := by decide +kernel
theorem dX0_number_85 : decode cX0_number 85 = .ok (.lload 5, 2) := by decide +kernel
theorem dX0_number_87 : decode cX0_number 87 = .ok (.ldc2_w 46, 3) := by decide +kernel
theorem dX0_number_90 : decode cX0_number 90 = .ok (.ldiv, 1) := by decide +kernel
theorem dX0_number_91 : decode cX0_number 91 = .ok (.lstore 5, 2) := by decide +kernel
theorem dX0_number_93 : decode cX0_number 93 = .ok (.goto (-67), 3) := by decide +kernel
theorem dX0_number_96 : decode cX0_number 96 = .ok (.return_, 1) := by decide +kernel
set_option maxHeartbeats 4000000 in
set_option maxRecDepth 20000 in
theorem tX0_number (l : Launch) (dC : Nat → ClassId) (dI : Nat → Nat → Nat) (ca : Nat → ClassId) (base LC LS : Nat) (B : jF) (hB : jBok B) (G0 : jT) (X : List Nat) (H0 : Heap) (a len0 : Nat) (cnt0 : Int32) (v : Int32) : Met l yX0_number wsX0_number ({ frames := 3, cells := LC - H0.size, slots := LS - jTot H0, locals := 120 }) (va_Pc [.ref a, .int v] (fun U => jPre2 dC dI ca base B LC LS G0 X a len0 cnt0 (11) H0 U ∧ (True))) (va_Qv (S := jT × Nat × Int32) (fun _ => True) (fun u t => jPost2 dC dI ca base B G0 X a len0 cnt0 (11) H0 u t.heap) (jA base)) (LC - H0.size) (LS - jTot H0) (jA base) := by
  refine Met.ofW (cc := cX0_number) (maxL := 9) (ret := none) (by decide) rfl ?_
  intro p e s m args below meth c s₁ Bd hml hv
  obtain ⟨rfl, ⟨hH0, hX0, hBy0, hG, hga, haX, hN⟩, hpre⟩ := hv
  have hK := hG.1
  have hx := Bd.exec
  have hb := Bd.bytes
  have hr := Bd.returns
  have hts := atoms_spec (ws := wsX0_number) Bd.pre
  have hown : s.vm.findClass RX0 = some m.cls := findClass_of_methodNamed Bd.named
  have hlocks := Bd.notSynchronized
  obtain ⟨Q, hQ⟩ : ∃ Q, Q = MQ below (va_Qv (S := jT × Nat × Int32) (fun _ => True) (fun u t => jPost2 dC dI ca base B G0 X a len0 cnt0 (11) H0 u t.heap) (jA base)) ([.ref a, .int v] : List Value).toArray s (LC - H0.size) (LS - jTot H0) (jA base) := ⟨_, rfl⟩
  rw [← hQ]
  have hl := lv_entry ([.ref a, .int v]) (n := 9) (Nat.le_of_ble_eq_true rfl)
  rw [lg_entry_eq]
  generalize (lg_sl ([.ref a, .int v]) ++ List.replicate (9 - (lg_sl ([.ref a, .int v])).length) Slot.unset).toArray = ls at hl ⊢
  have hl : lv_has ls 9 [(0, .ref a), (1, .int v)] := hl
  generalize hR : (headSpec wsX0_number ({ frames := 3, cells := LC - H0.size, slots := LS - jTot H0, locals := 120 })).room = R
  subst hH0
  have hS : va_S (jA base) s.heap s.heap [] := va_S.rf
  have hC := hX0.rf2 hBy0 hN
  obtain ⟨hn1, hn2, hn3, hn4, -⟩ := id hN
  have hk0 : (0 : Int32).toInt = 0 := by decide
  have hk1 : (1 : Int32).toInt = 1 := by decide
  have hk45 : (45 : Int32).toInt = 45 := by decide
  refine lv_iload_n hx hb dX0_number_0 rfl (lv_at hl 1 rfl) ?_
  refine lv_i2l hx hb dX0_number_1 rfl ?_
  refine lv_topl (fun z_1 ez_1 => ?_)
  refine lv_lstore_n (lv' := [(2, .long z_1), (0, .ref a), (1, .int v)]) hx hb dX0_number_2 rfl hl (by decide) rfl (fun ls hl => ?_)
  refine lv_lload_n hx hb dX0_number_3 rfl (lv_at hl 0 rfl) ?_
  refine lv_lconst (v := 0) hx hb dX0_number_4 (by decide) ?_
  refine W.lcmp hx hb dX0_number_5 ?_
  refine lv_topi (fun z_2 ez_2 => ?_)
  have hz_2 := jb_lcmp ez_2
  have hqz_2_0 : (0 : Int64).toInt = 0 := by decide
  refine lv_if_ge (tgt := 18) hx hb dX0_number_6 (by decide) (fun c_3 => ?_) (fun c_3 => ?_)
  · skip
    have c_3' : z_2.toInt ≥ 0 := jb_ge (rfl) ((by decide)) c_3
    refine lv_iconst (v := 0) hx hb dX0_number_18 (by decide) ?_
    refine lv_istore (lv' := [(4, .int 0), (2, .long z_1), (0, .ref a), (1, .int v)]) hx hb dX0_number_19 hl (by decide) rfl (fun ls hl => ?_)
    refine lv_ldc2 hx hb hown (hts (.constantLong RX0 44 1000000000) (by decide +kernel)) dX0_number_21 ?_
    refine lv_lstore (lv' := [(5, .long 1000000000), (4, .int 0), (2, .long z_1), (0, .ref a), (1, .int v)]) hx hb dX0_number_24 hl (by decide) rfl (fun ls hl => ?_)
    have L26 : ∀ (N : Nat) (rs : Int64) (bg : Int32) (pw : Int64) (j : Nat) (G : jT) (len : Nat) (cnt : Int32) (H : Heap) (locs : List Loc) (Kd cc ss : Nat), jPost2 dC dI ca base B G0 X a len0 cnt0 Kd s.heap (G, len, cnt) H → va_S (jA base) s.heap H locs → (pw.toInt < 10 ^ j ∧ Kd + j ≤ 11) → ((j : Int) : Int) < N → ∀ ls : Array Slot, lv_has ls 9 [(0, .ref a), (2, .long rs), (4, .int bg), (5, .long pw)] → W p l e R s m ([.ref a, .int v] : List Value).toArray below meth c H locs cc ss Q (F0 m 26 ls []) := by
      intro N
      induction N with
      | zero => intro rs bg pw j G len cnt H locs Kd cc ss hC hS hi hm; exact absurd hm (by omega)
      | succ N ih =>
        have L26 := ih
        intro rs bg pw j G len cnt H locs Kd cc ss hC hS hi hm ls hl
        obtain ⟨hi0, hi1⟩ := hi
        obtain ⟨P9, eP9⟩ : ∃ P, P = (10 : Int) ^ (j - 1) := ⟨_, rfl⟩
        have q9 : 0 < pw.toInt → 1 ≤ j ∧ pw.toInt / 10 < P9 := fun h => by rw [eP9]; exact jb_p10 hi0 h
        refine lv_lload hx hb dX0_number_26 (lv_at hl 3 rfl) ?_
        refine lv_lconst (v := 0) hx hb dX0_number_28 (by decide) ?_
        refine W.lcmp hx hb dX0_number_29 ?_
        refine lv_topi (fun z_4 ez_4 => ?_)
        have hz_4 := jb_lcmp ez_4
        have hqz_4_0 : (0 : Int64).toInt = 0 := by decide
        refine lv_if_le (tgt := 96) hx hb dX0_number_30 (by decide) (fun c_5 => ?_) (fun c_5 => ?_)
        · skip
          have c_5' : z_4.toInt ≤ 0 := jb_le (rfl) ((by decide)) c_5
          rw [hQ]
          refine W.room (fun kz kt => ?_)
          obtain ⟨-, -, kc, ks⟩ := hN.cells hC (by omega) kt
          refine W.widen (k := LC - s.heap.size) (n := LS - jTot s.heap) kc ks ?_
          exact W.vret hx hb hr (fun t ht hW => ⟨⟨(G, len, cnt), rfl, trivial, by simp only; rw [ht]; exact hC.le (by omega)⟩, by rw [ht]; exact hS.1, fun q h9 hq => by rw [ht]; exact hS.2.1 q h9 hq⟩) hS.2.2 dX0_number_96
        · skip
          have c_5' : z_4.toInt > 0 := jb_le_n (rfl) ((by decide)) c_5
          refine lv_lload_n hx hb dX0_number_33 rfl (lv_at hl 1 rfl) ?_
          refine lv_lload hx hb dX0_number_34 (lv_at hl 3 rfl) ?_
          refine lv_ldiv hx hb dX0_number_36 (jb_lne (by omega)) ?_
          refine lv_topl (fun z_6 ez_6 => ?_)
          refine lv_ldc2 hx hb hown (hts (.constantLong RX0 46 10) (by decide +kernel)) dX0_number_37 ?_
          refine lv_lrem hx hb dX0_number_40 (by decide) ?_
          refine lv_topl (fun z_7 ez_7 => ?_)
          refine lv_lstore (lv' := [(7, .long z_7), (0, .ref a), (2, .long rs), (4, .int bg), (5, .long pw)]) hx hb dX0_number_41 hl (by decide) rfl (fun ls hl => ?_)
          refine lv_iload hx hb dX0_number_43 (lv_at hl 3 rfl) ?_
          refine lv_if_ne (tgt := 62) hx hb dX0_number_45 (by decide) (fun c_8 => ?_) (fun c_8 => ?_)
          · skip
            have c_8' : bg.toInt ≠ 0 := jb_ne (rfl) ((by decide)) c_8
            refine lv_iconst (v := 1) hx hb dX0_number_62 (by decide) ?_
            refine lv_goto (tgt := 67) hx hb dX0_number_63 (by decide) ?_
            refine lv_istore (lv' := [(4, .int 1), (7, .long z_7), (0, .ref a), (2, .long rs), (5, .long pw)]) hx hb dX0_number_67 hl (by decide) rfl (fun ls hl => ?_)
            refine lv_iload hx hb dX0_number_69 (lv_at hl 0 rfl) ?_
            refine lv_if_eq (tgt := 85) hx hb dX0_number_71 (by decide) (fun c_9 => ?_) (fun c_9 => ?_)
            · skip
              exact absurd c_9 (by decide)
            · skip
              refine lv_aload_n hx hb dX0_number_74 rfl (lv_at hl 2 rfl) ?_
              refine lv_ldc2 hx hb hown (hts (.constantLong RX0 48 48) (by decide +kernel)) dX0_number_75 ?_
              refine lv_lload hx hb dX0_number_78 (lv_at hl 1 rfl) ?_
              refine lv_ladd hx hb dX0_number_80 ?_
              refine lv_topl (fun z_10 ez_10 => ?_)
              refine lv_l2i hx hb dX0_number_81 rfl ?_
              refine lv_topi (fun z_11 ez_11 => ?_)
              refine W.room (fun kz_12 kt_12 => ?_)
              obtain ⟨kc_12, ks_12, -, -⟩ := hN.cells hC (by omega) kt_12
              refine va_callv (A0 := jA base) (H0 := s.heap) (va_runV (As := [.int z_11]) (rest := []) ⟨hx, hb, hml, hown, hts⟩ (tX0_put l dC dI ca base LC LS B hB G X H a len cnt z_11) (cwV 1 hts gX0_number_X0_put rfl rfl rfl (by decide +kernel) ⟨by rw [← hR]; exact Nat.le_of_ble_eq_true rfl, by rw [← hR]; exact Nat.le_of_ble_eq_true rfl⟩) ⟨fun av U g mk q => ⟨q.1, jPre2.blind g mk av q.2⟩, hC.2.2.1.recv hK, fun U hU hW => ⟨rfl, jPre2.mk (K2 := 1) hG hW hU hS hN hga haX hX0 hC (by omega)⟩⟩ rfl rfl hl.1 rfl (lv_room (Nat.le_of_ble_eq_true rfl)) dX0_number_82 ⟨by rw [← hR]; exact kc_12, by rw [← hR]; exact ks_12⟩) hS (fun q _ h => h) (fun q h => h) (fun u t H_12 locs_12 ht_12 hvm_12 hw_12 hBb_12 hz_12 hk_12_ hS_12 => ?_)
              obtain ⟨G_12, len_12, cnt_12⟩ := u
              rw [ht_12] at hBb_12
              have hC_12 := hC.tr hBb_12
              clear hBb_12 ht_12 hvm_12 hw_12 hz_12 hk_12_ kc_12 ks_12 kz_12 kt_12
              refine lv_lload hx hb dX0_number_85 (lv_at hl 4 rfl) ?_
              refine lv_ldc2 hx hb hown (hts (.constantLong RX0 46 10) (by decide +kernel)) dX0_number_87 ?_
              refine lv_ldiv hx hb dX0_number_90 (by decide) ?_
              refine lv_topl (fun z_13 ez_13 => ?_)
              have hz_13 : z_13.toInt = pw.toInt / 10 := by rw [ez_13]; exact jb_ldiv (rfl) ((by decide)) (by omega) (by omega)
              refine lv_lstore (lv' := [(5, .long z_13), (4, .int 1), (7, .long z_7), (0, .ref a), (2, .long rs)]) hx hb dX0_number_91 hl (by decide) rfl (fun ls hl => ?_)
              refine lv_goto (tgt := 26) hx hb dX0_number_93 (by decide) ?_
              exact L26 rs 1 z_13 (j - 1) G_12 len_12 cnt_12 H_12 locs_12 ((Kd + 1)) _ _ hC_12 hS_12 (⟨by rw [← eP9]; omega, by omega⟩) (by omega) _ (lv_sub hl [3, 4, 1, 0] rfl)
          · skip
            have c_8' : bg.toInt = 0 := jb_ne_n (rfl) ((by decide)) c_8
            refine lv_lload hx hb dX0_number_48 (lv_at hl 0 rfl) ?_
            refine lv_lconst (v := 0) hx hb dX0_number_50 (by decide) ?_
            refine W.lcmp hx hb dX0_number_51 ?_
            refine lv_topi (fun z_14 ez_14 => ?_)
            have hz_14 := jb_lcmp ez_14
            have hqz_14_0 : (0 : Int64).toInt = 0 := by decide
            refine lv_if_gt (tgt := 62) hx hb dX0_number_52 (by decide) (fun c_15 => ?_) (fun c_15 => ?_)
            · skip
              have c_15' : z_14.toInt > 0 := jb_gt (rfl) ((by decide)) c_15
              refine lv_iconst (v := 1) hx hb dX0_number_62 (by decide) ?_
              refine lv_goto (tgt := 67) hx hb dX0_number_63 (by decide) ?_
              refine lv_istore (lv' := [(4, .int 1), (7, .long z_7), (0, .ref a), (2, .long rs), (5, .long pw)]) hx hb dX0_number_67 hl (by decide) rfl (fun ls hl => ?_)
              refine lv_iload hx hb dX0_number_69 (lv_at hl 0 rfl) ?_
              refine lv_if_eq (tgt := 85) hx hb dX0_number_71 (by decide) (fun c_16 => ?_) (fun c_16 => ?_)
              · skip
                exact absurd c_16 (by decide)
              · skip
                refine lv_aload_n hx hb dX0_number_74 rfl (lv_at hl 2 rfl) ?_
                refine lv_ldc2 hx hb hown (hts (.constantLong RX0 48 48) (by decide +kernel)) dX0_number_75 ?_
                refine lv_lload hx hb dX0_number_78 (lv_at hl 1 rfl) ?_
                refine lv_ladd hx hb dX0_number_80 ?_
                refine lv_topl (fun z_17 ez_17 => ?_)
                refine lv_l2i hx hb dX0_number_81 rfl ?_
                refine lv_topi (fun z_18 ez_18 => ?_)
                refine W.room (fun kz_19 kt_19 => ?_)
                obtain ⟨kc_19, ks_19, -, -⟩ := hN.cells hC (by omega) kt_19
                refine va_callv (A0 := jA base) (H0 := s.heap) (va_runV (As := [.int z_18]) (rest := []) ⟨hx, hb, hml, hown, hts⟩ (tX0_put l dC dI ca base LC LS B hB G X H a len cnt z_18) (cwV 1 hts gX0_number_X0_put rfl rfl rfl (by decide +kernel) ⟨by rw [← hR]; exact Nat.le_of_ble_eq_true rfl, by rw [← hR]; exact Nat.le_of_ble_eq_true rfl⟩) ⟨fun av U g mk q => ⟨q.1, jPre2.blind g mk av q.2⟩, hC.2.2.1.recv hK, fun U hU hW => ⟨rfl, jPre2.mk (K2 := 1) hG hW hU hS hN hga haX hX0 hC (by omega)⟩⟩ rfl rfl hl.1 rfl (lv_room (Nat.le_of_ble_eq_true rfl)) dX0_number_82 ⟨by rw [← hR]; exact kc_19, by rw [← hR]; exact ks_19⟩) hS (fun q _ h => h) (fun q h => h) (fun u t H_19 locs_19 ht_19 hvm_19 hw_19 hBb_19 hz_19 hk_19_ hS_19 => ?_)
                obtain ⟨G_19, len_19, cnt_19⟩ := u
                rw [ht_19] at hBb_19
                have hC_19 := hC.tr hBb_19
                clear hBb_19 ht_19 hvm_19 hw_19 hz_19 hk_19_ kc_19 ks_19 kz_19 kt_19
                refine lv_lload hx hb dX0_number_85 (lv_at hl 4 rfl) ?_
                refine lv_ldc2 hx hb hown (hts (.constantLong RX0 46 10) (by decide +kernel)) dX0_number_87 ?_
                refine lv_ldiv hx hb dX0_number_90 (by decide) ?_
                refine lv_topl (fun z_20 ez_20 => ?_)
                have hz_20 : z_20.toInt = pw.toInt / 10 := by rw [ez_20]; exact jb_ldiv (rfl) ((by decide)) (by omega) (by omega)
                refine lv_lstore (lv' := [(5, .long z_20), (4, .int 1), (7, .long z_7), (0, .ref a), (2, .long rs)]) hx hb dX0_number_91 hl (by decide) rfl (fun ls hl => ?_)
                refine lv_goto (tgt := 26) hx hb dX0_number_93 (by decide) ?_
                exact L26 rs 1 z_20 (j - 1) G_19 len_19 cnt_19 H_19 locs_19 ((Kd + 1)) _ _ hC_19 hS_19 (⟨by rw [← eP9]; omega, by omega⟩) (by omega) _ (lv_sub hl [3, 4, 1, 0] rfl)
            · skip
              have c_15' : z_14.toInt ≤ 0 := jb_gt_n (rfl) ((by decide)) c_15
              refine lv_lload hx hb dX0_number_55 (lv_at hl 4 rfl) ?_
              refine lv_lconst (v := 1) hx hb dX0_number_57 (by decide) ?_
              refine W.lcmp hx hb dX0_number_58 ?_
              refine lv_topi (fun z_21 ez_21 => ?_)
              have hz_21 := jb_lcmp ez_21
              have hqz_21_1 : (1 : Int64).toInt = 1 := by decide
              refine lv_if_ne (tgt := 66) hx hb dX0_number_59 (by decide) (fun c_22 => ?_) (fun c_22 => ?_)
              · skip
                have c_22' : z_21.toInt ≠ 0 := jb_ne (rfl) ((by decide)) c_22
                refine lv_iconst (v := 0) hx hb dX0_number_66 (by decide) ?_
                refine lv_istore (lv' := [(4, .int 0), (7, .long z_7), (0, .ref a), (2, .long rs), (5, .long pw)]) hx hb dX0_number_67 hl (by decide) rfl (fun ls hl => ?_)
                refine lv_iload hx hb dX0_number_69 (lv_at hl 0 rfl) ?_
                refine lv_if_eq (tgt := 85) hx hb dX0_number_71 (by decide) (fun c_23 => ?_) (fun c_23 => ?_)
                · skip
                  refine lv_lload hx hb dX0_number_85 (lv_at hl 4 rfl) ?_
                  refine lv_ldc2 hx hb hown (hts (.constantLong RX0 46 10) (by decide +kernel)) dX0_number_87 ?_
                  refine lv_ldiv hx hb dX0_number_90 (by decide) ?_
                  refine lv_topl (fun z_24 ez_24 => ?_)
                  have hz_24 : z_24.toInt = pw.toInt / 10 := by rw [ez_24]; exact jb_ldiv (rfl) ((by decide)) (by omega) (by omega)
                  refine lv_lstore (lv' := [(5, .long z_24), (4, .int 0), (7, .long z_7), (0, .ref a), (2, .long rs)]) hx hb dX0_number_91 hl (by decide) rfl (fun ls hl => ?_)
                  refine lv_goto (tgt := 26) hx hb dX0_number_93 (by decide) ?_
                  exact L26 rs 0 z_24 (j - 1) G len cnt H locs (Kd) _ _ hC hS (⟨by rw [← eP9]; omega, by omega⟩) (by omega) _ (lv_sub hl [3, 4, 1, 0] rfl)
                · skip
                  exact absurd c_23 (by decide)
              · skip
                have c_22' : z_21.toInt = 0 := jb_ne_n (rfl) ((by decide)) c_22
                refine lv_iconst (v := 1) hx hb dX0_number_62 (by decide) ?_
                refine lv_goto (tgt := 67) hx hb dX0_number_63 (by decide) ?_
                refine lv_istore (lv' := [(4, .int 1), (7, .long z_7), (0, .ref a), (2, .long rs), (5, .long pw)]) hx hb dX0_number_67 hl (by decide) rfl (fun ls hl => ?_)
                refine lv_iload hx hb dX0_number_69 (lv_at hl 0 rfl) ?_
                refine lv_if_eq (tgt := 85) hx hb dX0_number_71 (by decide) (fun c_25 => ?_) (fun c_25 => ?_)
                · skip
                  exact absurd c_25 (by decide)
                · skip
                  refine lv_aload_n hx hb dX0_number_74 rfl (lv_at hl 2 rfl) ?_
                  refine lv_ldc2 hx hb hown (hts (.constantLong RX0 48 48) (by decide +kernel)) dX0_number_75 ?_
                  refine lv_lload hx hb dX0_number_78 (lv_at hl 1 rfl) ?_
                  refine lv_ladd hx hb dX0_number_80 ?_
                  refine lv_topl (fun z_26 ez_26 => ?_)
                  refine lv_l2i hx hb dX0_number_81 rfl ?_
                  refine lv_topi (fun z_27 ez_27 => ?_)
                  refine W.room (fun kz_28 kt_28 => ?_)
                  obtain ⟨kc_28, ks_28, -, -⟩ := hN.cells hC (by omega) kt_28
                  refine va_callv (A0 := jA base) (H0 := s.heap) (va_runV (As := [.int z_27]) (rest := []) ⟨hx, hb, hml, hown, hts⟩ (tX0_put l dC dI ca base LC LS B hB G X H a len cnt z_27) (cwV 1 hts gX0_number_X0_put rfl rfl rfl (by decide +kernel) ⟨by rw [← hR]; exact Nat.le_of_ble_eq_true rfl, by rw [← hR]; exact Nat.le_of_ble_eq_true rfl⟩) ⟨fun av U g mk q => ⟨q.1, jPre2.blind g mk av q.2⟩, hC.2.2.1.recv hK, fun U hU hW => ⟨rfl, jPre2.mk (K2 := 1) hG hW hU hS hN hga haX hX0 hC (by omega)⟩⟩ rfl rfl hl.1 rfl (lv_room (Nat.le_of_ble_eq_true rfl)) dX0_number_82 ⟨by rw [← hR]; exact kc_28, by rw [← hR]; exact ks_28⟩) hS (fun q _ h => h) (fun q h => h) (fun u t H_28 locs_28 ht_28 hvm_28 hw_28 hBb_28 hz_28 hk_28_ hS_28 => ?_)
                  obtain ⟨G_28, len_28, cnt_28⟩ := u
                  rw [ht_28] at hBb_28
                  have hC_28 := hC.tr hBb_28
                  clear hBb_28 ht_28 hvm_28 hw_28 hz_28 hk_28_ kc_28 ks_28 kz_28 kt_28
                  refine lv_lload hx hb dX0_number_85 (lv_at hl 4 rfl) ?_
                  refine lv_ldc2 hx hb hown (hts (.constantLong RX0 46 10) (by decide +kernel)) dX0_number_87 ?_
                  refine lv_ldiv hx hb dX0_number_90 (by decide) ?_
                  refine lv_topl (fun z_29 ez_29 => ?_)
                  have hz_29 : z_29.toInt = pw.toInt / 10 := by rw [ez_29]; exact jb_ldiv (rfl) ((by decide)) (by omega) (by omega)
                  refine lv_lstore (lv' := [(5, .long z_29), (4, .int 1), (7, .long z_7), (0, .ref a), (2, .long rs)]) hx hb dX0_number_91 hl (by decide) rfl (fun ls hl => ?_)
                  refine lv_goto (tgt := 26) hx hb dX0_number_93 (by decide) ?_
                  exact L26 rs 1 z_29 (j - 1) G_28 len_28 cnt_28 H_28 locs_28 ((Kd + 1)) _ _ hC_28 hS_28 (⟨by rw [← eP9]; omega, by omega⟩) (by omega) _ (lv_sub hl [3, 4, 1, 0] rfl)
    exact L26 (10 : Int).toNat.succ z_1 0 1000000000 (10) G0 len0 cnt0 s.heap [] (0) _ _ hC hS (⟨by decide, by omega⟩) (by omega) _ (lv_sub hl [3, 2, 1, 0] rfl)
  · skip
    have c_3' : z_2.toInt < 0 := jb_ge_n (rfl) ((by decide)) c_3
    refine lv_aload_n hx hb dX0_number_9 rfl (lv_at hl 1 rfl) ?_
    refine lv_bipush (v := 45) hx hb dX0_number_10 (by decide) ?_
    refine W.room (fun kz_30 kt_30 => ?_)
    obtain ⟨kc_30, ks_30, -, -⟩ := hN.cells hC (by omega) kt_30
    refine va_callv (A0 := jA base) (H0 := s.heap) (va_runV (As := [.int 45]) (rest := []) ⟨hx, hb, hml, hown, hts⟩ (tX0_put l dC dI ca base LC LS B hB G0 X s.heap a len0 cnt0 45) (cwV 1 hts gX0_number_X0_put rfl rfl rfl (by decide +kernel) ⟨by rw [← hR]; exact Nat.le_of_ble_eq_true rfl, by rw [← hR]; exact Nat.le_of_ble_eq_true rfl⟩) ⟨fun av U g mk q => ⟨q.1, jPre2.blind g mk av q.2⟩, hC.2.2.1.recv hK, fun U hU hW => ⟨rfl, jPre2.mk (K2 := 1) hG hW hU hS hN hga haX hX0 hC (by omega)⟩⟩ rfl rfl hl.1 rfl (lv_room (Nat.le_of_ble_eq_true rfl)) dX0_number_12 ⟨by rw [← hR]; exact kc_30, by rw [← hR]; exact ks_30⟩) hS (fun q _ h => h) (fun q h => h) (fun u t H_30 locs_30 ht_30 hvm_30 hw_30 hBb_30 hz_30 hk_30_ hS_30 => ?_)
    obtain ⟨G_30, len_30, cnt_30⟩ := u
    rw [ht_30] at hBb_30
    have hC_30 := hC.tr hBb_30
    clear hBb_30 ht_30 hvm_30 hw_30 hz_30 hk_30_ kc_30 ks_30 kz_30 kt_30
    refine lv_lload_n hx hb dX0_number_15 rfl (lv_at hl 0 rfl) ?_
    refine lv_lneg hx hb dX0_number_16 ?_
    refine lv_topl (fun z_31 ez_31 => ?_)
    refine lv_lstore_n (lv' := [(2, .long z_31), (0, .ref a), (1, .int v)]) hx hb dX0_number_17 rfl hl (by decide) rfl (fun ls hl => ?_)
    refine lv_iconst (v := 0) hx hb dX0_number_18 (by decide) ?_
    refine lv_istore (lv' := [(4, .int 0), (2, .long z_31), (0, .ref a), (1, .int v)]) hx hb dX0_number_19 hl (by decide) rfl (fun ls hl => ?_)
    refine lv_ldc2 hx hb hown (hts (.constantLong RX0 44 1000000000) (by decide +kernel)) dX0_number_21 ?_
    refine lv_lstore (lv' := [(5, .long 1000000000), (4, .int 0), (2, .long z_31), (0, .ref a), (1, .int v)]) hx hb dX0_number_24 hl (by decide) rfl (fun ls hl => ?_)
    have L26 : ∀ (N : Nat) (rs : Int64) (bg : Int32) (pw : Int64) (j : Nat) (G : jT) (len : Nat) (cnt : Int32) (H : Heap) (locs : List Loc) (Kd cc ss : Nat), jPost2 dC dI ca base B G0 X a len0 cnt0 Kd s.heap (G, len, cnt) H → va_S (jA base) s.heap H locs → (pw.toInt < 10 ^ j ∧ Kd + j ≤ 11) → ((j : Int) : Int) < N → ∀ ls : Array Slot, lv_has ls 9 [(0, .ref a), (2, .long rs), (4, .int bg), (5, .long pw)] → W p l e R s m ([.ref a, .int v] : List Value).toArray below meth c H locs cc ss Q (F0 m 26 ls []) := by
      intro N
      induction N with
      | zero => intro rs bg pw j G len cnt H locs Kd cc ss hC hS hi hm; exact absurd hm (by omega)
      | succ N ih =>
        have L26 := ih
        intro rs bg pw j G len cnt H locs Kd cc ss hC hS hi hm ls hl
        obtain ⟨hi0, hi1⟩ := hi
        obtain ⟨P9, eP9⟩ : ∃ P, P = (10 : Int) ^ (j - 1) := ⟨_, rfl⟩
        have q9 : 0 < pw.toInt → 1 ≤ j ∧ pw.toInt / 10 < P9 := fun h => by rw [eP9]; exact jb_p10 hi0 h
        refine lv_lload hx hb dX0_number_26 (lv_at hl 3 rfl) ?_
        refine lv_lconst (v := 0) hx hb dX0_number_28 (by decide) ?_
        refine W.lcmp hx hb dX0_number_29 ?_
        refine lv_topi (fun z_32 ez_32 => ?_)
        have hz_32 := jb_lcmp ez_32
        have hqz_32_0 : (0 : Int64).toInt = 0 := by decide
        refine lv_if_le (tgt := 96) hx hb dX0_number_30 (by decide) (fun c_33 => ?_) (fun c_33 => ?_)
        · skip
          have c_33' : z_32.toInt ≤ 0 := jb_le (rfl) ((by decide)) c_33
          rw [hQ]
          refine W.room (fun kz kt => ?_)
          obtain ⟨-, -, kc, ks⟩ := hN.cells hC (by omega) kt
          refine W.widen (k := LC - s.heap.size) (n := LS - jTot s.heap) kc ks ?_
          exact W.vret hx hb hr (fun t ht hW => ⟨⟨(G, len, cnt), rfl, trivial, by simp only; rw [ht]; exact hC.le (by omega)⟩, by rw [ht]; exact hS.1, fun q h9 hq => by rw [ht]; exact hS.2.1 q h9 hq⟩) hS.2.2 dX0_number_96
        · skip
          have c_33' : z_32.toInt > 0 := jb_le_n (rfl) ((by decide)) c_33
          refine lv_lload_n hx hb dX0_number_33 rfl (lv_at hl 1 rfl) ?_
          refine lv_lload hx hb dX0_number_34 (lv_at hl 3 rfl) ?_
          refine lv_ldiv hx hb dX0_number_36 (jb_lne (by omega)) ?_
          refine lv_topl (fun z_34 ez_34 => ?_)
          refine lv_ldc2 hx hb hown (hts (.constantLong RX0 46 10) (by decide +kernel)) dX0_number_37 ?_
          refine lv_lrem hx hb dX0_number_40 (by decide) ?_
          refine lv_topl (fun z_35 ez_35 => ?_)
          refine lv_lstore (lv' := [(7, .long z_35), (0, .ref a), (2, .long rs), (4, .int bg), (5, .long pw)]) hx hb dX0_number_41 hl (by decide) rfl (fun ls hl => ?_)
          refine lv_iload hx hb dX0_number_43 (lv_at hl 3 rfl) ?_
          refine lv_if_ne (tgt := 62) hx hb dX0_number_45 (by decide) (fun c_36 => ?_) (fun c_36 => ?_)
          · skip
            have c_36' : bg.toInt ≠ 0 := jb_ne (rfl) ((by decide)) c_36
            refine lv_iconst (v := 1) hx hb dX0_number_62 (by decide) ?_
            refine lv_goto (tgt := 67) hx hb dX0_number_63 (by decide) ?_
            refine lv_istore (lv' := [(4, .int 1), (7, .long z_35), (0, .ref a), (2, .long rs), (5, .long pw)]) hx hb dX0_number_67 hl (by decide) rfl (fun ls hl => ?_)
            refine lv_iload hx hb dX0_number_69 (lv_at hl 0 rfl) ?_
            refine lv_if_eq (tgt := 85) hx hb dX0_number_71 (by decide) (fun c_37 => ?_) (fun c_37 => ?_)
            · skip
              exact absurd c_37 (by decide)
            · skip
              refine lv_aload_n hx hb dX0_number_74 rfl (lv_at hl 2 rfl) ?_
              refine lv_ldc2 hx hb hown (hts (.constantLong RX0 48 48) (by decide +kernel)) dX0_number_75 ?_
              refine lv_lload hx hb dX0_number_78 (lv_at hl 1 rfl) ?_
              refine lv_ladd hx hb dX0_number_80 ?_
              refine lv_topl (fun z_38 ez_38 => ?_)
              refine lv_l2i hx hb dX0_number_81 rfl ?_
              refine lv_topi (fun z_39 ez_39 => ?_)
              refine W.room (fun kz_40 kt_40 => ?_)
              obtain ⟨kc_40, ks_40, -, -⟩ := hN.cells hC (by omega) kt_40
              refine va_callv (A0 := jA base) (H0 := s.heap) (va_runV (As := [.int z_39]) (rest := []) ⟨hx, hb, hml, hown, hts⟩ (tX0_put l dC dI ca base LC LS B hB G X H a len cnt z_39) (cwV 1 hts gX0_number_X0_put rfl rfl rfl (by decide +kernel) ⟨by rw [← hR]; exact Nat.le_of_ble_eq_true rfl, by rw [← hR]; exact Nat.le_of_ble_eq_true rfl⟩) ⟨fun av U g mk q => ⟨q.1, jPre2.blind g mk av q.2⟩, hC.2.2.1.recv hK, fun U hU hW => ⟨rfl, jPre2.mk (K2 := 1) hG hW hU hS hN hga haX hX0 hC (by omega)⟩⟩ rfl rfl hl.1 rfl (lv_room (Nat.le_of_ble_eq_true rfl)) dX0_number_82 ⟨by rw [← hR]; exact kc_40, by rw [← hR]; exact ks_40⟩) hS (fun q _ h => h) (fun q h => h) (fun u t H_40 locs_40 ht_40 hvm_40 hw_40 hBb_40 hz_40 hk_40_ hS_40 => ?_)
              obtain ⟨G_40, len_40, cnt_40⟩ := u
              rw [ht_40] at hBb_40
              have hC_40 := hC.tr hBb_40
              clear hBb_40 ht_40 hvm_40 hw_40 hz_40 hk_40_ kc_40 ks_40 kz_40 kt_40
              refine lv_lload hx hb dX0_number_85 (lv_at hl 4 rfl) ?_
              refine lv_ldc2 hx hb hown (hts (.constantLong RX0 46 10) (by decide +kernel)) dX0_number_87 ?_
              refine lv_ldiv hx hb dX0_number_90 (by decide) ?_
              refine lv_topl (fun z_41 ez_41 => ?_)
              have hz_41 : z_41.toInt = pw.toInt / 10 := by rw [ez_41]; exact jb_ldiv (rfl) ((by decide)) (by omega) (by omega)
              refine lv_lstore (lv' := [(5, .long z_41), (4, .int 1), (7, .long z_35), (0, .ref a), (2, .long rs)]) hx hb dX0_number_91 hl (by decide) rfl (fun ls hl => ?_)
              refine lv_goto (tgt := 26) hx hb dX0_number_93 (by decide) ?_
              exact L26 rs 1 z_41 (j - 1) G_40 len_40 cnt_40 H_40 locs_40 ((Kd + 1)) _ _ hC_40 hS_40 (⟨by rw [← eP9]; omega, by omega⟩) (by omega) _ (lv_sub hl [3, 4, 1, 0] rfl)
          · skip
            have c_36' : bg.toInt = 0 := jb_ne_n (rfl) ((by decide)) c_36
            refine lv_lload hx hb dX0_number_48 (lv_at hl 0 rfl) ?_
            refine lv_lconst (v := 0) hx hb dX0_number_50 (by decide) ?_
            refine W.lcmp hx hb dX0_number_51 ?_
            refine lv_topi (fun z_42 ez_42 => ?_)
            have hz_42 := jb_lcmp ez_42
            have hqz_42_0 : (0 : Int64).toInt = 0 := by decide
            refine lv_if_gt (tgt := 62) hx hb dX0_number_52 (by decide) (fun c_43 => ?_) (fun c_43 => ?_)
            · skip
              have c_43' : z_42.toInt > 0 := jb_gt (rfl) ((by decide)) c_43
              refine lv_iconst (v := 1) hx hb dX0_number_62 (by decide) ?_
              refine lv_goto (tgt := 67) hx hb dX0_number_63 (by decide) ?_
              refine lv_istore (lv' := [(4, .int 1), (7, .long z_35), (0, .ref a), (2, .long rs), (5, .long pw)]) hx hb dX0_number_67 hl (by decide) rfl (fun ls hl => ?_)
              refine lv_iload hx hb dX0_number_69 (lv_at hl 0 rfl) ?_
              refine lv_if_eq (tgt := 85) hx hb dX0_number_71 (by decide) (fun c_44 => ?_) (fun c_44 => ?_)
              · skip
                exact absurd c_44 (by decide)
              · skip
                refine lv_aload_n hx hb dX0_number_74 rfl (lv_at hl 2 rfl) ?_
                refine lv_ldc2 hx hb hown (hts (.constantLong RX0 48 48) (by decide +kernel)) dX0_number_75 ?_
                refine lv_lload hx hb dX0_number_78 (lv_at hl 1 rfl) ?_
                refine lv_ladd hx hb dX0_number_80 ?_
                refine lv_topl (fun z_45 ez_45 => ?_)
                refine lv_l2i hx hb dX0_number_81 rfl ?_
                refine lv_topi (fun z_46 ez_46 => ?_)
                refine W.room (fun kz_47 kt_47 => ?_)
                obtain ⟨kc_47, ks_47, -, -⟩ := hN.cells hC (by omega) kt_47
                refine va_callv (A0 := jA base) (H0 := s.heap) (va_runV (As := [.int z_46]) (rest := []) ⟨hx, hb, hml, hown, hts⟩ (tX0_put l dC dI ca base LC LS B hB G X H a len cnt z_46) (cwV 1 hts gX0_number_X0_put rfl rfl rfl (by decide +kernel) ⟨by rw [← hR]; exact Nat.le_of_ble_eq_true rfl, by rw [← hR]; exact Nat.le_of_ble_eq_true rfl⟩) ⟨fun av U g mk q => ⟨q.1, jPre2.blind g mk av q.2⟩, hC.2.2.1.recv hK, fun U hU hW => ⟨rfl, jPre2.mk (K2 := 1) hG hW hU hS hN hga haX hX0 hC (by omega)⟩⟩ rfl rfl hl.1 rfl (lv_room (Nat.le_of_ble_eq_true rfl)) dX0_number_82 ⟨by rw [← hR]; exact kc_47, by rw [← hR]; exact ks_47⟩) hS (fun q _ h => h) (fun q h => h) (fun u t H_47 locs_47 ht_47 hvm_47 hw_47 hBb_47 hz_47 hk_47_ hS_47 => ?_)
                obtain ⟨G_47, len_47, cnt_47⟩ := u
                rw [ht_47] at hBb_47
                have hC_47 := hC.tr hBb_47
                clear hBb_47 ht_47 hvm_47 hw_47 hz_47 hk_47_ kc_47 ks_47 kz_47 kt_47
                refine lv_lload hx hb dX0_number_85 (lv_at hl 4 rfl) ?_
                refine lv_ldc2 hx hb hown (hts (.constantLong RX0 46 10) (by decide +kernel)) dX0_number_87 ?_
                refine lv_ldiv hx hb dX0_number_90 (by decide) ?_
                refine lv_topl (fun z_48 ez_48 => ?_)
                have hz_48 : z_48.toInt = pw.toInt / 10 := by rw [ez_48]; exact jb_ldiv (rfl) ((by decide)) (by omega) (by omega)
                refine lv_lstore (lv' := [(5, .long z_48), (4, .int 1), (7, .long z_35), (0, .ref a), (2, .long rs)]) hx hb dX0_number_91 hl (by decide) rfl (fun ls hl => ?_)
                refine lv_goto (tgt := 26) hx hb dX0_number_93 (by decide) ?_
                exact L26 rs 1 z_48 (j - 1) G_47 len_47 cnt_47 H_47 locs_47 ((Kd + 1)) _ _ hC_47 hS_47 (⟨by rw [← eP9]; omega, by omega⟩) (by omega) _ (lv_sub hl [3, 4, 1, 0] rfl)
            · skip
              have c_43' : z_42.toInt ≤ 0 := jb_gt_n (rfl) ((by decide)) c_43
              refine lv_lload hx hb dX0_number_55 (lv_at hl 4 rfl) ?_
              refine lv_lconst (v := 1) hx hb dX0_number_57 (by decide) ?_
              refine W.lcmp hx hb dX0_number_58 ?_
              refine lv_topi (fun z_49 ez_49 => ?_)
              have hz_49 := jb_lcmp ez_49
              have hqz_49_1 : (1 : Int64).toInt = 1 := by decide
              refine lv_if_ne (tgt := 66) hx hb dX0_number_59 (by decide) (fun c_50 => ?_) (fun c_50 => ?_)
              · skip
                have c_50' : z_49.toInt ≠ 0 := jb_ne (rfl) ((by decide)) c_50
                refine lv_iconst (v := 0) hx hb dX0_number_66 (by decide) ?_
                refine lv_istore (lv' := [(4, .int 0), (7, .long z_35), (0, .ref a), (2, .long rs), (5, .long pw)]) hx hb dX0_number_67 hl (by decide) rfl (fun ls hl => ?_)
                refine lv_iload hx hb dX0_number_69 (lv_at hl 0 rfl) ?_
                refine lv_if_eq (tgt := 85) hx hb dX0_number_71 (by decide) (fun c_51 => ?_) (fun c_51 => ?_)
                · skip
                  refine lv_lload hx hb dX0_number_85 (lv_at hl 4 rfl) ?_
                  refine lv_ldc2 hx hb hown (hts (.constantLong RX0 46 10) (by decide +kernel)) dX0_number_87 ?_
                  refine lv_ldiv hx hb dX0_number_90 (by decide) ?_
                  refine lv_topl (fun z_52 ez_52 => ?_)
                  have hz_52 : z_52.toInt = pw.toInt / 10 := by rw [ez_52]; exact jb_ldiv (rfl) ((by decide)) (by omega) (by omega)
                  refine lv_lstore (lv' := [(5, .long z_52), (4, .int 0), (7, .long z_35), (0, .ref a), (2, .long rs)]) hx hb dX0_number_91 hl (by decide) rfl (fun ls hl => ?_)
                  refine lv_goto (tgt := 26) hx hb dX0_number_93 (by decide) ?_
                  exact L26 rs 0 z_52 (j - 1) G len cnt H locs (Kd) _ _ hC hS (⟨by rw [← eP9]; omega, by omega⟩) (by omega) _ (lv_sub hl [3, 4, 1, 0] rfl)
                · skip
                  exact absurd c_51 (by decide)
              · skip
                have c_50' : z_49.toInt = 0 := jb_ne_n (rfl) ((by decide)) c_50
                refine lv_iconst (v := 1) hx hb dX0_number_62 (by decide) ?_
                refine lv_goto (tgt := 67) hx hb dX0_number_63 (by decide) ?_
                refine lv_istore (lv' := [(4, .int 1), (7, .long z_35), (0, .ref a), (2, .long rs), (5, .long pw)]) hx hb dX0_number_67 hl (by decide) rfl (fun ls hl => ?_)
                refine lv_iload hx hb dX0_number_69 (lv_at hl 0 rfl) ?_
                refine lv_if_eq (tgt := 85) hx hb dX0_number_71 (by decide) (fun c_53 => ?_) (fun c_53 => ?_)
                · skip
                  exact absurd c_53 (by decide)
                · skip
                  refine lv_aload_n hx hb dX0_number_74 rfl (lv_at hl 2 rfl) ?_
                  refine lv_ldc2 hx hb hown (hts (.constantLong RX0 48 48) (by decide +kernel)) dX0_number_75 ?_
                  refine lv_lload hx hb dX0_number_78 (lv_at hl 1 rfl) ?_
                  refine lv_ladd hx hb dX0_number_80 ?_
                  refine lv_topl (fun z_54 ez_54 => ?_)
                  refine lv_l2i hx hb dX0_number_81 rfl ?_
                  refine lv_topi (fun z_55 ez_55 => ?_)
                  refine W.room (fun kz_56 kt_56 => ?_)
                  obtain ⟨kc_56, ks_56, -, -⟩ := hN.cells hC (by omega) kt_56
                  refine va_callv (A0 := jA base) (H0 := s.heap) (va_runV (As := [.int z_55]) (rest := []) ⟨hx, hb, hml, hown, hts⟩ (tX0_put l dC dI ca base LC LS B hB G X H a len cnt z_55) (cwV 1 hts gX0_number_X0_put rfl rfl rfl (by decide +kernel) ⟨by rw [← hR]; exact Nat.le_of_ble_eq_true rfl, by rw [← hR]; exact Nat.le_of_ble_eq_true rfl⟩) ⟨fun av U g mk q => ⟨q.1, jPre2.blind g mk av q.2⟩, hC.2.2.1.recv hK, fun U hU hW => ⟨rfl, jPre2.mk (K2 := 1) hG hW hU hS hN hga haX hX0 hC (by omega)⟩⟩ rfl rfl hl.1 rfl (lv_room (Nat.le_of_ble_eq_true rfl)) dX0_number_82 ⟨by rw [← hR]; exact kc_56, by rw [← hR]; exact ks_56⟩) hS (fun q _ h => h) (fun q h => h) (fun u t H_56 locs_56 ht_56 hvm_56 hw_56 hBb_56 hz_56 hk_56_ hS_56 => ?_)
                  obtain ⟨G_56, len_56, cnt_56⟩ := u
                  rw [ht_56] at hBb_56
                  have hC_56 := hC.tr hBb_56
                  clear hBb_56 ht_56 hvm_56 hw_56 hz_56 hk_56_ kc_56 ks_56 kz_56 kt_56
                  refine lv_lload hx hb dX0_number_85 (lv_at hl 4 rfl) ?_
                  refine lv_ldc2 hx hb hown (hts (.constantLong RX0 46 10) (by decide +kernel)) dX0_number_87 ?_
                  refine lv_ldiv hx hb dX0_number_90 (by decide) ?_
                  refine lv_topl (fun z_57 ez_57 => ?_)
                  have hz_57 : z_57.toInt = pw.toInt / 10 := by rw [ez_57]; exact jb_ldiv (rfl) ((by decide)) (by omega) (by omega)
                  refine lv_lstore (lv' := [(5, .long z_57), (4, .int 1), (7, .long z_35), (0, .ref a), (2, .long rs)]) hx hb dX0_number_91 hl (by decide) rfl (fun ls hl => ?_)
                  refine lv_goto (tgt := 26) hx hb dX0_number_93 (by decide) ?_
                  exact L26 rs 1 z_57 (j - 1) G_56 len_56 cnt_56 H_56 locs_56 ((Kd + 1)) _ _ hC_56 hS_56 (⟨by rw [← eP9]; omega, by omega⟩) (by omega) _ (lv_sub hl [3, 4, 1, 0] rfl)
    exact L26 (10 : Int).toNat.succ z_31 0 1000000000 (10) G_30 len_30 cnt_30 H_30 locs_30 ((0 + 1)) _ _ hC_30 hS_30 (⟨by decide, by omega⟩) (by omega) _ (lv_sub hl [3, 2, 1, 0] rfl)
