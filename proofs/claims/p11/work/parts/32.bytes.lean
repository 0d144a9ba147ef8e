abbrev cX0_append : ByteArray := prog_2_method_4_code
def yX0_append : MethodName := ⟨RX0, "append", "(LProofServer$Bytes;)V"⟩
def wsX0_append_r1 : List Cond := [Cond.fieldLink RX0 19 "ProofServer$Bytes" "count" "I", Cond.fieldLink RX0 13 "ProofServer$Bytes" "row" "[B", Cond.methodLink RX0 40 yX0_put, Cond.instanceMethod yX0_put, Cond.selects RX0 yX0_put yX0_put, Cond.initialized RX0, Cond.code yX0_put cX0_put 2 none, Cond.constant RX0 23 (1000000), Cond.methodLink RX0 24 yJ7_copyOf_9075b, Cond.static yJ7_copyOf_9075b, Cond.initialized RJ7, Cond.code yJ7_copyOf_9075b cJ7_copyOf_9075b 3 (some (.array .byte)), Cond.methodLink RJ7 310 ⟨"[B", "clone", "()Ljava/lang/Object;"⟩, Cond.sameMethod "[B" "java/lang/Object" "clone" "()Ljava/lang/Object;", Cond.native ⟨"java/lang/Object", "clone", "()Ljava/lang/Object;"⟩, Cond.instanceMethod ⟨"java/lang/Object", "clone", "()Ljava/lang/Object;"⟩, Cond.selects "[B" ⟨"[B", "clone", "()Ljava/lang/Object;"⟩ ⟨"java/lang/Object", "clone", "()Ljava/lang/Object;"⟩, Cond.classLink RJ7 311 "[B", Cond.arrayClass .byte, Cond.methodLink RJ7 304 Lib.Math.min.name, Cond.static Lib.Math.min.name, Cond.initialized "java/lang/Math", Cond.code Lib.Math.min.name Lib.Math.min.code 2 (some .int), Cond.methodLink RJ7 150 arraycopyName]
def wsX0_append_r2 : List Cond := [Cond.native arraycopyName, Cond.static arraycopyName, Cond.initialized "java/lang/System"]
def wsX0_append : List Cond := .code yX0_append cX0_append 3 none :: ((wsX0_append_r1 ++ wsX0_append_r2) ++ wsX00)
set_option maxRecDepth 20000 in
theorem ggX0_append_X0_put : GoodIn wsX0_append wsX0_put := goodIn_r _ [7, 1, 2, 8, 9, 10, 11, 12, 13, 14, 15, 16, 17, 18, 19, 20, 21, 22, 23, 24, 25, 26, 27, 28, 29] (by decide +kernel) (by decide +kernel)
set_option maxRecDepth 20000 in
theorem gX0_append_X0_put : GoodIn wsX0_append (wsV RX0 40 RX0 yX0_put wsX0_put) := goodIn_app (goodIn_of _ (by decide +kernel)) ggX0_append_X0_put
theorem dX0_append_0 : decode cX0_append 0 = .ok (.iconst 0, 1) := by decide +kernel
theorem dX0_append_1 : decode cX0_append 1 = .ok (.istore_n 2, 1) := by decide +kernel
theorem dX0_append_2 : decode cX0_append 2 = .ok (.iload_n 2, 1) := by decide +kernel
theorem dX0_append_3 : decode cX0_append 3 = .ok (.aload_n 1, 1) := by decide +kernel
theorem dX0_append_4 : decode cX0_append 4 = .ok (.getfield 19, 3) := by decide +kernel
theorem dX0_append_7 : decode cX0_append 7 = .ok (.if_icmp .ge 28, 3) := by decide +kernel
theorem dX0_append_10 : decode cX0_append 10 = .ok (.iload_n 2, 1) := by decide +kernel
theorem dX0_append_11 : decode cX0_append 11 = .ok (.aload_n 1, 1) := by decide +kernel
theorem dX0_append_12 : decode cX0_append 12 = .ok (.getfield 13, 3) := by decide +kernel
theorem dX0_append_15 : decode cX0_append 15 = .ok (.arraylength, 1) := by decide +kernel
theorem dX0_append_16 : decode cX0_append 16 = .ok (.if_icmp .ge 19, 3) := by decide +kernel
theorem dX0_append_19 : decode cX0_append 19 = .ok (.aload_n 0, 1) := by decide +kernel
theorem dX0_append_20 : decode cX0_append 20 = .ok (.aload_n 1, 1) := by decide +kernel
theorem dX0_append_21 : decode cX0_append 21 = .ok (.getfield 13, 3) := by decide +kernel
theorem dX0_append_24 : decode cX0_append 24 = .ok (.iload_n 2, 1) := by decide +kernel
theorem dX0_append_25 : decode cX0_append 25 = .ok (.baload, 1) := by decide +kernel
theorem dX0_append_26 : decode cX0_append 26 = .ok (.invokevirtual 40, 3) := by decide +kernel
theorem dX0_append_29 : decode cX0_append 29 = .ok (.iinc 2 1, 3) := by decide +kernel
theorem dX0_append_32 : decode cX0_append 32 = .ok (.goto (-30), 3) := by decide +kernel
theorem dX0_append_35 : decode cX0_append 35 = .ok (.return_, 1) := by decide +kernel
set_option maxHeartbeats 4000000 in
set_option maxRecDepth 20000 in
theorem tX0_append (l : Launch) (dC : Nat → ClassId) (dI : Nat → Nat → Nat) (ca : Nat → ClassId) (base LC LS : Nat) (B : jF) (hB : jBok B) (G0 : jT) (X : List Nat) (H0 : Heap) (a len0 : Nat) (cnt0 : Int32) (o leno n_o : Nat) (cnto : Int32) : Met l yX0_append wsX0_append ({ frames := 3, cells := LC - H0.size, slots := LS - jTot H0, locals := 120 }) (va_Pc [.ref a, .ref o] (fun U => jPre2 dC dI ca base B LC LS G0 X a len0 cnt0 (cnto.toInt.toNat) H0 U ∧ jBy dC dI ca G0 o leno cnto H0 ∧ G0 o = some (2, n_o) ∧ o ≠ a ∧ (0 ≤ cnto.toInt ∧ cnto.toInt ≤ leno ∧ leno ≤ 1048576))) (va_Qv (S := jT × Nat × Int32) (fun _ => True) (fun u t => jPost2 dC dI ca base B G0 X a len0 cnt0 (cnto.toInt.toNat) H0 u t.heap) (jA base)) (LC - H0.size) (LS - jTot H0) (jA base) := by
  refine Met.ofW (cc := cX0_append) (maxL := 3) (ret := none) (by decide) rfl ?_
  intro p e s m args below meth c s₁ Bd hml hv
  obtain ⟨rfl, ⟨hH0, hX0, hBy0, hG, hga, haX, hN⟩, hby_o, hgb_o, hnb_o, ho0, ho1, ho2⟩ := hv
  have hK := hG.1
  have hx := Bd.exec
  have hb := Bd.bytes
  have hr := Bd.returns
  have hts := atoms_spec (ws := wsX0_append) Bd.pre
  have hown : s.vm.findClass RX0 = some m.cls := findClass_of_methodNamed Bd.named
  have hlocks := Bd.notSynchronized
  have hin_2 : ∀ w ∈ u_ws RX0 TX0 2, w ∈ wsX0_append := by decide +kernel
  obtain ⟨Q, hQ⟩ : ∃ Q, Q = MQ below (va_Qv (S := jT × Nat × Int32) (fun _ => True) (fun u t => jPost2 dC dI ca base B G0 X a len0 cnt0 (cnto.toInt.toNat) H0 u t.heap) (jA base)) ([.ref a, .ref o] : List Value).toArray s (LC - H0.size) (LS - jTot H0) (jA base) := ⟨_, rfl⟩
  rw [← hQ]
  have hl := lv_entry ([.ref a, .ref o]) (n := 3) (Nat.le_of_ble_eq_true rfl)
  rw [lg_entry_eq]
  generalize (lg_sl ([.ref a, .ref o]) ++ List.replicate (3 - (lg_sl ([.ref a, .ref o])).length) Slot.unset).toArray = ls at hl ⊢
  have hl : lv_has ls 3 [(0, .ref a), (1, .ref o)] := hl
  generalize hR : (headSpec wsX0_append ({ frames := 3, cells := LC - H0.size, slots := LS - jTot H0, locals := 120 })).room = R
  subst hH0
  have hS : va_S (jA base) s.heap s.heap [] := va_S.rf
  have hC := hX0.rf2 hBy0 hN
  obtain ⟨hn1, hn2, hn3, hn4, -⟩ := id hN
  have hk0 : (0 : Int32).toInt = 0 := by decide
  have hk1 : (1 : Int32).toInt = 1 := by decide
  refine lv_iconst (v := 0) hx hb dX0_append_0 (by decide) ?_
  refine lv_istore_n (lv' := [(2, .int 0), (0, .ref a), (1, .ref o)]) hx hb dX0_append_1 rfl hl (by decide) rfl (fun ls hl => ?_)
  have L2 : ∀ (N : Nat) (iv : Int32) (G : jT) (len : Nat) (cnt : Int32) (H : Heap) (locs : List Loc) (Kd cc ss : Nat), jPost2 dC dI ca base B G0 X a len0 cnt0 Kd s.heap (G, len, cnt) H → va_S (jA base) s.heap H locs → (0 ≤ iv.toInt ∧ iv.toInt ≤ cnto.toInt ∧ (Kd : Int) = iv.toInt) → (cnto.toInt - iv.toInt : Int) < N → ∀ ls : Array Slot, lv_has ls 3 [(0, .ref a), (1, .ref o), (2, .int iv)] → W p l e R s m ([.ref a, .ref o] : List Value).toArray below meth c H locs cc ss Q (F0 m 2 ls []) := by
    intro N
    induction N with
    | zero => intro iv G len cnt H locs Kd cc ss hC hS hi hm; exact absurd hm (by omega)
    | succ N ih =>
      have L2 := ih
      intro iv G len cnt H locs Kd cc ss hC hS hi hm ls hl
      obtain ⟨hi0, hi1, hi2⟩ := hi
      refine lv_iload_n hx hb dX0_append_2 rfl (lv_at hl 2 rfl) ?_
      refine lv_aload_n hx hb dX0_append_3 rfl (lv_at hl 1 rfl) ?_
      obtain ⟨ro_1, fo_1, hao_1, har_1, -, -⟩ := hC.other hX0 hga hby_o hgb_o hnb_o
      refine va_get (D := (dC, dI)) (ci := 2) (v := .int cnto) (C := RX0) (T := TX0) (N := 2) hx hb hts hin_2 hown hK (jp_one hao_1) 0 rfl rfl 1 (by decide) (hts (.fieldLink RX0 19 "ProofServer$Bytes" "count" "I") (by decide +kernel)) (fun _ h9 => h9) rfl dX0_append_4 ?_
      refine lv_icmp_ge (tgt := 35) hx hb dX0_append_7 (by decide) (fun c_2 => ?_) (fun c_2 => ?_)
      · skip
        have c_2' : iv.toInt ≥ cnto.toInt := jb_ge (rfl) (rfl) c_2
        rw [hQ]
        refine W.room (fun kz kt => ?_)
        obtain ⟨-, -, kc, ks⟩ := hN.cells hC (by omega) kt
        refine W.widen (k := LC - s.heap.size) (n := LS - jTot s.heap) kc ks ?_
        exact W.vret hx hb hr (fun t ht hW => ⟨⟨(G, len, cnt), rfl, trivial, by simp only; rw [ht]; exact hC.le (by omega)⟩, by rw [ht]; exact hS.1, fun q h9 hq => by rw [ht]; exact hS.2.1 q h9 hq⟩) hS.2.2 dX0_append_35
      · skip
        have c_2' : iv.toInt < cnto.toInt := jb_ge_n (rfl) (rfl) c_2
        refine lv_iload_n hx hb dX0_append_10 rfl (lv_at hl 2 rfl) ?_
        refine lv_aload_n hx hb dX0_append_11 rfl (lv_at hl 1 rfl) ?_
        obtain ⟨ro_3, fo_3, hao_3, har_3, -, -⟩ := hC.other hX0 hga hby_o hgb_o hnb_o
        refine va_get (D := (dC, dI)) (ci := 2) (v := .ref ro_3) (C := RX0) (T := TX0) (N := 2) hx hb hts hin_2 hown hK (jp_one hao_3) 0 rfl rfl 0 (by decide) (hts (.fieldLink RX0 13 "ProofServer$Bytes" "row" "[B") (by decide +kernel)) (fun _ h9 => h9) rfl dX0_append_12 ?_
        refine va_alen (v := Int32.ofNat leno) hx hb hK (jp_one har_3) 0 0 rfl rfl rfl dX0_append_15 ?_
        refine lv_topi (fun z_4 ez_4 => ?_)
        have hz_4 : z_4.toInt = leno := by rw [ez_4]; exact jb_nat (by omega)
        refine lv_icmp_ge (tgt := 35) hx hb dX0_append_16 (by decide) (fun c_5 => ?_) (fun c_5 => ?_)
        · skip
          have c_5' : iv.toInt ≥ z_4.toInt := jb_ge (rfl) (rfl) c_5
          rw [hQ]
          refine W.room (fun kz kt => ?_)
          obtain ⟨-, -, kc, ks⟩ := hN.cells hC (by omega) kt
          refine W.widen (k := LC - s.heap.size) (n := LS - jTot s.heap) kc ks ?_
          exact W.vret hx hb hr (fun t ht hW => ⟨⟨(G, len, cnt), rfl, trivial, by simp only; rw [ht]; exact hC.le (by omega)⟩, by rw [ht]; exact hS.1, fun q h9 hq => by rw [ht]; exact hS.2.1 q h9 hq⟩) hS.2.2 dX0_append_35
        · skip
          have c_5' : iv.toInt < z_4.toInt := jb_ge_n (rfl) (rfl) c_5
          refine lv_aload_n hx hb dX0_append_19 rfl (lv_at hl 0 rfl) ?_
          refine lv_aload_n hx hb dX0_append_20 rfl (lv_at hl 1 rfl) ?_
          obtain ⟨ro_6, fo_6, hao_6, har_6, -, -⟩ := hC.other hX0 hga hby_o hgb_o hnb_o
          refine va_get (D := (dC, dI)) (ci := 2) (v := .ref ro_6) (C := RX0) (T := TX0) (N := 2) hx hb hts hin_2 hown hK (jp_one hao_6) 0 rfl rfl 0 (by decide) (hts (.fieldLink RX0 13 "ProofServer$Bytes" "row" "[B") (by decide +kernel)) (fun _ h9 => h9) rfl dX0_append_21 ?_
          refine lv_iload_n hx hb dX0_append_24 rfl (lv_at hl 2 rfl) ?_
          refine va_bald hx hb hK (jp_one har_6) 0 0 rfl rfl (jb_in (rfl) (by omega) (by omega)) dX0_append_25 ?_
          refine lv_topi (fun z_7 ez_7 => ?_)
          refine W.room (fun kz_8 kt_8 => ?_)
          obtain ⟨kc_8, ks_8, -, -⟩ := hN.cells hC (by omega) kt_8
          refine va_callv (A0 := jA base) (H0 := s.heap) (va_runV (As := [.int z_7]) (rest := []) ⟨hx, hb, hml, hown, hts⟩ (tX0_put l dC dI ca base LC LS B hB G X H a len cnt z_7) (cwV 1 hts gX0_append_X0_put rfl rfl rfl (by decide +kernel) ⟨by rw [← hR]; exact Nat.le_of_ble_eq_true rfl, by rw [← hR]; exact Nat.le_of_ble_eq_true rfl⟩) ⟨fun av U g mk q => ⟨q.1, jPre2.blind g mk av q.2⟩, hC.2.2.1.recv hK, fun U hU hW => ⟨rfl, jPre2.mk (K2 := 1) hG hW hU hS hN hga haX hX0 hC (by omega)⟩⟩ rfl rfl hl.1 rfl (lv_room (Nat.le_of_ble_eq_true rfl)) dX0_append_26 ⟨by rw [← hR]; exact kc_8, by rw [← hR]; exact ks_8⟩) hS (fun q _ h => h) (fun q h => h) (fun u t H_8 locs_8 ht_8 hvm_8 hw_8 hBb_8 hz_8 hk_8_ hS_8 => ?_)
          obtain ⟨G_8, len_8, cnt_8⟩ := u
          rw [ht_8] at hBb_8
          have hC_8 := hC.tr hBb_8
          clear hBb_8 ht_8 hvm_8 hw_8 hz_8 hk_8_ kc_8 ks_8 kz_8 kt_8
          obtain ⟨z_9, ez_9⟩ : ∃ y : Int32, y = iv + 1 := ⟨_, rfl⟩
          refine lv_iinc (v := z_9) (lv' := [(2, .int z_9), (0, .ref a), (1, .ref o)]) hx hb dX0_append_29 hl (k := 2) rfl (by rw [ez_9]; rfl) (by decide) rfl (fun ls hl => ?_)
          have hz_9 : z_9.toInt = iv.toInt + 1 := by rw [ez_9]; exact jb_iadd (rfl) (by decide) (by omega) (by omega)
          refine lv_goto (tgt := 2) hx hb dX0_append_32 (by decide) ?_
          exact L2 z_9 G_8 len_8 cnt_8 H_8 locs_8 ((Kd + 1)) _ _ hC_8 hS_8 (⟨by omega, by omega, by omega⟩) (by omega) _ (lv_sub hl [1, 2, 0] rfl)
  exact L2 (cnto.toInt - (0 : Int32).toInt : Int).toNat.succ 0 G0 len0 cnt0 s.heap [] (0) _ _ hC hS (⟨by omega, by omega, by omega⟩) (by omega) _ (lv_sub hl [1, 2, 0] rfl)
