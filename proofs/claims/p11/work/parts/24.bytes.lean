abbrev wsX00 : List Cond := u_ws RX0 TX0 2
abbrev cX0_put : ByteArray := prog_2_method_2_code
def yX0_put : MethodName := ⟨RX0, "put", "(I)V"⟩
def wsX0_put : List Cond := .code yX0_put cX0_put 2 none :: ([.fieldLink RX0 19 "ProofServer$Bytes" "count" "I", .fieldLink RX0 13 "ProofServer$Bytes" "row" "[B", .constant RX0 23 (1000000), .methodLink RX0 24 yJ7_copyOf_9075b, .static yJ7_copyOf_9075b, .initialized RJ7, .code yJ7_copyOf_9075b cJ7_copyOf_9075b 3 (some (.array .byte)), .methodLink RJ7 310 ⟨"[B", "clone", "()Ljava/lang/Object;"⟩, .sameMethod "[B" "java/lang/Object" "clone" "()Ljava/lang/Object;", .native ⟨"java/lang/Object", "clone", "()Ljava/lang/Object;"⟩, .instanceMethod ⟨"java/lang/Object", "clone", "()Ljava/lang/Object;"⟩, .selects "[B" ⟨"[B", "clone", "()Ljava/lang/Object;"⟩ ⟨"java/lang/Object", "clone", "()Ljava/lang/Object;"⟩, .classLink RJ7 311 "[B", .arrayClass .byte, .methodLink RJ7 304 Lib.Math.min.name, .static Lib.Math.min.name, .initialized "java/lang/Math", .code Lib.Math.min.name Lib.Math.min.code 2 (some .int), .methodLink RJ7 150 arraycopyName, .native arraycopyName, .static arraycopyName, .initialized "java/lang/System"] ++ wsX00)
set_option maxRecDepth 20000 in
theorem ggX0_put_J7_copyOf_9075b : GoodIn wsX0_put wsJ7_copyOf_9075b := goodIn_r _ [7, 8, 9, 10, 11, 12, 13, 14, 15, 16, 17, 18, 19, 20, 21, 22] (by decide +kernel) (by decide +kernel)
set_option maxRecDepth 20000 in
theorem gX0_put_J7_copyOf_9075b : GoodIn wsX0_put (va_wsS RX0 24 yJ7_copyOf_9075b wsJ7_copyOf_9075b) := goodIn_app (goodIn_of _ (by decide +kernel)) ggX0_put_J7_copyOf_9075b
theorem dX0_put_0 : decode cX0_put 0 = .ok (.aload_n 0, 1) := by decide +kernel
theorem dX0_put_1 : decode cX0_put 1 = .ok (.getfield 19, 3) := by decide +kernel
theorem dX0_put_4 : decode cX0_put 4 = .ok (.aload_n 0, 1) := by decide +kernel
theorem dX0_put_5 : decode cX0_put 5 = .ok (.getfield 13, 3) := by decide +kernel
theorem dX0_put_8 : decode cX0_put 8 = .ok (.arraylength, 1) := by decide +kernel
theorem dX0_put_9 : decode cX0_put 9 = .ok (.if_icmp .lt 30, 3) := by decide +kernel
theorem dX0_put_12 : decode cX0_put 12 = .ok (.aload_n 0, 1) := by decide +kernel
theorem dX0_put_13 : decode cX0_put 13 = .ok (.getfield 19, 3) := by decide +kernel
theorem dX0_put_16 : decode cX0_put 16 = .ok (.ldc 23, 2) := by decide +kernel
theorem dX0_put_18 : decode cX0_put 18 = .ok (.if_icmp .ge 21, 3) := by decide +kernel
theorem dX0_put_21 : decode cX0_put 21 = .ok (.aload_n 0, 1) := by decide +kernel
theorem dX0_put_22 : decode cX0_put 22 = .ok (.aload_n 0, 1) := by decide +kernel
theorem dX0_put_23 : decode cX0_put 23 = .ok (.getfield 13, 3) := by decide +kernel
theorem dX0_put_26 : decode cX0_put 26 = .ok (.iconst 2, 1) := by decide +kernel
theorem dX0_put_27 : decode cX0_put 27 = .ok (.aload_n 0, 1) := by decide +kernel
theorem dX0_put_28 : decode cX0_put 28 = .ok (.getfield 13, 3) := by decide +kernel
theorem dX0_put_31 : decode cX0_put 31 = .ok (.arraylength, 1) := by decide +kernel
theorem dX0_put_32 : decode cX0_put 32 = .ok (.imul, 1) := by decide +kernel
theorem dX0_put_33 : decode cX0_put 33 = .ok (.invokestatic 24, 3) := by decide +kernel
theorem dX0_put_36 : decode cX0_put 36 = .ok (.putfield 13, 3) := by decide +kernel
theorem dX0_put_39 : decode cX0_put 39 = .ok (.aload_n 0, 1) := by decide +kernel
theorem dX0_put_40 : decode cX0_put 40 = .ok (.getfield 19, 3) := by decide +kernel
theorem dX0_put_43 : decode cX0_put 43 = .ok (.ifCond .lt 36, 3) := by decide +kernel
theorem dX0_put_46 : decode cX0_put 46 = .ok (.aload_n 0, 1) := by decide +kernel
theorem dX0_put_47 : decode cX0_put 47 = .ok (.getfield 19, 3) := by decide +kernel
theorem dX0_put_50 : decode cX0_put 50 = .ok (.aload_n 0, 1) := by decide +kernel
theorem dX0_put_51 : decode cX0_put 51 = .ok (.getfield 13, 3) := by decide +kernel
theorem dX0_put_54 : decode cX0_put 54 = .ok (.arraylength, 1) := by decide +kernel
theorem dX0_put_55 : decode cX0_put 55 = .ok (.if_icmp .ge 24, 3) := by decide +kernel
theorem dX0_put_58 : decode cX0_put 58 = .ok (.aload_n 0, 1) := by decide +kernel
theorem dX0_put_59 : decode cX0_put 59 = .ok (.getfield 13, 3) := by decide +kernel
theorem dX0_put_62 : decode cX0_put 62 = .ok (.aload_n 0, 1) := by decide +kernel
theorem dX0_put_63 : decode cX0_put 63 = .ok (.getfield 19, 3) := by decide +kernel
theorem dX0_put_66 : decode cX0_put 66 = .ok (.iload_n 1, 1) := by decide +kernel
theorem dX0_put_67 : decode cX0_put 67 = .ok (.i2b, 1) := by decide +kernel
theorem dX0_put_68 : decode cX0_put 68 = .ok (.bastore, 1) := by decide +kernel
theorem dX0_put_69 : decode cX0_put 69 = .ok (.aload_n 0, 1) := by decide +kernel
theorem dX0_put_70 : decode cX0_put 70 = .ok (.dup, 1) := by decide +kernel
theorem dX0_put_71 : decode cX0_put 71 = .ok (.getfield 19, 3) := by decide +kernel
theorem dX0_put_74 : decode cX0_put 74 = .ok (.iconst 1, 1) := by decide +kernel
theorem dX0_put_75 : decode cX0_put 75 = .ok (.iadd, 1) := by decide +kernel
theorem dX0_put_76 : decode cX0_put 76 = .ok (.putfield 19, 3) := by decide +kernel
theorem dX0_put_79 : decode cX0_put 79 = .ok (.return_, 1) := by decide +kernel
set_option maxHeartbeats 4000000 in
set_option maxRecDepth 20000 in
theorem kX0_put (l : Launch) (dC : Nat → ClassId) (dI : Nat → Nat → Nat) (ca : Nat → ClassId) (base LC LS : Nat) (H0 : Heap) (h0 row len : Nat) (cnt : Int32) (f : Nat → Int32) (a1 : Int32) : Met l yX0_put wsX0_put ({ frames := 2, cells := LC - H0.size, slots := LS - jTot H0, locals := 80 }) (va_Pc [.ref h0, .int a1] (fun U => U.heap = H0 ∧ va_at (dC, dI) vwCl (h0, .inr (2, [.ref row, .int cnt])) H0 ∧ va_at (dC, dI) vwCl (row, .inl (ca 0, len, .inl f)) H0 ∧ jG dC dI ca base U ∧ (base ≤ h0 ∧ base ≤ row ∧ h0 ≠ row ∧ sb_Fit f ∧ 0 ≤ cnt.toInt ∧ cnt.toInt ≤ len ∧ 16 ≤ len ∧ len ≤ 1048576 ∧ (cnt.toInt < len ∨ 1000000 ≤ cnt.toInt ∨ (H0.size + 1 ≤ LC ∧ jTot H0 + 2 * len ≤ LS))))) (va_Qv (S := Nat × Nat × Int32 × (Nat → Int32)) (fun u => sb_Fit u.2.2.2 ∧ ((u.1 = row ∧ u.2.1 = len) ∨ (u.1 = H0.size ∧ u.2.1 = 2 * len ∧ (len : Int) ≤ cnt.toInt ∧ cnt.toInt < 1000000)) ∧ (u.2.2.1.toInt = cnt.toInt + 1 ∨ (u.2.2.1 = cnt ∧ 1000000 ≤ cnt.toInt)) ∧ u.2.2.1.toInt ≤ u.2.1) (fun u t => va_at (dC, dI) vwCl (h0, .inr (2, [.ref u.1, .int u.2.2.1])) t.heap ∧ va_at (dC, dI) vwCl (u.1, .inl (ca 0, u.2.1, .inl u.2.2.2)) t.heap ∧ ((u.1 = row ∧ t.heap.size = H0.size ∧ jTot t.heap ≤ jTot H0) ∨ (u.1 = H0.size ∧ t.heap.size = H0.size + 1 ∧ jTot t.heap ≤ jTot H0 + 2 * len)) ∧ (∀ q, q < H0.size → q ≠ h0 → q ≠ row → t.heap[q]? = H0[q]?)) (jA base)) (LC - H0.size) (LS - jTot H0) (jA base) := by
  refine Met.ofW (cc := cX0_put) (maxL := 2) (ret := none) (by decide) rfl ?_
  intro p e s m args below meth c s₁ B hml hv
  obtain ⟨rfl, hH0, hat_h0, hat_row, hG, hb0, hb1, hne, hfit, hc0, hc1, hl0, hl1, hrm⟩ := hv
  have hK := hG.1
  have hx := B.exec
  have hb := B.bytes
  have hr := B.returns
  have hts := atoms_spec (ws := wsX0_put) B.pre
  have hown : s.vm.findClass RX0 = some m.cls := findClass_of_methodNamed B.named
  have hlocks := B.notSynchronized
  have hin_2 : ∀ w ∈ u_ws RX0 TX0 2, w ∈ wsX0_put := by decide +kernel
  obtain ⟨Q, hQ⟩ : ∃ Q, Q = MQ below (va_Qv (S := Nat × Nat × Int32 × (Nat → Int32)) (fun u => sb_Fit u.2.2.2 ∧ ((u.1 = row ∧ u.2.1 = len) ∨ (u.1 = H0.size ∧ u.2.1 = 2 * len ∧ (len : Int) ≤ cnt.toInt ∧ cnt.toInt < 1000000)) ∧ (u.2.2.1.toInt = cnt.toInt + 1 ∨ (u.2.2.1 = cnt ∧ 1000000 ≤ cnt.toInt)) ∧ u.2.2.1.toInt ≤ u.2.1) (fun u t => va_at (dC, dI) vwCl (h0, .inr (2, [.ref u.1, .int u.2.2.1])) t.heap ∧ va_at (dC, dI) vwCl (u.1, .inl (ca 0, u.2.1, .inl u.2.2.2)) t.heap ∧ ((u.1 = row ∧ t.heap.size = H0.size ∧ jTot t.heap ≤ jTot H0) ∨ (u.1 = H0.size ∧ t.heap.size = H0.size + 1 ∧ jTot t.heap ≤ jTot H0 + 2 * len)) ∧ (∀ q, q < H0.size → q ≠ h0 → q ≠ row → t.heap[q]? = H0[q]?)) (jA base)) ([.ref h0, .int a1] : List Value).toArray s (LC - H0.size) (LS - jTot H0) (jA base) := ⟨_, rfl⟩
  rw [← hQ]
  have hl := lv_entry ([.ref h0, .int a1]) (n := 2) (Nat.le_of_ble_eq_true rfl)
  rw [lg_entry_eq]
  generalize (lg_sl ([.ref h0, .int a1]) ++ List.replicate (2 - (lg_sl ([.ref h0, .int a1])).length) Slot.unset).toArray = ls at hl ⊢
  have hl : lv_has ls 2 [(0, .ref h0), (1, .int a1)] := hl
  generalize hR : (headSpec wsX0_put ({ frames := 2, cells := LC - H0.size, slots := LS - jTot H0, locals := 80 })).room = R
  subst hH0
  have hS : va_S (jA base) s.heap s.heap [] := va_S.rf
  obtain ⟨H, eH⟩ : ∃ z, z = s.heap := ⟨_, rfl⟩
  obtain ⟨locs, elocs⟩ : ∃ z : List Loc, z = [] := ⟨_, rfl⟩
  have hsz : H.size = s.heap.size + 0 := by rw [eH]; rfl
  have hT : jTot H ≤ jTot s.heap + 0 := by rw [eH]; exact Nat.le_refl _
  have hfr : ∀ q, q < s.heap.size → ¬ (fun q => q = h0 ∨ q = row) q → H[q]? = s.heap[q]? := fun _ _ _ => by rw [eH]
  have hS : va_S (jA base) s.heap H locs := by rw [eH, elocs]; exact va_S.rf
  rw [← eH] at hat_h0
  rw [← eH] at hat_row
  rw [← elocs]
  conv => arg 11; rw [← eH]
  have hk0 : (0 : Int32).toInt = 0 := by decide
  have hk1 : (1 : Int32).toInt = 1 := by decide
  have hk2 : (2 : Int32).toInt = 2 := by decide
  have hh0 : h0 < s.heap.size := by rw [← eH]; exact hat_h0.lt
  have hr0 : row < s.heap.size := by rw [← eH]; exact hat_row.lt
  refine lv_aload_n hx hb dX0_put_0 rfl (lv_at hl 0 rfl) ?_
  refine va_get (D := (dC, dI)) (ci := 2) (v := .int cnt) (C := RX0) (T := TX0) (N := 2) hx hb hts hin_2 hown hK (jp_one hat_h0) 0 rfl rfl 1 (by decide) (hts (.fieldLink RX0 19 "ProofServer$Bytes" "count" "I") (by decide +kernel)) (fun _ h9 => h9) rfl dX0_put_1 ?_
  refine lv_aload_n hx hb dX0_put_4 rfl (lv_at hl 0 rfl) ?_
  refine va_get (D := (dC, dI)) (ci := 2) (v := .ref row) (C := RX0) (T := TX0) (N := 2) hx hb hts hin_2 hown hK (jp_one hat_h0) 0 rfl rfl 0 (by decide) (hts (.fieldLink RX0 13 "ProofServer$Bytes" "row" "[B") (by decide +kernel)) (fun _ h9 => h9) rfl dX0_put_5 ?_
  refine va_alen (v := Int32.ofNat len) hx hb hK (jp_one hat_row) 0 0 rfl rfl rfl dX0_put_8 ?_
  refine lv_topi (fun z_1 ez_1 => ?_)
  have hz_1 : z_1.toInt = len := by rw [ez_1]; exact jb_nat (by omega)
  refine lv_icmp_lt (tgt := 39) hx hb dX0_put_9 (by decide) (fun c_2 => ?_) (fun c_2 => ?_)
  · skip
    have c_2' : cnt.toInt < z_1.toInt := jb_lt (rfl) (rfl) c_2
    refine lv_aload_n hx hb dX0_put_39 rfl (lv_at hl 0 rfl) ?_
    refine va_get (D := (dC, dI)) (ci := 2) (v := .int cnt) (C := RX0) (T := TX0) (N := 2) hx hb hts hin_2 hown hK (jp_one hat_h0) 0 rfl rfl 1 (by decide) (hts (.fieldLink RX0 19 "ProofServer$Bytes" "count" "I") (by decide +kernel)) (fun _ h9 => h9) rfl dX0_put_40 ?_
    refine lv_if_lt (tgt := 79) hx hb dX0_put_43 (by decide) (fun c_3 => ?_) (fun c_3 => ?_)
    · skip
      have c_3' : cnt.toInt < 0 := jb_lt (rfl) ((by decide)) c_3
      exact absurd c_3' (by omega)
    · skip
      have c_3' : cnt.toInt ≥ 0 := jb_lt_n (rfl) ((by decide)) c_3
      refine lv_aload_n hx hb dX0_put_46 rfl (lv_at hl 0 rfl) ?_
      refine va_get (D := (dC, dI)) (ci := 2) (v := .int cnt) (C := RX0) (T := TX0) (N := 2) hx hb hts hin_2 hown hK (jp_one hat_h0) 0 rfl rfl 1 (by decide) (hts (.fieldLink RX0 19 "ProofServer$Bytes" "count" "I") (by decide +kernel)) (fun _ h9 => h9) rfl dX0_put_47 ?_
      refine lv_aload_n hx hb dX0_put_50 rfl (lv_at hl 0 rfl) ?_
      refine va_get (D := (dC, dI)) (ci := 2) (v := .ref row) (C := RX0) (T := TX0) (N := 2) hx hb hts hin_2 hown hK (jp_one hat_h0) 0 rfl rfl 0 (by decide) (hts (.fieldLink RX0 13 "ProofServer$Bytes" "row" "[B") (by decide +kernel)) (fun _ h9 => h9) rfl dX0_put_51 ?_
      refine va_alen (v := Int32.ofNat len) hx hb hK (jp_one hat_row) 0 0 rfl rfl rfl dX0_put_54 ?_
      refine lv_topi (fun z_4 ez_4 => ?_)
      have hz_4 : z_4.toInt = len := by rw [ez_4]; exact jb_nat (by omega)
      refine lv_icmp_ge (tgt := 79) hx hb dX0_put_55 (by decide) (fun c_5 => ?_) (fun c_5 => ?_)
      · skip
        have c_5' : cnt.toInt ≥ z_4.toInt := jb_ge (rfl) (rfl) c_5
        rw [hQ]
        refine W.widen (k := LC - s.heap.size) (n := LS - jTot s.heap) (by omega) (by omega) ?_
        exact W.vret hx hb hr (fun t ht hW => ⟨⟨(row, len, cnt, f), rfl, ⟨by first | exact hfit | exact hfit1 hfit | exact hw | exact hfit1 hw, Or.inl ⟨rfl, rfl⟩, by first | exact Or.inl (by omega) | exact Or.inr ⟨rfl, by omega⟩, by simp only; omega⟩, by rw [ht]; exact hat_h0, by rw [ht]; exact hat_row, by rw [ht]; exact Or.inl ⟨rfl, by omega, by omega⟩, fun q h8 h9 h10 => by rw [ht]; exact hfr q h8 (fun h => h.elim h9 h10)⟩, by rw [ht]; exact hS.1, fun q h9 hq => by rw [ht]; exact hS.2.1 q h9 hq⟩) hS.2.2 dX0_put_79
      · skip
        have c_5' : cnt.toInt < z_4.toInt := jb_ge_n (rfl) (rfl) c_5
        refine lv_aload_n hx hb dX0_put_58 rfl (lv_at hl 0 rfl) ?_
        refine va_get (D := (dC, dI)) (ci := 2) (v := .ref row) (C := RX0) (T := TX0) (N := 2) hx hb hts hin_2 hown hK (jp_one hat_h0) 0 rfl rfl 0 (by decide) (hts (.fieldLink RX0 13 "ProofServer$Bytes" "row" "[B") (by decide +kernel)) (fun _ h9 => h9) rfl dX0_put_59 ?_
        refine lv_aload_n hx hb dX0_put_62 rfl (lv_at hl 0 rfl) ?_
        refine va_get (D := (dC, dI)) (ci := 2) (v := .int cnt) (C := RX0) (T := TX0) (N := 2) hx hb hts hin_2 hown hK (jp_one hat_h0) 0 rfl rfl 1 (by decide) (hts (.fieldLink RX0 19 "ProofServer$Bytes" "count" "I") (by decide +kernel)) (fun _ h9 => h9) rfl dX0_put_63 ?_
        refine lv_iload_n hx hb dX0_put_66 rfl (lv_at hl 1 rfl) ?_
        refine lv_i2b hx hb dX0_put_67 rfl ?_
        refine lv_topi (fun z_6 ez_6 => ?_)
        refine j_bast (A := jA base) hx hb hK 0 hat_row hb1 hS.2.2 rfl (jb_in (rfl) (by omega) (by omega)) dX0_put_68 (fun H1 locs1 f_7 hfit1 hat1 hsz1 hfr1 hT1 hL1 => ?_)
        have hat_h0 := hat_h0.kept (hfr1 _ hne)
        have hfr2 : ∀ q, q < s.heap.size → ¬ (fun q => q = h0 ∨ q = row) q → H1[q]? = s.heap[q]? := fun q hl hq => (hfr1 q (fun h => hq (Or.inr h))).trans (hfr q hl hq)
        have hsz2 : H1.size = s.heap.size + 0 := hsz1.trans hsz
        have hT2 : jTot H1 ≤ jTot s.heap + 0 := by rw [hT1]; exact hT
        have hS2 := jS_put hS hsz1 hfr1 hb1 hL1
        clear hfr hsz hT hT1 hfr1 hsz1 hL1 hS hat_row
        have hfr := hfr2
        have hsz := hsz2
        have hT := hT2
        have hS := hS2
        clear hfr2 hsz2 hS2 hT2
        generalize locs1 = locs at hS ⊢
        generalize H1 = H at hfr hsz hT hS hat1 hat_h0 ⊢
        have hat_row : va_at (dC, dI) vwCl (row, .inl (ca 0, len, .inl f_7)) H := hat1
        refine lv_aload_n hx hb dX0_put_69 rfl (lv_at hl 0 rfl) ?_
        refine lv_dup hx hb dX0_put_70 rfl ?_
        refine va_get (D := (dC, dI)) (ci := 2) (v := .int cnt) (C := RX0) (T := TX0) (N := 2) hx hb hts hin_2 hown hK (jp_one hat_h0) 0 rfl rfl 1 (by decide) (hts (.fieldLink RX0 19 "ProofServer$Bytes" "count" "I") (by decide +kernel)) (fun _ h9 => h9) rfl dX0_put_71 ?_
        refine lv_iconst (v := 1) hx hb dX0_put_74 (by decide) ?_
        refine lv_iadd hx hb dX0_put_75 ?_
        refine lv_topi (fun z_8 ez_8 => ?_)
        have hz_8 : z_8.toInt = cnt.toInt + 1 := by rw [ez_8]; exact jb_iadd (rfl) ((by decide)) (by omega) (by omega)
        refine j_put (D := (dC, dI)) (ci := 2) (v := .int z_8) (ty := .int) (C := RX0) (T := TX0) (N := 2) (A := jA base) hx hb hts hin_2 tyX0 tyX0_ok nmX0 hown hK hat_h0 hb0 hS.2.2 rfl 1 (by decide) (hts (.fieldLink RX0 19 "ProofServer$Bytes" "count" "I") (by decide +kernel)) (fun _ h9 => h9) rfl (by decide +kernel) rfl rfl (Nat.le_of_ble_eq_true rfl) dX0_put_76 (fun H1 locs1 hat1 hsz1 hfr1 hT1 hL1 => ?_)
        have hat_row := hat_row.kept (hfr1 _ hne.symm)
        have hfr2 : ∀ q, q < s.heap.size → ¬ (fun q => q = h0 ∨ q = row) q → H1[q]? = s.heap[q]? := fun q hl hq => (hfr1 q (fun h => hq (Or.inl h))).trans (hfr q hl hq)
        have hsz2 : H1.size = s.heap.size + 0 := hsz1.trans hsz
        have hT2 : jTot H1 ≤ jTot s.heap + 0 := by rw [hT1]; exact hT
        have hS2 := jS_put hS hsz1 hfr1 hb0 hL1
        clear hfr hsz hT hT1 hfr1 hsz1 hL1 hS hat_h0
        have hfr := hfr2
        have hsz := hsz2
        have hT := hT2
        have hS := hS2
        clear hfr2 hsz2 hS2 hT2
        generalize locs1 = locs at hS ⊢
        generalize H1 = H at hfr hsz hT hS hat1 hat_row ⊢
        have hat_h0 : va_at (dC, dI) vwCl (h0, .inr (2, [.ref row, .int z_8])) H := hat1
        rw [hQ]
        refine W.widen (k := LC - s.heap.size) (n := LS - jTot s.heap) (by omega) (by omega) ?_
        exact W.vret hx hb hr (fun t ht hW => ⟨⟨(row, len, z_8, f_7), rfl, ⟨by first | exact hfit | exact hfit1 hfit | exact hw | exact hfit1 hw, Or.inl ⟨rfl, rfl⟩, by first | exact Or.inl (by omega) | exact Or.inr ⟨rfl, by omega⟩, by simp only; omega⟩, by rw [ht]; exact hat_h0, by rw [ht]; exact hat_row, by rw [ht]; exact Or.inl ⟨rfl, by omega, by omega⟩, fun q h8 h9 h10 => by rw [ht]; exact hfr q h8 (fun h => h.elim h9 h10)⟩, by rw [ht]; exact hS.1, fun q h9 hq => by rw [ht]; exact hS.2.1 q h9 hq⟩) hS.2.2 dX0_put_79
  · skip
    have c_2' : cnt.toInt ≥ z_1.toInt := jb_lt_n (rfl) (rfl) c_2
    refine lv_aload_n hx hb dX0_put_12 rfl (lv_at hl 0 rfl) ?_
    refine va_get (D := (dC, dI)) (ci := 2) (v := .int cnt) (C := RX0) (T := TX0) (N := 2) hx hb hts hin_2 hown hK (jp_one hat_h0) 0 rfl rfl 1 (by decide) (hts (.fieldLink RX0 19 "ProofServer$Bytes" "count" "I") (by decide +kernel)) (fun _ h9 => h9) rfl dX0_put_13 ?_
    refine lv_ldc hx hb hown (hts (.constant RX0 23 1000000) (by decide +kernel)) dX0_put_16 ?_
    refine lv_icmp_ge (tgt := 39) hx hb dX0_put_18 (by decide) (fun c_9 => ?_) (fun c_9 => ?_)
    · skip
      have c_9' : cnt.toInt ≥ 1000000 := jb_ge (rfl) ((by decide)) c_9
      refine lv_aload_n hx hb dX0_put_39 rfl (lv_at hl 0 rfl) ?_
      refine va_get (D := (dC, dI)) (ci := 2) (v := .int cnt) (C := RX0) (T := TX0) (N := 2) hx hb hts hin_2 hown hK (jp_one hat_h0) 0 rfl rfl 1 (by decide) (hts (.fieldLink RX0 19 "ProofServer$Bytes" "count" "I") (by decide +kernel)) (fun _ h9 => h9) rfl dX0_put_40 ?_
      refine lv_if_lt (tgt := 79) hx hb dX0_put_43 (by decide) (fun c_10 => ?_) (fun c_10 => ?_)
      · skip
        have c_10' : cnt.toInt < 0 := jb_lt (rfl) ((by decide)) c_10
        exact absurd c_10' (by omega)
      · skip
        have c_10' : cnt.toInt ≥ 0 := jb_lt_n (rfl) ((by decide)) c_10
        refine lv_aload_n hx hb dX0_put_46 rfl (lv_at hl 0 rfl) ?_
        refine va_get (D := (dC, dI)) (ci := 2) (v := .int cnt) (C := RX0) (T := TX0) (N := 2) hx hb hts hin_2 hown hK (jp_one hat_h0) 0 rfl rfl 1 (by decide) (hts (.fieldLink RX0 19 "ProofServer$Bytes" "count" "I") (by decide +kernel)) (fun _ h9 => h9) rfl dX0_put_47 ?_
        refine lv_aload_n hx hb dX0_put_50 rfl (lv_at hl 0 rfl) ?_
        refine va_get (D := (dC, dI)) (ci := 2) (v := .ref row) (C := RX0) (T := TX0) (N := 2) hx hb hts hin_2 hown hK (jp_one hat_h0) 0 rfl rfl 0 (by decide) (hts (.fieldLink RX0 13 "ProofServer$Bytes" "row" "[B") (by decide +kernel)) (fun _ h9 => h9) rfl dX0_put_51 ?_
        refine va_alen (v := Int32.ofNat len) hx hb hK (jp_one hat_row) 0 0 rfl rfl rfl dX0_put_54 ?_
        refine lv_topi (fun z_11 ez_11 => ?_)
        have hz_11 : z_11.toInt = len := by rw [ez_11]; exact jb_nat (by omega)
        refine lv_icmp_ge (tgt := 79) hx hb dX0_put_55 (by decide) (fun c_12 => ?_) (fun c_12 => ?_)
        · skip
          have c_12' : cnt.toInt ≥ z_11.toInt := jb_ge (rfl) (rfl) c_12
          rw [hQ]
          refine W.widen (k := LC - s.heap.size) (n := LS - jTot s.heap) (by omega) (by omega) ?_
          exact W.vret hx hb hr (fun t ht hW => ⟨⟨(row, len, cnt, f), rfl, ⟨by first | exact hfit | exact hfit1 hfit | exact hw | exact hfit1 hw, Or.inl ⟨rfl, rfl⟩, by first | exact Or.inl (by omega) | exact Or.inr ⟨rfl, by omega⟩, by simp only; omega⟩, by rw [ht]; exact hat_h0, by rw [ht]; exact hat_row, by rw [ht]; exact Or.inl ⟨rfl, by omega, by omega⟩, fun q h8 h9 h10 => by rw [ht]; exact hfr q h8 (fun h => h.elim h9 h10)⟩, by rw [ht]; exact hS.1, fun q h9 hq => by rw [ht]; exact hS.2.1 q h9 hq⟩) hS.2.2 dX0_put_79
        · skip
          have c_12' : cnt.toInt < z_11.toInt := jb_ge_n (rfl) (rfl) c_12
          refine lv_aload_n hx hb dX0_put_58 rfl (lv_at hl 0 rfl) ?_
          refine va_get (D := (dC, dI)) (ci := 2) (v := .ref row) (C := RX0) (T := TX0) (N := 2) hx hb hts hin_2 hown hK (jp_one hat_h0) 0 rfl rfl 0 (by decide) (hts (.fieldLink RX0 13 "ProofServer$Bytes" "row" "[B") (by decide +kernel)) (fun _ h9 => h9) rfl dX0_put_59 ?_
          refine lv_aload_n hx hb dX0_put_62 rfl (lv_at hl 0 rfl) ?_
          refine va_get (D := (dC, dI)) (ci := 2) (v := .int cnt) (C := RX0) (T := TX0) (N := 2) hx hb hts hin_2 hown hK (jp_one hat_h0) 0 rfl rfl 1 (by decide) (hts (.fieldLink RX0 19 "ProofServer$Bytes" "count" "I") (by decide +kernel)) (fun _ h9 => h9) rfl dX0_put_63 ?_
          refine lv_iload_n hx hb dX0_put_66 rfl (lv_at hl 1 rfl) ?_
          refine lv_i2b hx hb dX0_put_67 rfl ?_
          refine lv_topi (fun z_13 ez_13 => ?_)
          refine j_bast (A := jA base) hx hb hK 0 hat_row hb1 hS.2.2 rfl (jb_in (rfl) (by omega) (by omega)) dX0_put_68 (fun H1 locs1 f_14 hfit1 hat1 hsz1 hfr1 hT1 hL1 => ?_)
          have hat_h0 := hat_h0.kept (hfr1 _ hne)
          have hfr2 : ∀ q, q < s.heap.size → ¬ (fun q => q = h0 ∨ q = row) q → H1[q]? = s.heap[q]? := fun q hl hq => (hfr1 q (fun h => hq (Or.inr h))).trans (hfr q hl hq)
          have hsz2 : H1.size = s.heap.size + 0 := hsz1.trans hsz
          have hT2 : jTot H1 ≤ jTot s.heap + 0 := by rw [hT1]; exact hT
          have hS2 := jS_put hS hsz1 hfr1 hb1 hL1
          clear hfr hsz hT hT1 hfr1 hsz1 hL1 hS hat_row
          have hfr := hfr2
          have hsz := hsz2
          have hT := hT2
          have hS := hS2
          clear hfr2 hsz2 hS2 hT2
          generalize locs1 = locs at hS ⊢
          generalize H1 = H at hfr hsz hT hS hat1 hat_h0 ⊢
          have hat_row : va_at (dC, dI) vwCl (row, .inl (ca 0, len, .inl f_14)) H := hat1
          refine lv_aload_n hx hb dX0_put_69 rfl (lv_at hl 0 rfl) ?_
          refine lv_dup hx hb dX0_put_70 rfl ?_
          refine va_get (D := (dC, dI)) (ci := 2) (v := .int cnt) (C := RX0) (T := TX0) (N := 2) hx hb hts hin_2 hown hK (jp_one hat_h0) 0 rfl rfl 1 (by decide) (hts (.fieldLink RX0 19 "ProofServer$Bytes" "count" "I") (by decide +kernel)) (fun _ h9 => h9) rfl dX0_put_71 ?_
          refine lv_iconst (v := 1) hx hb dX0_put_74 (by decide) ?_
          refine lv_iadd hx hb dX0_put_75 ?_
          refine lv_topi (fun z_15 ez_15 => ?_)
          have hz_15 : z_15.toInt = cnt.toInt + 1 := by rw [ez_15]; exact jb_iadd (rfl) ((by decide)) (by omega) (by omega)
          refine j_put (D := (dC, dI)) (ci := 2) (v := .int z_15) (ty := .int) (C := RX0) (T := TX0) (N := 2) (A := jA base) hx hb hts hin_2 tyX0 tyX0_ok nmX0 hown hK hat_h0 hb0 hS.2.2 rfl 1 (by decide) (hts (.fieldLink RX0 19 "ProofServer$Bytes" "count" "I") (by decide +kernel)) (fun _ h9 => h9) rfl (by decide +kernel) rfl rfl (Nat.le_of_ble_eq_true rfl) dX0_put_76 (fun H1 locs1 hat1 hsz1 hfr1 hT1 hL1 => ?_)
          have hat_row := hat_row.kept (hfr1 _ hne.symm)
          have hfr2 : ∀ q, q < s.heap.size → ¬ (fun q => q = h0 ∨ q = row) q → H1[q]? = s.heap[q]? := fun q hl hq => (hfr1 q (fun h => hq (Or.inl h))).trans (hfr q hl hq)
          have hsz2 : H1.size = s.heap.size + 0 := hsz1.trans hsz
          have hT2 : jTot H1 ≤ jTot s.heap + 0 := by rw [hT1]; exact hT
          have hS2 := jS_put hS hsz1 hfr1 hb0 hL1
          clear hfr hsz hT hT1 hfr1 hsz1 hL1 hS hat_h0
          have hfr := hfr2
          have hsz := hsz2
          have hT := hT2
          have hS := hS2
          clear hfr2 hsz2 hS2 hT2
          generalize locs1 = locs at hS ⊢
          generalize H1 = H at hfr hsz hT hS hat1 hat_row ⊢
          have hat_h0 : va_at (dC, dI) vwCl (h0, .inr (2, [.ref row, .int z_15])) H := hat1
          rw [hQ]
          refine W.widen (k := LC - s.heap.size) (n := LS - jTot s.heap) (by omega) (by omega) ?_
          exact W.vret hx hb hr (fun t ht hW => ⟨⟨(row, len, z_15, f_14), rfl, ⟨by first | exact hfit | exact hfit1 hfit | exact hw | exact hfit1 hw, Or.inl ⟨rfl, rfl⟩, by first | exact Or.inl (by omega) | exact Or.inr ⟨rfl, by omega⟩, by simp only; omega⟩, by rw [ht]; exact hat_h0, by rw [ht]; exact hat_row, by rw [ht]; exact Or.inl ⟨rfl, by omega, by omega⟩, fun q h8 h9 h10 => by rw [ht]; exact hfr q h8 (fun h => h.elim h9 h10)⟩, by rw [ht]; exact hS.1, fun q h9 hq => by rw [ht]; exact hS.2.1 q h9 hq⟩) hS.2.2 dX0_put_79
    · skip
      have c_9' : cnt.toInt < 1000000 := jb_ge_n (rfl) ((by decide)) c_9
      refine lv_aload_n hx hb dX0_put_21 rfl (lv_at hl 0 rfl) ?_
      refine lv_aload_n hx hb dX0_put_22 rfl (lv_at hl 0 rfl) ?_
      refine va_get (D := (dC, dI)) (ci := 2) (v := .ref row) (C := RX0) (T := TX0) (N := 2) hx hb hts hin_2 hown hK (jp_one hat_h0) 0 rfl rfl 0 (by decide) (hts (.fieldLink RX0 13 "ProofServer$Bytes" "row" "[B") (by decide +kernel)) (fun _ h9 => h9) rfl dX0_put_23 ?_
      refine lv_iconst (v := 2) hx hb dX0_put_26 (by decide) ?_
      refine lv_aload_n hx hb dX0_put_27 rfl (lv_at hl 0 rfl) ?_
      refine va_get (D := (dC, dI)) (ci := 2) (v := .ref row) (C := RX0) (T := TX0) (N := 2) hx hb hts hin_2 hown hK (jp_one hat_h0) 0 rfl rfl 0 (by decide) (hts (.fieldLink RX0 13 "ProofServer$Bytes" "row" "[B") (by decide +kernel)) (fun _ h9 => h9) rfl dX0_put_28 ?_
      refine va_alen (v := Int32.ofNat len) hx hb hK (jp_one hat_row) 0 0 rfl rfl rfl dX0_put_31 ?_
      refine lv_topi (fun z_16 ez_16 => ?_)
      have hz_16 : z_16.toInt = len := by rw [ez_16]; exact jb_nat (by omega)
      refine lv_imul hx hb dX0_put_32 ?_
      refine lv_topi (fun z_17 ez_17 => ?_)
      have hz_17 : z_17.toInt = 2 * z_16.toInt := by rw [ez_17]; exact jb_imul ((by decide)) (rfl) (by omega) (by omega)
      refine va_callr (A0 := jA base) (H0 := s.heap) (va_runS (As := [.ref row, .int z_17]) (rest := [.ref h0]) ⟨hx, hb, hml, hown, hts⟩ (kJ7_copyOf_9075b l dC dI ca base (H.size + (LC - s.heap.size - 0)) (jTot H + (LS - jTot s.heap - 0)) H row len (2 * len) f z_17) (va_cwS 2 hts gX0_put_J7_copyOf_9075b rfl rfl rfl (by decide +kernel) ⟨by rw [← hR]; exact Nat.le_of_ble_eq_true rfl, by rw [← hR]; exact Nat.le_of_ble_eq_true rfl⟩) ⟨fun a U g mk q => by obtain ⟨q0, q1, q2, qK, q9⟩ := q; exact ⟨q0, q1, q2, jG.calling g mk a qK, q9⟩, fun U hU hW => ⟨rfl, hU, hat_row, hG.step hW hU hS, hfit, by omega, by omega, by omega, by omega, by omega⟩⟩ rfl rfl hl.1 rfl (lv_room (Nat.le_of_ble_eq_true rfl)) dX0_put_33 ⟨by rw [← hR]; show 0 + (H.size + (LC - s.heap.size - 0) - H.size) ≤ LC - s.heap.size; omega, by rw [← hR]; show 0 + (jTot H + (LS - jTot s.heap - 0) - jTot H) ≤ LS - jTot s.heap; omega⟩) hS (fun q h9 h => absurd h9 (Nat.not_lt.mpr h)) (fun q h => h.elim (fun h => by rw [h]; exact hb1) (fun h => by show base ≤ q; have := hS.1; have := hh0; omega)) (fun f9 a9 t H1 locs1 ht hvm hw hB hz1 hk1 hS1 => ?_)
      obtain ⟨rfl, hat9, hsz9, hfr9, hT9⟩ := hB
      rw [ht] at hat9 hsz9 hT9
      have hfr9 : ∀ q, q < H.size → H1[q]? = H[q]? := fun q hq => by rw [← ht]; exact hfr9 q hq
      have hat_h0 := hat_h0.kept (hfr9 _ hat_h0.lt)
      have hat_row := hat_row.kept (hfr9 _ hat_row.lt)
      have hfr2 : ∀ q, q < s.heap.size → ¬ (fun q => q = h0 ∨ q = row) q → H1[q]? = s.heap[q]? := fun q hl hq => (hfr9 q (by omega)).trans (hfr q hl hq)
      have hsz2 : H1.size = s.heap.size + (0 + 1) := by omega
      have hT2 : jTot H1 ≤ jTot s.heap + (0 + (2 * len)) := by omega
      obtain ⟨w9, ew9⟩ : ∃ z, z = H.size := ⟨_, rfl⟩
      rw [← ew9] at hat9 ⊢
      have hw9 : w9 = s.heap.size := by omega
      clear hfr hsz hT hS hfr9 hsz9 hT9 hz1 hk1 ht hvm
      have hfr := hfr2
      have hsz := hsz2
      have hT := hT2
      have hS := hS1
      clear hfr2 hsz2 hT2 hS1
      refine W.tight (c2 := (0 + 1)) (n2 := (0 + (2 * len))) (by omega) hT ?_
      try clear ew9
      generalize locs1 = locs at hS ⊢
      generalize H1 = H at hfr hsz hT hS hat9 hat_h0 hat_row ⊢
      refine j_put (D := (dC, dI)) (ci := 2) (v := .ref w9) (ty := (.array .byte)) (C := RX0) (T := TX0) (N := 2) (A := jA base) hx hb hts hin_2 tyX0 tyX0_ok nmX0 hown hK hat_h0 hb0 hS.2.2 rfl 0 (by decide) (hts (.fieldLink RX0 13 "ProofServer$Bytes" "row" "[B") (by decide +kernel)) (fun _ h9 => h9) rfl (by decide +kernel) rfl rfl (Nat.le_of_ble_eq_true rfl) dX0_put_36 (fun H1 locs1 hat1 hsz1 hfr1 hT1 hL1 => ?_)
      have hat_row := hat_row.kept (hfr1 _ hne.symm)
      have hat9 := hat9.kept (hfr1 _ (by omega))
      have hfr2 : ∀ q, q < s.heap.size → ¬ (fun q => q = h0 ∨ q = row) q → H1[q]? = s.heap[q]? := fun q hl hq => (hfr1 q (fun h => hq (Or.inl h))).trans (hfr q hl hq)
      have hsz2 : H1.size = s.heap.size + (0 + 1) := hsz1.trans hsz
      have hT2 : jTot H1 ≤ jTot s.heap + (0 + (2 * len)) := by rw [hT1]; exact hT
      have hS2 := jS_put hS hsz1 hfr1 hb0 hL1
      clear hfr hsz hT hT1 hfr1 hsz1 hL1 hS hat_h0
      have hfr := hfr2
      have hsz := hsz2
      have hT := hT2
      have hS := hS2
      clear hfr2 hsz2 hS2 hT2
      generalize locs1 = locs at hS ⊢
      generalize H1 = H at hfr hsz hT hS hat1 hat_row hat9 ⊢
      have hat_h0 : va_at (dC, dI) vwCl (h0, .inr (2, [.ref w9, .int cnt])) H := hat1
      refine lv_aload_n hx hb dX0_put_39 rfl (lv_at hl 0 rfl) ?_
      refine va_get (D := (dC, dI)) (ci := 2) (v := .int cnt) (C := RX0) (T := TX0) (N := 2) hx hb hts hin_2 hown hK (jp_one hat_h0) 0 rfl rfl 1 (by decide) (hts (.fieldLink RX0 19 "ProofServer$Bytes" "count" "I") (by decide +kernel)) (fun _ h9 => h9) rfl dX0_put_40 ?_
      refine lv_if_lt (tgt := 79) hx hb dX0_put_43 (by decide) (fun c_18 => ?_) (fun c_18 => ?_)
      · skip
        have c_18' : cnt.toInt < 0 := jb_lt (rfl) ((by decide)) c_18
        exact absurd c_18' (by omega)
      · skip
        have c_18' : cnt.toInt ≥ 0 := jb_lt_n (rfl) ((by decide)) c_18
        refine lv_aload_n hx hb dX0_put_46 rfl (lv_at hl 0 rfl) ?_
        refine va_get (D := (dC, dI)) (ci := 2) (v := .int cnt) (C := RX0) (T := TX0) (N := 2) hx hb hts hin_2 hown hK (jp_one hat_h0) 0 rfl rfl 1 (by decide) (hts (.fieldLink RX0 19 "ProofServer$Bytes" "count" "I") (by decide +kernel)) (fun _ h9 => h9) rfl dX0_put_47 ?_
        refine lv_aload_n hx hb dX0_put_50 rfl (lv_at hl 0 rfl) ?_
        refine va_get (D := (dC, dI)) (ci := 2) (v := .ref w9) (C := RX0) (T := TX0) (N := 2) hx hb hts hin_2 hown hK (jp_one hat_h0) 0 rfl rfl 0 (by decide) (hts (.fieldLink RX0 13 "ProofServer$Bytes" "row" "[B") (by decide +kernel)) (fun _ h9 => h9) rfl dX0_put_51 ?_
        refine va_alen (v := Int32.ofNat (2 * len)) hx hb hK (jp_one hat9) 0 0 rfl rfl rfl dX0_put_54 ?_
        refine lv_topi (fun z_19 ez_19 => ?_)
        have hz_19 : z_19.toInt = (2 * len) := by rw [ez_19]; exact jb_nat (by omega)
        refine lv_icmp_ge (tgt := 79) hx hb dX0_put_55 (by decide) (fun c_20 => ?_) (fun c_20 => ?_)
        · skip
          have c_20' : cnt.toInt ≥ z_19.toInt := jb_ge (rfl) (rfl) c_20
          rw [hQ]
          refine W.widen (k := LC - s.heap.size) (n := LS - jTot s.heap) (by omega) (by omega) ?_
          exact W.vret hx hb hr (fun t ht hW => ⟨⟨(w9, (2 * len), cnt, f9), rfl, ⟨by first | exact hfit | exact hfit1 hfit | exact hw | exact hfit1 hw, Or.inr ⟨by omega, rfl, by omega, by omega⟩, by first | exact Or.inl (by omega) | exact Or.inr ⟨rfl, by omega⟩, by simp only; omega⟩, by rw [ht]; exact hat_h0, by rw [ht]; exact hat9, by rw [ht]; exact Or.inr ⟨by omega, by omega, by omega⟩, fun q h8 h9 h10 => by rw [ht]; exact hfr q h8 (fun h => h.elim h9 h10)⟩, by rw [ht]; exact hS.1, fun q h9 hq => by rw [ht]; exact hS.2.1 q h9 hq⟩) hS.2.2 dX0_put_79
        · skip
          have c_20' : cnt.toInt < z_19.toInt := jb_ge_n (rfl) (rfl) c_20
          refine lv_aload_n hx hb dX0_put_58 rfl (lv_at hl 0 rfl) ?_
          refine va_get (D := (dC, dI)) (ci := 2) (v := .ref w9) (C := RX0) (T := TX0) (N := 2) hx hb hts hin_2 hown hK (jp_one hat_h0) 0 rfl rfl 0 (by decide) (hts (.fieldLink RX0 13 "ProofServer$Bytes" "row" "[B") (by decide +kernel)) (fun _ h9 => h9) rfl dX0_put_59 ?_
          refine lv_aload_n hx hb dX0_put_62 rfl (lv_at hl 0 rfl) ?_
          refine va_get (D := (dC, dI)) (ci := 2) (v := .int cnt) (C := RX0) (T := TX0) (N := 2) hx hb hts hin_2 hown hK (jp_one hat_h0) 0 rfl rfl 1 (by decide) (hts (.fieldLink RX0 19 "ProofServer$Bytes" "count" "I") (by decide +kernel)) (fun _ h9 => h9) rfl dX0_put_63 ?_
          refine lv_iload_n hx hb dX0_put_66 rfl (lv_at hl 1 rfl) ?_
          refine lv_i2b hx hb dX0_put_67 rfl ?_
          refine lv_topi (fun z_21 ez_21 => ?_)
          refine j_bast (A := jA base) hx hb hK 0 hat9 (by have := hh0; omega) hS.2.2 rfl (jb_in (rfl) (by omega) (by omega)) dX0_put_68 (fun H1 locs1 f_22 hfit1 hat1 hsz1 hfr1 hT1 hL1 => ?_)
          have hat_h0 := hat_h0.kept (hfr1 _ (by omega))
          have hat_row := hat_row.kept (hfr1 _ (by omega))
          have hfr2 : ∀ q, q < s.heap.size → ¬ (fun q => q = h0 ∨ q = row) q → H1[q]? = s.heap[q]? := fun q hl hq => (hfr1 q (fun h => by omega)).trans (hfr q hl hq)
          have hsz2 : H1.size = s.heap.size + (0 + 1) := hsz1.trans hsz
          have hT2 : jTot H1 ≤ jTot s.heap + (0 + (2 * len)) := by rw [hT1]; exact hT
          have hS2 := jS_put hS hsz1 hfr1 (by have := hh0; omega) hL1
          clear hfr hsz hT hT1 hfr1 hsz1 hL1 hS hat9
          have hfr := hfr2
          have hsz := hsz2
          have hT := hT2
          have hS := hS2
          clear hfr2 hsz2 hS2 hT2
          generalize locs1 = locs at hS ⊢
          generalize H1 = H at hfr hsz hT hS hat1 hat_h0 hat_row ⊢
          have hat9 : va_at (dC, dI) vwCl (w9, .inl (ca 0, (2 * len), .inl f_22)) H := hat1
          refine lv_aload_n hx hb dX0_put_69 rfl (lv_at hl 0 rfl) ?_
          refine lv_dup hx hb dX0_put_70 rfl ?_
          refine va_get (D := (dC, dI)) (ci := 2) (v := .int cnt) (C := RX0) (T := TX0) (N := 2) hx hb hts hin_2 hown hK (jp_one hat_h0) 0 rfl rfl 1 (by decide) (hts (.fieldLink RX0 19 "ProofServer$Bytes" "count" "I") (by decide +kernel)) (fun _ h9 => h9) rfl dX0_put_71 ?_
          refine lv_iconst (v := 1) hx hb dX0_put_74 (by decide) ?_
          refine lv_iadd hx hb dX0_put_75 ?_
          refine lv_topi (fun z_23 ez_23 => ?_)
          have hz_23 : z_23.toInt = cnt.toInt + 1 := by rw [ez_23]; exact jb_iadd (rfl) ((by decide)) (by omega) (by omega)
          refine j_put (D := (dC, dI)) (ci := 2) (v := .int z_23) (ty := .int) (C := RX0) (T := TX0) (N := 2) (A := jA base) hx hb hts hin_2 tyX0 tyX0_ok nmX0 hown hK hat_h0 hb0 hS.2.2 rfl 1 (by decide) (hts (.fieldLink RX0 19 "ProofServer$Bytes" "count" "I") (by decide +kernel)) (fun _ h9 => h9) rfl (by decide +kernel) rfl rfl (Nat.le_of_ble_eq_true rfl) dX0_put_76 (fun H1 locs1 hat1 hsz1 hfr1 hT1 hL1 => ?_)
          have hat_row := hat_row.kept (hfr1 _ hne.symm)
          have hat9 := hat9.kept (hfr1 _ (by omega))
          have hfr2 : ∀ q, q < s.heap.size → ¬ (fun q => q = h0 ∨ q = row) q → H1[q]? = s.heap[q]? := fun q hl hq => (hfr1 q (fun h => hq (Or.inl h))).trans (hfr q hl hq)
          have hsz2 : H1.size = s.heap.size + (0 + 1) := hsz1.trans hsz
          have hT2 : jTot H1 ≤ jTot s.heap + (0 + (2 * len)) := by rw [hT1]; exact hT
          have hS2 := jS_put hS hsz1 hfr1 hb0 hL1
          clear hfr hsz hT hT1 hfr1 hsz1 hL1 hS hat_h0
          have hfr := hfr2
          have hsz := hsz2
          have hT := hT2
          have hS := hS2
          clear hfr2 hsz2 hS2 hT2
          generalize locs1 = locs at hS ⊢
          generalize H1 = H at hfr hsz hT hS hat1 hat_row hat9 ⊢
          have hat_h0 : va_at (dC, dI) vwCl (h0, .inr (2, [.ref w9, .int z_23])) H := hat1
          rw [hQ]
          refine W.widen (k := LC - s.heap.size) (n := LS - jTot s.heap) (by omega) (by omega) ?_
          exact W.vret hx hb hr (fun t ht hW => ⟨⟨(w9, (2 * len), z_23, f_22), rfl, ⟨by first | exact hfit | exact hfit1 hfit | exact hw | exact hfit1 hw, Or.inr ⟨by omega, rfl, by omega, by omega⟩, by first | exact Or.inl (by omega) | exact Or.inr ⟨rfl, by omega⟩, by simp only; omega⟩, by rw [ht]; exact hat_h0, by rw [ht]; exact hat9, by rw [ht]; exact Or.inr ⟨by omega, by omega, by omega⟩, fun q h8 h9 h10 => by rw [ht]; exact hfr q h8 (fun h => h.elim h9 h10)⟩, by rw [ht]; exact hS.1, fun q h9 hq => by rw [ht]; exact hS.2.1 q h9 hq⟩) hS.2.2 dX0_put_79
