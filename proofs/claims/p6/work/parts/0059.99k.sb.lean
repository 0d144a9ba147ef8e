section
theorem dJ5_ensureCapacityInternal_d00df_0 : decode cJ5_ensureCapacityInternal_d00df 0 = .ok (.aload_n 0, 1) := by decide +kernel
theorem dJ5_ensureCapacityInternal_d00df_1 : decode cJ5_ensureCapacityInternal_d00df 1 = .ok (.getfield 15, 3) := by decide +kernel
theorem dJ5_ensureCapacityInternal_d00df_4 : decode cJ5_ensureCapacityInternal_d00df 4 = .ok (.arraylength, 1) := by decide +kernel
theorem dJ5_ensureCapacityInternal_d00df_5 : decode cJ5_ensureCapacityInternal_d00df 5 = .ok (.aload_n 0, 1) := by decide +kernel
theorem dJ5_ensureCapacityInternal_d00df_6 : decode cJ5_ensureCapacityInternal_d00df 6 = .ok (.getfield 22, 3) := by decide +kernel
theorem dJ5_ensureCapacityInternal_d00df_9 : decode cJ5_ensureCapacityInternal_d00df 9 = .ok (.ishr, 1) := by decide +kernel
theorem dJ5_ensureCapacityInternal_d00df_10 : decode cJ5_ensureCapacityInternal_d00df 10 = .ok (.istore_n 2, 1) := by decide +kernel
theorem dJ5_ensureCapacityInternal_d00df_11 : decode cJ5_ensureCapacityInternal_d00df 11 = .ok (.iload_n 1, 1) := by decide +kernel
theorem dJ5_ensureCapacityInternal_d00df_12 : decode cJ5_ensureCapacityInternal_d00df 12 = .ok (.iload_n 2, 1) := by decide +kernel
theorem dJ5_ensureCapacityInternal_d00df_13 : decode cJ5_ensureCapacityInternal_d00df 13 = .ok (.isub, 1) := by decide +kernel
theorem dJ5_ensureCapacityInternal_d00df_14 : decode cJ5_ensureCapacityInternal_d00df 14 = .ok (.ifCond .le 24, 3) := by decide +kernel
theorem dJ5_ensureCapacityInternal_d00df_17 : decode cJ5_ensureCapacityInternal_d00df 17 = .ok (.aload_n 0, 1) := by decide +kernel
theorem dJ5_ensureCapacityInternal_d00df_18 : decode cJ5_ensureCapacityInternal_d00df 18 = .ok (.aload_n 0, 1) := by decide +kernel
theorem dJ5_ensureCapacityInternal_d00df_19 : decode cJ5_ensureCapacityInternal_d00df 19 = .ok (.getfield 15, 3) := by decide +kernel
theorem dJ5_ensureCapacityInternal_d00df_22 : decode cJ5_ensureCapacityInternal_d00df 22 = .ok (.aload_n 0, 1) := by decide +kernel
theorem dJ5_ensureCapacityInternal_d00df_23 : decode cJ5_ensureCapacityInternal_d00df 23 = .ok (.iload_n 1, 1) := by decide +kernel
theorem dJ5_ensureCapacityInternal_d00df_24 : decode cJ5_ensureCapacityInternal_d00df 24 = .ok (.invokevirtual 104, 3) := by decide +kernel
theorem dJ5_ensureCapacityInternal_d00df_27 : decode cJ5_ensureCapacityInternal_d00df 27 = .ok (.aload_n 0, 1) := by decide +kernel
theorem dJ5_ensureCapacityInternal_d00df_28 : decode cJ5_ensureCapacityInternal_d00df 28 = .ok (.getfield 22, 3) := by decide +kernel
theorem dJ5_ensureCapacityInternal_d00df_31 : decode cJ5_ensureCapacityInternal_d00df 31 = .ok (.ishl, 1) := by decide +kernel
theorem dJ5_ensureCapacityInternal_d00df_32 : decode cJ5_ensureCapacityInternal_d00df 32 = .ok (.invokestatic 108, 3) := by decide +kernel
theorem dJ5_ensureCapacityInternal_d00df_35 : decode cJ5_ensureCapacityInternal_d00df 35 = .ok (.putfield 15, 3) := by decide +kernel
theorem dJ5_ensureCapacityInternal_d00df_38 : decode cJ5_ensureCapacityInternal_d00df 38 = .ok (.return_, 1) := by decide +kernel
theorem dJ5_newCapacity_0f7a4_0 : decode cJ5_newCapacity_0f7a4 0 = .ok (.aload_n 0, 1) := by decide +kernel
theorem dJ5_newCapacity_0f7a4_1 : decode cJ5_newCapacity_0f7a4 1 = .ok (.getfield 15, 3) := by decide +kernel
theorem dJ5_newCapacity_0f7a4_4 : decode cJ5_newCapacity_0f7a4 4 = .ok (.arraylength, 1) := by decide +kernel
theorem dJ5_newCapacity_0f7a4_5 : decode cJ5_newCapacity_0f7a4 5 = .ok (.istore_n 2, 1) := by decide +kernel
theorem dJ5_newCapacity_0f7a4_6 : decode cJ5_newCapacity_0f7a4 6 = .ok (.iload_n 1, 1) := by decide +kernel
theorem dJ5_newCapacity_0f7a4_7 : decode cJ5_newCapacity_0f7a4 7 = .ok (.aload_n 0, 1) := by decide +kernel
theorem dJ5_newCapacity_0f7a4_8 : decode cJ5_newCapacity_0f7a4 8 = .ok (.getfield 22, 3) := by decide +kernel
theorem dJ5_newCapacity_0f7a4_11 : decode cJ5_newCapacity_0f7a4 11 = .ok (.ishl, 1) := by decide +kernel
theorem dJ5_newCapacity_0f7a4_12 : decode cJ5_newCapacity_0f7a4 12 = .ok (.istore_n 3, 1) := by decide +kernel
theorem dJ5_newCapacity_0f7a4_13 : decode cJ5_newCapacity_0f7a4 13 = .ok (.iload_n 3, 1) := by decide +kernel
theorem dJ5_newCapacity_0f7a4_14 : decode cJ5_newCapacity_0f7a4 14 = .ok (.iload_n 2, 1) := by decide +kernel
theorem dJ5_newCapacity_0f7a4_15 : decode cJ5_newCapacity_0f7a4 15 = .ok (.isub, 1) := by decide +kernel
theorem dJ5_newCapacity_0f7a4_16 : decode cJ5_newCapacity_0f7a4 16 = .ok (.istore 4, 2) := by decide +kernel
theorem dJ5_newCapacity_0f7a4_18 : decode cJ5_newCapacity_0f7a4 18 = .ok (.iload_n 2, 1) := by decide +kernel
theorem dJ5_newCapacity_0f7a4_19 : decode cJ5_newCapacity_0f7a4 19 = .ok (.iload 4, 2) := by decide +kernel
theorem dJ5_newCapacity_0f7a4_21 : decode cJ5_newCapacity_0f7a4 21 = .ok (.iload_n 2, 1) := by decide +kernel
theorem dJ5_newCapacity_0f7a4_22 : decode cJ5_newCapacity_0f7a4 22 = .ok (.iconst 2, 1) := by decide +kernel
theorem dJ5_newCapacity_0f7a4_23 : decode cJ5_newCapacity_0f7a4 23 = .ok (.aload_n 0, 1) := by decide +kernel
theorem dJ5_newCapacity_0f7a4_24 : decode cJ5_newCapacity_0f7a4 24 = .ok (.getfield 22, 3) := by decide +kernel
theorem dJ5_newCapacity_0f7a4_27 : decode cJ5_newCapacity_0f7a4 27 = .ok (.ishl, 1) := by decide +kernel
theorem dJ5_newCapacity_0f7a4_28 : decode cJ5_newCapacity_0f7a4 28 = .ok (.iadd, 1) := by decide +kernel
theorem dJ5_newCapacity_0f7a4_29 : decode cJ5_newCapacity_0f7a4 29 = .ok (.invokestatic 114, 3) := by decide +kernel
theorem dJ5_newCapacity_0f7a4_32 : decode cJ5_newCapacity_0f7a4 32 = .ok (.istore 5, 2) := by decide +kernel
theorem dJ5_newCapacity_0f7a4_34 : decode cJ5_newCapacity_0f7a4 34 = .ok (.iload 5, 2) := by decide +kernel
theorem dJ5_newCapacity_0f7a4_36 : decode cJ5_newCapacity_0f7a4 36 = .ok (.ldc 39, 2) := by decide +kernel
theorem dJ5_newCapacity_0f7a4_38 : decode cJ5_newCapacity_0f7a4 38 = .ok (.if_icmp .ne 13, 3) := by decide +kernel
theorem dJ5_newCapacity_0f7a4_51 : decode cJ5_newCapacity_0f7a4 51 = .ok (.iload 5, 2) := by decide +kernel
theorem dJ5_newCapacity_0f7a4_53 : decode cJ5_newCapacity_0f7a4 53 = .ok (.aload_n 0, 1) := by decide +kernel
theorem dJ5_newCapacity_0f7a4_54 : decode cJ5_newCapacity_0f7a4 54 = .ok (.getfield 22, 3) := by decide +kernel
theorem dJ5_newCapacity_0f7a4_57 : decode cJ5_newCapacity_0f7a4 57 = .ok (.ishr, 1) := by decide +kernel
theorem dJ5_newCapacity_0f7a4_58 : decode cJ5_newCapacity_0f7a4 58 = .ok (.ireturn, 1) := by decide +kernel
theorem dJ5_setLength_d00df_0 : decode cJ5_setLength_d00df 0 = .ok (.iload_n 1, 1) := by decide +kernel
theorem dJ5_setLength_d00df_1 : decode cJ5_setLength_d00df 1 = .ok (.ifCond .ge 12, 3) := by decide +kernel
theorem dJ5_setLength_d00df_13 : decode cJ5_setLength_d00df 13 = .ok (.aload_n 0, 1) := by decide +kernel
theorem dJ5_setLength_d00df_14 : decode cJ5_setLength_d00df 14 = .ok (.iload_n 1, 1) := by decide +kernel
theorem dJ5_setLength_d00df_15 : decode cJ5_setLength_d00df 15 = .ok (.invokevirtual 100, 3) := by decide +kernel
theorem dJ5_setLength_d00df_18 : decode cJ5_setLength_d00df 18 = .ok (.aload_n 0, 1) := by decide +kernel
theorem dJ5_setLength_d00df_19 : decode cJ5_setLength_d00df 19 = .ok (.getfield 79, 3) := by decide +kernel
theorem dJ5_setLength_d00df_22 : decode cJ5_setLength_d00df 22 = .ok (.iload_n 1, 1) := by decide +kernel
theorem dJ5_setLength_d00df_23 : decode cJ5_setLength_d00df 23 = .ok (.if_icmp .ge 40, 3) := by decide +kernel
theorem dJ5_setLength_d00df_63 : decode cJ5_setLength_d00df 63 = .ok (.aload_n 0, 1) := by decide +kernel
theorem dJ5_setLength_d00df_64 : decode cJ5_setLength_d00df 64 = .ok (.getfield 79, 3) := by decide +kernel
theorem dJ5_setLength_d00df_67 : decode cJ5_setLength_d00df 67 = .ok (.iload_n 1, 1) := by decide +kernel
theorem dJ5_setLength_d00df_68 : decode cJ5_setLength_d00df 68 = .ok (.if_icmp .le 8, 3) := by decide +kernel
theorem dJ5_setLength_d00df_71 : decode cJ5_setLength_d00df 71 = .ok (.aload_n 0, 1) := by decide +kernel
theorem dJ5_setLength_d00df_72 : decode cJ5_setLength_d00df 72 = .ok (.iconst 1, 1) := by decide +kernel
theorem dJ5_setLength_d00df_73 : decode cJ5_setLength_d00df 73 = .ok (.putfield 73, 3) := by decide +kernel
theorem dJ5_setLength_d00df_76 : decode cJ5_setLength_d00df 76 = .ok (.aload_n 0, 1) := by decide +kernel
theorem dJ5_setLength_d00df_77 : decode cJ5_setLength_d00df 77 = .ok (.iload_n 1, 1) := by decide +kernel
theorem dJ5_setLength_d00df_78 : decode cJ5_setLength_d00df 78 = .ok (.putfield 79, 3) := by decide +kernel
theorem dJ5_setLength_d00df_81 : decode cJ5_setLength_d00df 81 = .ok (.return_, 1) := by decide +kernel
theorem dJ5_append_3fe6f_0 : decode cJ5_append_3fe6f 0 = .ok (.aload_n 0, 1) := by decide +kernel
theorem dJ5_append_3fe6f_1 : decode cJ5_append_3fe6f 1 = .ok (.aload_n 0, 1) := by decide +kernel
theorem dJ5_append_3fe6f_2 : decode cJ5_append_3fe6f 2 = .ok (.getfield 79, 3) := by decide +kernel
theorem dJ5_append_3fe6f_5 : decode cJ5_append_3fe6f 5 = .ok (.iconst 1, 1) := by decide +kernel
theorem dJ5_append_3fe6f_6 : decode cJ5_append_3fe6f 6 = .ok (.iadd, 1) := by decide +kernel
theorem dJ5_append_3fe6f_7 : decode cJ5_append_3fe6f 7 = .ok (.invokevirtual 100, 3) := by decide +kernel
theorem dJ5_append_3fe6f_10 : decode cJ5_append_3fe6f 10 = .ok (.aload_n 0, 1) := by decide +kernel
theorem dJ5_append_3fe6f_11 : decode cJ5_append_3fe6f 11 = .ok (.invokevirtual 83, 3) := by decide +kernel
theorem dJ5_append_3fe6f_14 : decode cJ5_append_3fe6f 14 = .ok (.ifCond .eq 31, 3) := by decide +kernel
theorem dJ5_append_3fe6f_17 : decode cJ5_append_3fe6f 17 = .ok (.iload_n 1, 1) := by decide +kernel
theorem dJ5_append_3fe6f_18 : decode cJ5_append_3fe6f 18 = .ok (.invokestatic 191, 3) := by decide +kernel
theorem dJ5_append_3fe6f_21 : decode cJ5_append_3fe6f 21 = .ok (.ifCond .eq 24, 3) := by decide +kernel
theorem dJ5_append_3fe6f_24 : decode cJ5_append_3fe6f 24 = .ok (.aload_n 0, 1) := by decide +kernel
theorem dJ5_append_3fe6f_25 : decode cJ5_append_3fe6f 25 = .ok (.getfield 15, 3) := by decide +kernel
theorem dJ5_append_3fe6f_28 : decode cJ5_append_3fe6f 28 = .ok (.aload_n 0, 1) := by decide +kernel
theorem dJ5_append_3fe6f_29 : decode cJ5_append_3fe6f 29 = .ok (.dup, 1) := by decide +kernel
theorem dJ5_append_3fe6f_30 : decode cJ5_append_3fe6f 30 = .ok (.getfield 79, 3) := by decide +kernel
theorem dJ5_append_3fe6f_33 : decode cJ5_append_3fe6f 33 = .ok (.dup_x1, 1) := by decide +kernel
theorem dJ5_append_3fe6f_34 : decode cJ5_append_3fe6f 34 = .ok (.iconst 1, 1) := by decide +kernel
theorem dJ5_append_3fe6f_35 : decode cJ5_append_3fe6f 35 = .ok (.iadd, 1) := by decide +kernel
theorem dJ5_append_3fe6f_36 : decode cJ5_append_3fe6f 36 = .ok (.putfield 79, 3) := by decide +kernel
theorem dJ5_append_3fe6f_39 : decode cJ5_append_3fe6f 39 = .ok (.iload_n 1, 1) := by decide +kernel
theorem dJ5_append_3fe6f_40 : decode cJ5_append_3fe6f 40 = .ok (.i2b, 1) := by decide +kernel
theorem dJ5_append_3fe6f_41 : decode cJ5_append_3fe6f 41 = .ok (.bastore, 1) := by decide +kernel
theorem dJ5_append_3fe6f_42 : decode cJ5_append_3fe6f 42 = .ok (.goto 33, 3) := by decide +kernel
theorem dJ5_append_3fe6f_75 : decode cJ5_append_3fe6f 75 = .ok (.aload_n 0, 1) := by decide +kernel
theorem dJ5_append_3fe6f_76 : decode cJ5_append_3fe6f 76 = .ok (.areturn, 1) := by decide +kernel
theorem dJ5_isLatin1_aae02_0 : decode cJ5_isLatin1_aae02 0 = .ok (.getstatic 18, 3) := by decide +kernel
theorem dJ5_isLatin1_aae02_3 : decode cJ5_isLatin1_aae02 3 = .ok (.ifCond .eq 14, 3) := by decide +kernel
theorem dJ5_isLatin1_aae02_6 : decode cJ5_isLatin1_aae02 6 = .ok (.aload_n 0, 1) := by decide +kernel
theorem dJ5_isLatin1_aae02_7 : decode cJ5_isLatin1_aae02 7 = .ok (.getfield 22, 3) := by decide +kernel
theorem dJ5_isLatin1_aae02_10 : decode cJ5_isLatin1_aae02 10 = .ok (.ifCond .ne 7, 3) := by decide +kernel
theorem dJ5_isLatin1_aae02_13 : decode cJ5_isLatin1_aae02 13 = .ok (.iconst 1, 1) := by decide +kernel
theorem dJ5_isLatin1_aae02_14 : decode cJ5_isLatin1_aae02 14 = .ok (.goto 4, 3) := by decide +kernel
theorem dJ5_isLatin1_aae02_18 : decode cJ5_isLatin1_aae02 18 = .ok (.ireturn, 1) := by decide +kernel
theorem dJ4_append_cf468_0 : decode cJ4_append_cf468 0 = .ok (.aload_n 0, 1) := by decide +kernel
theorem dJ4_append_cf468_1 : decode cJ4_append_cf468 1 = .ok (.iload_n 1, 1) := by decide +kernel
theorem dJ4_append_cf468_2 : decode cJ4_append_cf468 2 = .ok (.invokespecial 50, 3) := by decide +kernel
theorem dJ4_append_cf468_5 : decode cJ4_append_cf468 5 = .ok (.pop, 1) := by decide +kernel
theorem dJ4_append_cf468_6 : decode cJ4_append_cf468 6 = .ok (.aload_n 0, 1) := by decide +kernel
theorem dJ4_append_cf468_7 : decode cJ4_append_cf468 7 = .ok (.areturn, 1) := by decide +kernel
theorem dJ4_setLength_d00df_0 : decode cJ4_setLength_d00df 0 = .ok (.aload_n 0, 1) := by decide +kernel
theorem dJ4_setLength_d00df_1 : decode cJ4_setLength_d00df 1 = .ok (.iload_n 1, 1) := by decide +kernel
theorem dJ4_setLength_d00df_2 : decode cJ4_setLength_d00df 2 = .ok (.invokespecial 333, 3) := by decide +kernel
theorem dJ4_setLength_d00df_5 : decode cJ4_setLength_d00df 5 = .ok (.return_, 1) := by decide +kernel
theorem dJ8_newLength_cabcc_0 : decode cJ8_newLength_cabcc 0 = .ok (.iload_n 0, 1) := by decide +kernel
theorem dJ8_newLength_cabcc_1 : decode cJ8_newLength_cabcc 1 = .ok (.iload_n 1, 1) := by decide +kernel
theorem dJ8_newLength_cabcc_2 : decode cJ8_newLength_cabcc 2 = .ok (.iload_n 2, 1) := by decide +kernel
theorem dJ8_newLength_cabcc_3 : decode cJ8_newLength_cabcc 3 = .ok (.invokestatic 194, 3) := by decide +kernel
theorem dJ8_newLength_cabcc_6 : decode cJ8_newLength_cabcc 6 = .ok (.iadd, 1) := by decide +kernel
theorem dJ8_newLength_cabcc_7 : decode cJ8_newLength_cabcc 7 = .ok (.istore_n 3, 1) := by decide +kernel
theorem dJ8_newLength_cabcc_8 : decode cJ8_newLength_cabcc 8 = .ok (.iconst 0, 1) := by decide +kernel
theorem dJ8_newLength_cabcc_9 : decode cJ8_newLength_cabcc 9 = .ok (.iload_n 3, 1) := by decide +kernel
theorem dJ8_newLength_cabcc_10 : decode cJ8_newLength_cabcc 10 = .ok (.if_icmp .ge 11, 3) := by decide +kernel
theorem dJ8_newLength_cabcc_13 : decode cJ8_newLength_cabcc 13 = .ok (.iload_n 3, 1) := by decide +kernel
theorem dJ8_newLength_cabcc_14 : decode cJ8_newLength_cabcc 14 = .ok (.ldc 200, 2) := by decide +kernel
theorem dJ8_newLength_cabcc_16 : decode cJ8_newLength_cabcc 16 = .ok (.if_icmp .gt 5, 3) := by decide +kernel
theorem dJ8_newLength_cabcc_19 : decode cJ8_newLength_cabcc 19 = .ok (.iload_n 3, 1) := by decide +kernel
theorem dJ8_newLength_cabcc_20 : decode cJ8_newLength_cabcc 20 = .ok (.ireturn, 1) := by decide +kernel
def EJ1_canEncode_fc78dK : List (Nat × Nat) := []
def EJ5_isLatin1_aae02 : List (Nat × Nat) := []
def EJ8_newLength_cabcc : List (Nat × Nat) := []
def EJ5_newCapacity_0f7a4 : List (Nat × Nat) := []
def EJ5_ensureCapacityInternal_d00df : List (Nat × Nat) := []
def EJ5_setLength_d00df : List (Nat × Nat) := [(0, 2), (0, 3)]
def EJ4_setLength_d00df : List (Nat × Nat) := [(0, 2), (0, 3)]
set_option maxHeartbeats 4000000 in
set_option maxRecDepth 20000 in
theorem uJ1_canEncode_fc78dK (l : Launch) (dC : Nat → ClassId) (dI : Nat → Nat → Nat) (ca : Nat → ClassId) (base : Nat) (B : jF) (hB : jBok B) (hAp : jAp (dC, dI)) (G0 : jT) (H0 : Heap) (a0 : Int32) : Met l yJ1_canEncode_fc78d (jw yJ1_canEncode_fc78d cJ1_canEncode_fc78d 1 (some .boolean)) ({ frames := 0, cells := 0, slots := 0, locals := 0 }) (va_Pc [.int a0] (fun U => U.heap = H0 ∧ jX B base G0 [] H0 ∧ jG dC dI ca base U ∧ jP (dC, dI) G0 H0 [] ∧ 0 ≤ a0.toInt ∧ a0.toInt ≤ 255)) (va_Qi (S := Unit) (fun r u => (r = 0 ∨ r = 1) ∧ (r.toInt = 1)) (fun u t => jRt (dC, dI) B base G0 EJ1_canEncode_fc78dK H0 [] t.heap) (jA base)) 0 0 (jA base) := by
  refine Met.ofW (cc := cJ1_canEncode_fc78d) (maxL := 1) (ret := (some .boolean)) (by decide) rfl ?_
  intro p e s m args below meth c s₁ Bd hml hv
  obtain ⟨rfl, hH0, hX, hG, hP0, hp0, hp1⟩ := hv
  have hK := hG.1
  have hx := Bd.exec
  have hb := Bd.bytes
  have hr := Bd.returns
  have hts := atoms_spec (ws := (jw yJ1_canEncode_fc78d cJ1_canEncode_fc78d 1 (some .boolean))) Bd.pre
  have htw : ∀ w ∈ jWl, w.before _ s = true := fun w h => hts w (List.mem_cons_of_mem _ h)
  have hown : s.vm.findClass RJ1 = some m.cls := findClass_of_methodNamed Bd.named
  have hlocks := Bd.notSynchronized
  obtain ⟨Q, hQ⟩ : ∃ Q, Q = MQ below (va_Qi (S := Unit) (fun r u => (r = 0 ∨ r = 1) ∧ (r.toInt = 1)) (fun u t => jRt (dC, dI) B base G0 EJ1_canEncode_fc78dK H0 [] t.heap) (jA base)) ([.int a0] : List Value).toArray s 0 0 (jA base) := ⟨_, rfl⟩
  rw [← hQ]
  have hl := lv_entry ([.int a0]) (n := 1) (Nat.le_of_ble_eq_true rfl)
  rw [lg_entry_eq]
  generalize (lg_sl ([.int a0]) ++ List.replicate (1 - (lg_sl ([.int a0])).length) Slot.unset).toArray = ls at hl ⊢
  have hl : lv_has ls 1 [(0, .int a0)] := hl
  generalize hR : (headSpec (jw yJ1_canEncode_fc78d cJ1_canEncode_fc78d 1 (some .boolean)) ({ frames := 0, cells := 0, slots := 0, locals := 0 })).room = R
  subst hH0
  have hh : jSt (dC, dI) B base G0 G0 EJ1_canEncode_fc78dK s.heap 0 0 [] [] [] s.heap [] := jSt.start hX hP0 jMc.nil jIs.nil
  clear hX hP0
  have hk0 : (0 : Int32).toInt = 0 := by decide
  have hk1 : (1 : Int32).toInt = 1 := by decide
  have hk255 : (255 : Int32).toInt = 255 := by decide
  have hrg_a0 := jb_rng a0
  refine lv_iload_n hx hb dJ1_canEncode_fc78d_0 rfl (lv_at hl 0 rfl) ?_
  refine lv_sipush (v := 255) hx hb dJ1_canEncode_fc78d_1 (by decide) ?_
  refine lv_icmp_gt (tgt := 11) hx hb dJ1_canEncode_fc78d_4 (by decide) (fun c_1 => ?_) (fun c_1 => ?_)
  · skip
    have c_1' : a0.toInt > 255 := jb_gt (rfl) ((by decide)) c_1
    refine lv_iconst (v := 0) hx hb dJ1_canEncode_fc78d_11 (by decide) ?_
    rw [hQ]
    exact W.zret (v := 0) hx hb hr (jb_nz (Or.inl rfl)) (fun t ht hW => ⟨⟨0, (), rfl, ⟨(Or.inl rfl), by first | omega | rfl | assumption | decide | exact Or.inl rfl | exact Or.inr rfl | (simp only; omega)⟩, hh.rt (M1 := []) [] rfl ht⟩, by rw [ht]; try exact hh.1.1, fun q h9 hq => by rw [ht]; try exact hh.1.2.1 q h9 hq⟩) hh.1.2.2 dJ1_canEncode_fc78d_12
  · skip
    have c_1' : a0.toInt ≤ 255 := jb_gt_n (rfl) ((by decide)) c_1
    refine lv_iconst (v := 1) hx hb dJ1_canEncode_fc78d_7 (by decide) ?_
    refine lv_goto (tgt := 12) hx hb dJ1_canEncode_fc78d_8 (by decide) ?_
    rw [hQ]
    exact W.zret (v := 1) hx hb hr (jb_nz (Or.inr rfl)) (fun t ht hW => ⟨⟨1, (), rfl, ⟨(Or.inr rfl), by first | omega | rfl | assumption | decide | exact Or.inl rfl | exact Or.inr rfl | (simp only; omega)⟩, hh.rt (M1 := []) [] rfl ht⟩, by rw [ht]; try exact hh.1.1, fun q h9 hq => by rw [ht]; try exact hh.1.2.1 q h9 hq⟩) hh.1.2.2 dJ1_canEncode_fc78d_12
set_option maxHeartbeats 4000000 in
set_option maxRecDepth 20000 in
theorem uJ5_isLatin1_aae02 (l : Launch) (dC : Nat → ClassId) (dI : Nat → Nat → Nat) (ca : Nat → ClassId) (base : Nat) (B : jF) (hB : jBok B) (hAp : jAp (dC, dI)) (hB0 : ∀ n G a H, B 0 n G a H ↔ jOb (dC, dI) 0 4 (Fz0 n G) a H) (G0 : jT) (H0 : Heap) (r0 : Nat) : Met l yJ5_isLatin1_aae02 (jw yJ5_isLatin1_aae02 cJ5_isLatin1_aae02 1 (some .boolean)) ({ frames := 0, cells := 0, slots := 0, locals := 0 }) (va_Pc [.ref r0] (fun U => U.heap = H0 ∧ jX B base G0 [] H0 ∧ jG dC dI ca base U ∧ G0 r0 = some (0, 0) ∧ jP (dC, dI) G0 H0 [] ∧ True)) (va_Qi (S := Unit) (fun r u => (r = 0 ∨ r = 1) ∧ (r.toInt = 1)) (fun u t => jRt (dC, dI) B base G0 EJ5_isLatin1_aae02 H0 [] t.heap) (jA base)) 0 0 (jA base) := by
  refine Met.ofW (cc := cJ5_isLatin1_aae02) (maxL := 1) (ret := (some .boolean)) (by decide) rfl ?_
  intro p e s m args below meth c s₁ Bd hml hv
  obtain ⟨rfl, hH0, hX, hG, hg_r0, hP0, hp0⟩ := hv
  have hK := hG.1
  have hx := Bd.exec
  have hb := Bd.bytes
  have hr := Bd.returns
  have hts := atoms_spec (ws := (jw yJ5_isLatin1_aae02 cJ5_isLatin1_aae02 1 (some .boolean))) Bd.pre
  have htw : ∀ w ∈ jWl, w.before _ s = true := fun w h => hts w (List.mem_cons_of_mem _ h)
  have hown : s.vm.findClass RJ5 = some m.cls := findClass_of_methodNamed Bd.named
  have hlocks := Bd.notSynchronized
  obtain ⟨Q, hQ⟩ : ∃ Q, Q = MQ below (va_Qi (S := Unit) (fun r u => (r = 0 ∨ r = 1) ∧ (r.toInt = 1)) (fun u t => jRt (dC, dI) B base G0 EJ5_isLatin1_aae02 H0 [] t.heap) (jA base)) ([.ref r0] : List Value).toArray s 0 0 (jA base) := ⟨_, rfl⟩
  rw [← hQ]
  have hl := lv_entry ([.ref r0]) (n := 1) (Nat.le_of_ble_eq_true rfl)
  rw [lg_entry_eq]
  generalize (lg_sl ([.ref r0]) ++ List.replicate (1 - (lg_sl ([.ref r0])).length) Slot.unset).toArray = ls at hl ⊢
  have hl : lv_has ls 1 [(0, .ref r0)] := hl
  generalize hR : (headSpec (jw yJ5_isLatin1_aae02 cJ5_isLatin1_aae02 1 (some .boolean)) ({ frames := 0, cells := 0, slots := 0, locals := 0 })).room = R
  subst hH0
  have hh : jSt (dC, dI) B base G0 G0 EJ5_isLatin1_aae02 s.heap 0 0 [] [] [] s.heap [] := jSt.start hX hP0 jMc.nil jIs.nil
  clear hX hP0
  have hk0 : (0 : Int32).toInt = 0 := by decide
  have hk1 : (1 : Int32).toInt = 1 := by decide
  have hly_0_1 := htw (u_lay RJ4 TJ4 1) (jWc_wsJ40 _ (u_in_lay (by decide)))
  have hlk_22 := (htw (.fieldLink RJ5 22 "java/lang/AbstractStringBuilder" "coder" "B") (jWr_13 _ (List.mem_of_getElem? (i := 12) rfl)))
  refine va_gets hx hb hG.2.2.2.2.1 hh.1 hown (htw (.fieldLink RJ5 18 "java/lang/String" "COMPACT_STRINGS" "Z") (jWr_13 _ (List.mem_of_getElem? (i := 10) rfl))) (fun _ h9 => h9) dJ5_isLatin1_aae02_0 ?_
  refine lv_if_eq (tgt := 17) hx hb dJ5_isLatin1_aae02_3 (by decide) (fun c_2 => ?_) (fun c_2 => ?_)
  · skip
    exact absurd c_2 (by decide)
  · skip
    refine lv_aload_n hx hb dJ5_isLatin1_aae02_6 rfl (lv_at hl 0 rfl) ?_
    obtain ⟨v_3, hv_3, hh_4⟩ := hh.pin (C := RJ4) (T := TJ4) (N := 4) hB0 rfl (by decide) hg_r0 (i := 1) (by decide) rfl
    clear hh
    obtain ⟨coder_5, rfl, hlocoder_5, hhicoder_5⟩ := hv_3
    obtain rfl : coder_5 = 0 := Int32.toInt_inj.mp (by rw [show (0 : Int32).toInt = 0 by decide]; omega)
    refine j7_read hx hb hown hK (C := RJ4) (T := TJ4) (N := 4) rfl hly_0_1 hlk_22 (hh_4.at 0 rfl) dJ5_isLatin1_aae02_7 ?_
    refine lv_if_ne (tgt := 17) hx hb dJ5_isLatin1_aae02_10 (by decide) (fun c_6 => ?_) (fun c_6 => ?_)
    · skip
      exact absurd c_6 (by decide)
    · skip
      refine lv_iconst (v := 1) hx hb dJ5_isLatin1_aae02_13 (by decide) ?_
      refine lv_goto (tgt := 18) hx hb dJ5_isLatin1_aae02_14 (by decide) ?_
      rw [hQ]
      exact W.zret (v := 1) hx hb hr (jb_nz (Or.inr rfl)) (fun t ht hW => ⟨⟨1, (), rfl, ⟨(Or.inr rfl), by first | omega | rfl | assumption | decide | exact Or.inl rfl | exact Or.inr rfl | (simp only; omega)⟩, hh_4.rt (M1 := []) [] rfl ht⟩, by rw [ht]; try exact hh_4.1.1, fun q h9 hq => by rw [ht]; try exact hh_4.1.2.1 q h9 hq⟩) hh_4.1.2.2 dJ5_isLatin1_aae02_18
set_option maxHeartbeats 4000000 in
set_option maxRecDepth 20000 in
theorem uJ8_newLength_cabcc (l : Launch) (dC : Nat → ClassId) (dI : Nat → Nat → Nat) (ca : Nat → ClassId) (base : Nat) (B : jF) (hB : jBok B) (hAp : jAp (dC, dI)) (G0 : jT) (H0 : Heap) (a0 : Int32) (a1 : Int32) (a2 : Int32) : Met l yJ8_newLength_cabcc (jw yJ8_newLength_cabcc cJ8_newLength_cabcc 4 (some .int)) ({ frames := 1, cells := 0, slots := 0, locals := 32 }) (va_Pc [.int a0, .int a1, .int a2] (fun U => U.heap = H0 ∧ jX B base G0 [] H0 ∧ jG dC dI ca base U ∧ jP (dC, dI) G0 H0 [] ∧ 0 ≤ a0.toInt ∧ a0.toInt ≤ 100000 ∧ 1 ≤ a1.toInt ∧ a1.toInt ≤ 100000 ∧ 0 ≤ a2.toInt ∧ a2.toInt ≤ 100000)) (va_Qi (S := Unit) (fun r u => (a0.toInt + a1.toInt ≤ r.toInt ∧ a0.toInt + a2.toInt ≤ r.toInt ∧ (r.toInt ≤ a0.toInt + a1.toInt ∨ r.toInt ≤ a0.toInt + a2.toInt))) (fun u t => jRt (dC, dI) B base G0 EJ8_newLength_cabcc H0 [] t.heap) (jA base)) 0 0 (jA base) := by
  refine Met.ofW (cc := cJ8_newLength_cabcc) (maxL := 4) (ret := (some .int)) (by decide) rfl ?_
  intro p e s m args below meth c s₁ Bd hml hv
  obtain ⟨rfl, hH0, hX, hG, hP0, hp0, hp1, hp2, hp3, hp4, hp5⟩ := hv
  have hK := hG.1
  have hx := Bd.exec
  have hb := Bd.bytes
  have hr := Bd.returns
  have hts := atoms_spec (ws := (jw yJ8_newLength_cabcc cJ8_newLength_cabcc 4 (some .int))) Bd.pre
  have htw : ∀ w ∈ jWl, w.before _ s = true := fun w h => hts w (List.mem_cons_of_mem _ h)
  have hown : s.vm.findClass RJ8 = some m.cls := findClass_of_methodNamed Bd.named
  have hlocks := Bd.notSynchronized
  obtain ⟨Q, hQ⟩ : ∃ Q, Q = MQ below (va_Qi (S := Unit) (fun r u => (a0.toInt + a1.toInt ≤ r.toInt ∧ a0.toInt + a2.toInt ≤ r.toInt ∧ (r.toInt ≤ a0.toInt + a1.toInt ∨ r.toInt ≤ a0.toInt + a2.toInt))) (fun u t => jRt (dC, dI) B base G0 EJ8_newLength_cabcc H0 [] t.heap) (jA base)) ([.int a0, .int a1, .int a2] : List Value).toArray s 0 0 (jA base) := ⟨_, rfl⟩
  rw [← hQ]
  have hl := lv_entry ([.int a0, .int a1, .int a2]) (n := 4) (Nat.le_of_ble_eq_true rfl)
  rw [lg_entry_eq]
  generalize (lg_sl ([.int a0, .int a1, .int a2]) ++ List.replicate (4 - (lg_sl ([.int a0, .int a1, .int a2])).length) Slot.unset).toArray = ls at hl ⊢
  have hl : lv_has ls 4 [(0, .int a0), (1, .int a1), (2, .int a2)] := hl
  generalize hR : (headSpec (jw yJ8_newLength_cabcc cJ8_newLength_cabcc 4 (some .int)) ({ frames := 1, cells := 0, slots := 0, locals := 32 })).room = R
  subst hH0
  have hh : jSt (dC, dI) B base G0 G0 EJ8_newLength_cabcc s.heap 0 0 [] [] [] s.heap [] := jSt.start hX hP0 jMc.nil jIs.nil
  clear hX hP0
  have hk0 : (0 : Int32).toInt = 0 := by decide
  have hk1 : (1 : Int32).toInt = 1 := by decide
  have hk2147483639 : (2147483639 : Int32).toInt = 2147483639 := by decide
  have hcs_200 := htw (.constant RJ8 200 2147483639) (jWr_34 _ (List.mem_of_getElem? (i := 8) rfl))
  have hrg_a0 := jb_rng a0
  have hrg_a1 := jb_rng a1
  have hrg_a2 := jb_rng a2
  refine lv_iload_n hx hb dJ8_newLength_cabcc_0 rfl (lv_at hl 0 rfl) ?_
  refine lv_iload_n hx hb dJ8_newLength_cabcc_1 rfl (lv_at hl 1 rfl) ?_
  refine lv_iload_n hx hb dJ8_newLength_cabcc_2 rfl (lv_at hl 2 rfl) ?_
  refine va_mmax hx hb (by rw [hml]; exact hl.1.symm) hown (htw (.methodLink RJ8 194 Lib.Math.max.name) (jWr_34 _ (List.mem_of_getElem? (i := 7) rfl))) (htw (.static Lib.Math.max.name) (jWr_3 _ (List.mem_of_getElem? (i := 6) rfl))) (htw (.initialized "java/lang/Math") (jWr_3 _ (List.mem_of_getElem? (i := 7) rfl))) (htw (.code Lib.Math.max.name Lib.Math.max.code 2 (some .int)) (jWr_3 _ (List.mem_of_getElem? (i := 8) rfl))) (by rw [← hR]; exact Nat.le_of_ble_eq_true rfl) (by rw [← hR]; exact Nat.le_of_ble_eq_true rfl) (Nat.zero_le _) (Nat.zero_le _) dJ8_newLength_cabcc_3 ?_
  refine lv_topi (fun z_1 ez_1 => ?_)
  have hz_1 := jb_max ez_1
  refine lv_iadd hx hb dJ8_newLength_cabcc_6 ?_
  refine lv_topi (fun z_2 ez_2 => ?_)
  have hz_2 : z_2.toInt = a0.toInt + z_1.toInt := by rw [ez_2]; exact jb_iadd2 (rfl) (rfl) (by omega)
  refine lv_istore_n (lv' := [(3, .int z_2), (0, .int a0), (1, .int a1), (2, .int a2)]) hx hb dJ8_newLength_cabcc_7 rfl hl (by decide) rfl (fun ls hl => ?_)
  refine lv_iconst (v := 0) hx hb dJ8_newLength_cabcc_8 (by decide) ?_
  refine lv_iload_n hx hb dJ8_newLength_cabcc_9 rfl (lv_at hl 0 rfl) ?_
  refine lv_icmp_ge (tgt := 21) hx hb dJ8_newLength_cabcc_10 (by decide) (fun c_3 => ?_) (fun c_3 => ?_)
  · skip
    have c_3' : 0 ≥ z_2.toInt := jb_ge ((by decide)) (rfl) c_3
    exact absurd c_3' (by omega)
  · skip
    have c_3' : 0 < z_2.toInt := jb_ge_n ((by decide)) (rfl) c_3
    refine lv_iload_n hx hb dJ8_newLength_cabcc_13 rfl (lv_at hl 0 rfl) ?_
    refine lv_ldc hx hb hown hcs_200 dJ8_newLength_cabcc_14 ?_
    refine lv_icmp_gt (tgt := 21) hx hb dJ8_newLength_cabcc_16 (by decide) (fun c_4 => ?_) (fun c_4 => ?_)
    · skip
      have c_4' : z_2.toInt > 2147483639 := jb_gt (rfl) ((by decide)) c_4
      exact absurd c_4' (by omega)
    · skip
      have c_4' : z_2.toInt ≤ 2147483639 := jb_gt_n (rfl) ((by decide)) c_4
      refine lv_iload_n hx hb dJ8_newLength_cabcc_19 rfl (lv_at hl 0 rfl) ?_
      rw [hQ]
      exact W.iret (v := z_2) hx hb hr (fun t ht hW => ⟨⟨z_2, (), rfl, by first | omega | (refine ⟨?_, ?_, ?_⟩ <;> (first | omega | rfl | assumption | decide | exact Or.inl rfl | exact Or.inr rfl | (simp only; omega))), hh.rt (M1 := []) [] rfl ht⟩, by rw [ht]; try exact hh.1.1, fun q h9 hq => by rw [ht]; try exact hh.1.2.1 q h9 hq⟩) hh.1.2.2 dJ8_newLength_cabcc_20
set_option maxHeartbeats 4000000 in
set_option maxRecDepth 20000 in
theorem uJ5_newCapacity_0f7a4 (l : Launch) (dC : Nat → ClassId) (dI : Nat → Nat → Nat) (ca : Nat → ClassId) (base : Nat) (B : jF) (hB : jBok B) (hAp : jAp (dC, dI)) (hB0 : ∀ n G a H, B 0 n G a H ↔ jOb (dC, dI) 0 4 (Fz0 n G) a H) (hB198 : ∀ n G a H, B 198 n G a H ↔ jAr (dC, dI) (ca 0) (fun j z => jBf j z) n a H) (G0 : jT) (H0 : Heap) (r0 : Nat) (a1 : Int32) (pc : Int32) (pa : Nat) (n_pa : Nat) : Met l yJ5_newCapacity_0f7a4 (jw yJ5_newCapacity_0f7a4 cJ5_newCapacity_0f7a4 6 (some .int)) ({ frames := 2, cells := 0, slots := 0, locals := 55 }) (va_Pc [.ref r0, .int a1] (fun U => U.heap = H0 ∧ jX B base G0 [] H0 ∧ jG dC dI ca base U ∧ G0 r0 = some (0, 0) ∧ G0 pa = some (198, n_pa) ∧ jP (dC, dI) G0 H0 [(r0, 0, 3, .int pc), (r0, 0, 0, .ref pa)] ∧ n_pa ≤ 1000 ∧ n_pa < a1.toInt ∧ a1.toInt ≤ 1001)) (va_Qi (S := Unit) (fun r u => (a1.toInt ≤ r.toInt ∧ n_pa + n_pa + 2 ≤ r.toInt ∧ (r.toInt ≤ a1.toInt ∨ r.toInt ≤ n_pa + n_pa + 2))) (fun u t => jRt (dC, dI) B base G0 EJ5_newCapacity_0f7a4 H0 [] t.heap) (jA base)) 0 0 (jA base) := by
  refine Met.ofW (cc := cJ5_newCapacity_0f7a4) (maxL := 6) (ret := (some .int)) (by decide) rfl ?_
  intro p e s m args below meth c s₁ Bd hml hv
  obtain ⟨rfl, hH0, hX, hG, hg_r0, hg_pa, hP0, hp0, hp1, hp2⟩ := hv
  have hK := hG.1
  have hx := Bd.exec
  have hb := Bd.bytes
  have hr := Bd.returns
  have hts := atoms_spec (ws := (jw yJ5_newCapacity_0f7a4 cJ5_newCapacity_0f7a4 6 (some .int))) Bd.pre
  have htw : ∀ w ∈ jWl, w.before _ s = true := fun w h => hts w (List.mem_cons_of_mem _ h)
  have hown : s.vm.findClass RJ5 = some m.cls := findClass_of_methodNamed Bd.named
  have hlocks := Bd.notSynchronized
  obtain ⟨Q, hQ⟩ : ∃ Q, Q = MQ below (va_Qi (S := Unit) (fun r u => (a1.toInt ≤ r.toInt ∧ n_pa + n_pa + 2 ≤ r.toInt ∧ (r.toInt ≤ a1.toInt ∨ r.toInt ≤ n_pa + n_pa + 2))) (fun u t => jRt (dC, dI) B base G0 EJ5_newCapacity_0f7a4 H0 [] t.heap) (jA base)) ([.ref r0, .int a1] : List Value).toArray s 0 0 (jA base) := ⟨_, rfl⟩
  rw [← hQ]
  have hl := lv_entry ([.ref r0, .int a1]) (n := 6) (Nat.le_of_ble_eq_true rfl)
  rw [lg_entry_eq]
  generalize (lg_sl ([.ref r0, .int a1]) ++ List.replicate (6 - (lg_sl ([.ref r0, .int a1])).length) Slot.unset).toArray = ls at hl ⊢
  have hl : lv_has ls 6 [(0, .ref r0), (1, .int a1)] := hl
  generalize hR : (headSpec (jw yJ5_newCapacity_0f7a4 cJ5_newCapacity_0f7a4 6 (some .int)) ({ frames := 2, cells := 0, slots := 0, locals := 55 })).room = R
  subst hH0
  have hh : jSt (dC, dI) B base G0 G0 EJ5_newCapacity_0f7a4 s.heap 0 0 [(r0, 0, 3, .int pc), (r0, 0, 0, .ref pa)] [] [] s.heap [] := jSt.start hX hP0 jMc.nil jIs.nil
  clear hX hP0
  have hk0 : (0 : Int32).toInt = 0 := by decide
  have hk1 : (1 : Int32).toInt = 1 := by decide
  have hk2 : (2 : Int32).toInt = 2 := by decide
  have hk2147483647 : (2147483647 : Int32).toInt = 2147483647 := by decide
  have hly_0_0 := htw (u_lay RJ4 TJ4 0) (jWc_wsJ40 _ (u_in_lay (by decide)))
  have hly_0_1 := htw (u_lay RJ4 TJ4 1) (jWc_wsJ40 _ (u_in_lay (by decide)))
  have hlk_15 := (htw (.fieldLink RJ5 15 "java/lang/AbstractStringBuilder" "value" "[B") (jWr_13 _ (List.mem_of_getElem? (i := 11) rfl)))
  have hlk_22 := (htw (.fieldLink RJ5 22 "java/lang/AbstractStringBuilder" "coder" "B") (jWr_13 _ (List.mem_of_getElem? (i := 12) rfl)))
  have hcs_39 := htw (.constant RJ5 39 2147483647) (jWr_45 _ (List.mem_of_getElem? (i := 21) rfl))
  have hrg_a1 := jb_rng a1
  refine lv_aload_n hx hb dJ5_newCapacity_0f7a4_0 rfl (lv_at hl 0 rfl) ?_
  refine j7_read hx hb hown hK (C := RJ4) (T := TJ4) (N := 4) rfl hly_0_0 hlk_15 (hh.at 1 rfl) dJ5_newCapacity_0f7a4_1 ?_
  refine j7_len hx hb hK hh hB198 0 rfl (by decide) hg_pa (by omega) dJ5_newCapacity_0f7a4_4 (fun z_1 hz_1 => ?_)
  refine lv_istore_n (lv' := [(2, .int z_1), (0, .ref r0), (1, .int a1)]) hx hb dJ5_newCapacity_0f7a4_5 rfl hl (by decide) rfl (fun ls hl => ?_)
  refine lv_iload_n hx hb dJ5_newCapacity_0f7a4_6 rfl (lv_at hl 2 rfl) ?_
  refine lv_aload_n hx hb dJ5_newCapacity_0f7a4_7 rfl (lv_at hl 1 rfl) ?_
  obtain ⟨v_2, hv_2, hh_3⟩ := hh.pin (C := RJ4) (T := TJ4) (N := 4) hB0 rfl (by decide) hg_r0 (i := 1) (by decide) rfl
  clear hh
  obtain ⟨coder_4, rfl, hlocoder_4, hhicoder_4⟩ := hv_2
  obtain rfl : coder_4 = 0 := Int32.toInt_inj.mp (by rw [show (0 : Int32).toInt = 0 by decide]; omega)
  refine j7_read hx hb hown hK (C := RJ4) (T := TJ4) (N := 4) rfl hly_0_1 hlk_22 (hh_3.at 0 rfl) dJ5_newCapacity_0f7a4_8 ?_
  refine lv_ishl hx hb dJ5_newCapacity_0f7a4_11 ?_
  refine lv_topi (fun z_5 ez_5 => ?_)
  have hz_5 : z_5.toInt = a1.toInt := by rw [ez_5, jb_shl0]; try exact rfl
  refine lv_istore_n (lv' := [(3, .int z_5), (2, .int z_1), (0, .ref r0), (1, .int a1)]) hx hb dJ5_newCapacity_0f7a4_12 rfl hl (by decide) rfl (fun ls hl => ?_)
  refine lv_iload_n hx hb dJ5_newCapacity_0f7a4_13 rfl (lv_at hl 0 rfl) ?_
  refine lv_iload_n hx hb dJ5_newCapacity_0f7a4_14 rfl (lv_at hl 1 rfl) ?_
  refine lv_isub hx hb dJ5_newCapacity_0f7a4_15 ?_
  refine lv_topi (fun z_6 ez_6 => ?_)
  have hz_6 : z_6.toInt = z_5.toInt - z_1.toInt := by rw [ez_6]; exact jb_isub2 (rfl) (rfl) (by omega)
  refine lv_istore (lv' := [(4, .int z_6), (3, .int z_5), (2, .int z_1), (0, .ref r0), (1, .int a1)]) hx hb dJ5_newCapacity_0f7a4_16 hl (by decide) rfl (fun ls hl => ?_)
  refine lv_iload_n hx hb dJ5_newCapacity_0f7a4_18 rfl (lv_at hl 2 rfl) ?_
  refine lv_iload hx hb dJ5_newCapacity_0f7a4_19 (lv_at hl 0 rfl) ?_
  refine lv_iload_n hx hb dJ5_newCapacity_0f7a4_21 rfl (lv_at hl 2 rfl) ?_
  refine lv_iconst (v := 2) hx hb dJ5_newCapacity_0f7a4_22 (by decide) ?_
  refine lv_aload_n hx hb dJ5_newCapacity_0f7a4_23 rfl (lv_at hl 3 rfl) ?_
  refine j7_read hx hb hown hK (C := RJ4) (T := TJ4) (N := 4) rfl hly_0_1 hlk_22 (hh_3.at 0 rfl) dJ5_newCapacity_0f7a4_24 ?_
  refine lv_ishl hx hb dJ5_newCapacity_0f7a4_27 ?_
  refine lv_topi (fun z_7 ez_7 => ?_)
  have hz_7 : z_7.toInt = 2 := by rw [ez_7, jb_shl0]; try exact (by decide)
  refine lv_iadd hx hb dJ5_newCapacity_0f7a4_28 ?_
  refine lv_topi (fun z_8 ez_8 => ?_)
  have hz_8 : z_8.toInt = z_1.toInt + z_7.toInt := by rw [ez_8]; exact jb_iadd2 (rfl) (rfl) (by omega)
  refine va_calli (A0 := jA base) (H0 := s.heap) (va_runS (As := [.int z_1, .int z_6, .int z_8]) (rest := []) ⟨hx, hb, hml, hown, hts⟩ (uJ8_newLength_cabcc l dC dI ca base B hB hAp G0 s.heap z_1 z_6 z_8) (va_cwS 3 hts (jgS (jWr_45 _ (List.mem_of_getElem? (i := 22) rfl)) (jWr_34 _ (List.mem_of_getElem? (i := 4) rfl)) (jWr_34 _ (List.mem_of_getElem? (i := 5) rfl)) (jWr_34 _ (List.mem_of_getElem? (i := 6) rfl))) rfl rfl rfl (by decide +kernel) ⟨by rw [← hR]; exact Nat.le_of_ble_eq_true rfl, by rw [← hR]; exact Nat.le_of_ble_eq_true rfl⟩) ⟨fun a U g mk q => by obtain ⟨q0, q1, q2, qK, q10, q11⟩ := q; exact ⟨q0, q1, q2, jG.calling g mk a qK, q10, q11⟩, fun U hU hW => ⟨rfl, hU, hh_3.2.1, hG.step hW hU hh_3.1, jP.nil, by first | omega | (refine ⟨?_, ?_, ?_, ?_, ?_, ?_⟩ <;> (first | omega | rfl | assumption | decide | exact Or.inl rfl | exact Or.inr rfl | (simp only; omega)))⟩⟩ rfl rfl hl.1 rfl (lv_room (Nat.le_of_ble_eq_true rfl)) dJ5_newCapacity_0f7a4_29 ⟨Nat.zero_le _, Nat.zero_le _⟩) hh_3.1 (fun q _ h => h) (fun q h => h) (fun r_10 u_9 t_9 H_9 locs_9 ht_9 hvm_9 hr_10 hb_9 hz_9 hk_9 hS_9 => ?_)
  rw [ht_9] at hb_9
  obtain ⟨hb_91, hb_92, hb_93, hb_94, hb_95⟩ := hb_9
  have hh_9 : jSt (dC, dI) B base G0 G0 EJ5_newCapacity_0f7a4 s.heap 0 0 [(r0, 0, 1, .int 0), (r0, 0, 3, .int pc), (r0, 0, 0, .ref pa)] [] [] H_9 locs_9 := ((hh_3.call hb_91 hb_92 hb_93 hb_94 hS_9 rfl (L1 := [(r0, 0, 1, .int 0), (r0, 0, 3, .int pc), (r0, 0, 0, .ref pa)]) [0, 1, 2] rfl rfl (M1 := []) [] rfl rfl (I1 := []) [] rfl rfl).more hb_95)
  clear hh_3 ht_9 hvm_9 hz_9 hk_9 hS_9 hb_91 hb_92 hb_93 hb_94 hb_95
  obtain ⟨hr_10_0, hr_10_1, hr_10_2⟩ := hr_10
  refine lv_istore (lv' := [(5, .int r_10), (4, .int z_6), (3, .int z_5), (2, .int z_1), (0, .ref r0), (1, .int a1)]) hx hb dJ5_newCapacity_0f7a4_32 hl (by decide) rfl (fun ls hl => ?_)
  refine lv_iload hx hb dJ5_newCapacity_0f7a4_34 (lv_at hl 0 rfl) ?_
  refine lv_ldc hx hb hown hcs_39 dJ5_newCapacity_0f7a4_36 ?_
  refine lv_icmp_ne (tgt := 51) hx hb dJ5_newCapacity_0f7a4_38 (by decide) (fun c_11 => ?_) (fun c_11 => ?_)
  · skip
    have c_11' : r_10.toInt ≠ 2147483647 := jb_ne (rfl) ((by decide)) c_11
    refine lv_iload hx hb dJ5_newCapacity_0f7a4_51 (lv_at hl 0 rfl) ?_
    refine lv_aload_n hx hb dJ5_newCapacity_0f7a4_53 rfl (lv_at hl 4 rfl) ?_
    refine j7_read hx hb hown hK (C := RJ4) (T := TJ4) (N := 4) rfl hly_0_1 hlk_22 (hh_9.at 0 rfl) dJ5_newCapacity_0f7a4_54 ?_
    refine lv_ishr hx hb dJ5_newCapacity_0f7a4_57 ?_
    refine lv_topi (fun z_12 ez_12 => ?_)
    have hz_12 : z_12.toInt = r_10.toInt / 2 ^ 0 := by rw [ez_12]; exact jb_ishr 0 (rfl) (by decide)
    rw [hQ]
    exact W.iret (v := z_12) hx hb hr (fun t ht hW => ⟨⟨z_12, (), rfl, by first | omega | (refine ⟨?_, ?_, ?_⟩ <;> (first | omega | rfl | assumption | decide | exact Or.inl rfl | exact Or.inr rfl | (simp only; omega))), hh_9.rt (M1 := []) [] rfl ht⟩, by rw [ht]; try exact hh_9.1.1, fun q h9 hq => by rw [ht]; try exact hh_9.1.2.1 q h9 hq⟩) hh_9.1.2.2 dJ5_newCapacity_0f7a4_58
  · skip
    have c_11' : r_10.toInt = 2147483647 := jb_ne_n (rfl) ((by decide)) c_11
    exact absurd c_11' (by omega)
set_option maxHeartbeats 4000000 in
set_option maxRecDepth 20000 in
theorem uJ5_ensureCapacityInternal_d00df (l : Launch) (dC : Nat → ClassId) (dI : Nat → Nat → Nat) (ca : Nat → ClassId) (base : Nat) (B : jF) (hB : jBok B) (hAp : jAp (dC, dI)) (hB0 : ∀ n G a H, B 0 n G a H ↔ jOb (dC, dI) 0 4 (Fz0 n G) a H) (hB198 : ∀ n G a H, B 198 n G a H ↔ jAr (dC, dI) (ca 0) (fun j z => jBf j z) n a H) (G0 : jT) (H0 : Heap) (r0 : Nat) (a1 : Int32) (pc : Int32) (pa : Nat) (n_pa : Nat) : Met l yJ5_ensureCapacityInternal_d00df (jw yJ5_ensureCapacityInternal_d00df cJ5_ensureCapacityInternal_d00df 3 none) ({ frames := 3, cells := 0, slots := 0, locals := 80 }) (va_Pc [.ref r0, .int a1] (fun U => U.heap = H0 ∧ jX B base G0 [] H0 ∧ jG dC dI ca base U ∧ G0 r0 = some (0, 0) ∧ G0 pa = some (198, n_pa) ∧ jP (dC, dI) G0 H0 [(r0, 0, 3, .int pc), (r0, 0, 0, .ref pa)] ∧ 0 ≤ a1.toInt ∧ a1.toInt ≤ n_pa ∧ n_pa ≤ 1000)) (va_Qv (S := Unit) (fun u => True) (fun u t => jRt (dC, dI) B base G0 EJ5_ensureCapacityInternal_d00df H0 [] t.heap) (jA base)) 0 0 (jA base) := by
  refine Met.ofW (cc := cJ5_ensureCapacityInternal_d00df) (maxL := 3) (ret := none) (by decide) rfl ?_
  intro p e s m args below meth c s₁ Bd hml hv
  obtain ⟨rfl, hH0, hX, hG, hg_r0, hg_pa, hP0, hp0, hp1, hp2⟩ := hv
  have hK := hG.1
  have hx := Bd.exec
  have hb := Bd.bytes
  have hr := Bd.returns
  have hts := atoms_spec (ws := (jw yJ5_ensureCapacityInternal_d00df cJ5_ensureCapacityInternal_d00df 3 none)) Bd.pre
  have htw : ∀ w ∈ jWl, w.before _ s = true := fun w h => hts w (List.mem_cons_of_mem _ h)
  have hown : s.vm.findClass RJ5 = some m.cls := findClass_of_methodNamed Bd.named
  have hlocks := Bd.notSynchronized
  obtain ⟨Q, hQ⟩ : ∃ Q, Q = MQ below (va_Qv (S := Unit) (fun u => True) (fun u t => jRt (dC, dI) B base G0 EJ5_ensureCapacityInternal_d00df H0 [] t.heap) (jA base)) ([.ref r0, .int a1] : List Value).toArray s 0 0 (jA base) := ⟨_, rfl⟩
  rw [← hQ]
  have hl := lv_entry ([.ref r0, .int a1]) (n := 3) (Nat.le_of_ble_eq_true rfl)
  rw [lg_entry_eq]
  generalize (lg_sl ([.ref r0, .int a1]) ++ List.replicate (3 - (lg_sl ([.ref r0, .int a1])).length) Slot.unset).toArray = ls at hl ⊢
  have hl : lv_has ls 3 [(0, .ref r0), (1, .int a1)] := hl
  generalize hR : (headSpec (jw yJ5_ensureCapacityInternal_d00df cJ5_ensureCapacityInternal_d00df 3 none) ({ frames := 3, cells := 0, slots := 0, locals := 80 })).room = R
  subst hH0
  have hh : jSt (dC, dI) B base G0 G0 EJ5_ensureCapacityInternal_d00df s.heap 0 0 [(r0, 0, 3, .int pc), (r0, 0, 0, .ref pa)] [] [] s.heap [] := jSt.start hX hP0 jMc.nil jIs.nil
  clear hX hP0
  have hk0 : (0 : Int32).toInt = 0 := by decide
  have hk1 : (1 : Int32).toInt = 1 := by decide
  have hly_0_0 := htw (u_lay RJ4 TJ4 0) (jWc_wsJ40 _ (u_in_lay (by decide)))
  have hly_0_1 := htw (u_lay RJ4 TJ4 1) (jWc_wsJ40 _ (u_in_lay (by decide)))
  have hlk_15 := (htw (.fieldLink RJ5 15 "java/lang/AbstractStringBuilder" "value" "[B") (jWr_13 _ (List.mem_of_getElem? (i := 11) rfl)))
  have hlk_22 := (htw (.fieldLink RJ5 22 "java/lang/AbstractStringBuilder" "coder" "B") (jWr_13 _ (List.mem_of_getElem? (i := 12) rfl)))
  have hrg_a1 := jb_rng a1
  refine lv_aload_n hx hb dJ5_ensureCapacityInternal_d00df_0 rfl (lv_at hl 0 rfl) ?_
  refine j7_read hx hb hown hK (C := RJ4) (T := TJ4) (N := 4) rfl hly_0_0 hlk_15 (hh.at 1 rfl) dJ5_ensureCapacityInternal_d00df_1 ?_
  refine j7_len hx hb hK hh hB198 0 rfl (by decide) hg_pa (by omega) dJ5_ensureCapacityInternal_d00df_4 (fun z_1 hz_1 => ?_)
  refine lv_aload_n hx hb dJ5_ensureCapacityInternal_d00df_5 rfl (lv_at hl 0 rfl) ?_
  obtain ⟨v_2, hv_2, hh_3⟩ := hh.pin (C := RJ4) (T := TJ4) (N := 4) hB0 rfl (by decide) hg_r0 (i := 1) (by decide) rfl
  clear hh
  obtain ⟨coder_4, rfl, hlocoder_4, hhicoder_4⟩ := hv_2
  obtain rfl : coder_4 = 0 := Int32.toInt_inj.mp (by rw [show (0 : Int32).toInt = 0 by decide]; omega)
  refine j7_read hx hb hown hK (C := RJ4) (T := TJ4) (N := 4) rfl hly_0_1 hlk_22 (hh_3.at 0 rfl) dJ5_ensureCapacityInternal_d00df_6 ?_
  refine lv_ishr hx hb dJ5_ensureCapacityInternal_d00df_9 ?_
  refine lv_topi (fun z_5 ez_5 => ?_)
  have hz_5 : z_5.toInt = z_1.toInt / 2 ^ 0 := by rw [ez_5]; exact jb_ishr 0 (rfl) (by decide)
  refine lv_istore_n (lv' := [(2, .int z_5), (0, .ref r0), (1, .int a1)]) hx hb dJ5_ensureCapacityInternal_d00df_10 rfl hl (by decide) rfl (fun ls hl => ?_)
  refine lv_iload_n hx hb dJ5_ensureCapacityInternal_d00df_11 rfl (lv_at hl 2 rfl) ?_
  refine lv_iload_n hx hb dJ5_ensureCapacityInternal_d00df_12 rfl (lv_at hl 0 rfl) ?_
  refine lv_isub hx hb dJ5_ensureCapacityInternal_d00df_13 ?_
  refine lv_topi (fun z_6 ez_6 => ?_)
  have hz_6 : z_6.toInt = a1.toInt - z_5.toInt := by rw [ez_6]; exact jb_isub2 (rfl) (rfl) (by omega)
  refine lv_if_le (tgt := 38) hx hb dJ5_ensureCapacityInternal_d00df_14 (by decide) (fun c_7 => ?_) (fun c_7 => ?_)
  · skip
    have c_7' : z_6.toInt ≤ 0 := jb_le (rfl) ((by decide)) c_7
    rw [hQ]
    exact W.vret hx hb hr (fun t ht hW => ⟨⟨(), rfl, trivial, hh_3.rt (M1 := []) [] rfl ht⟩, by rw [ht]; try exact hh_3.1.1, fun q h9 hq => by rw [ht]; try exact hh_3.1.2.1 q h9 hq⟩) hh_3.1.2.2 dJ5_ensureCapacityInternal_d00df_38
  · skip
    have c_7' : z_6.toInt > 0 := jb_le_n (rfl) ((by decide)) c_7
    exact absurd c_7' (by omega)
set_option maxHeartbeats 4000000 in
set_option maxRecDepth 20000 in
theorem uJ5_setLength_d00df (l : Launch) (dC : Nat → ClassId) (dI : Nat → Nat → Nat) (ca : Nat → ClassId) (base : Nat) (B : jF) (hB : jBok B) (hAp : jAp (dC, dI)) (hB0 : ∀ n G a H, B 0 n G a H ↔ jOb (dC, dI) 0 4 (Fz0 n G) a H) (hB198 : ∀ n G a H, B 198 n G a H ↔ jAr (dC, dI) (ca 0) (fun j z => jBf j z) n a H) (G0 : jT) (H0 : Heap) (r0 : Nat) (a1 : Int32) (pc : Int32) (pa : Nat) (n_pa : Nat) : Met l yJ5_setLength_d00df (jw yJ5_setLength_d00df cJ5_setLength_d00df 2 none) ({ frames := 4, cells := 0, slots := 0, locals := 102 }) (va_Pc [.ref r0, .int a1] (fun U => U.heap = H0 ∧ jX B base G0 [] H0 ∧ jG dC dI ca base U ∧ G0 r0 = some (0, 0) ∧ G0 pa = some (198, n_pa) ∧ jP (dC, dI) G0 H0 [(r0, 0, 3, .int pc), (r0, 0, 0, .ref pa)] ∧ a1.toInt = 0 ∧ 0 ≤ pc.toInt ∧ n_pa ≤ 1000)) (va_Qv (S := Int32) (fun u => u.toInt = 0) (fun u t => (jRt (dC, dI) B base G0 EJ5_setLength_d00df H0 [(r0, 0, 3, .int u)] t.heap) ∧ jOw (dC, dI) G0 0 r0 H0 t.heap) (jA base)) 0 0 (jA base) := by
  refine Met.ofW (cc := cJ5_setLength_d00df) (maxL := 2) (ret := none) (by decide) rfl ?_
  intro p e s m args below meth c s₁ Bd hml hv
  obtain ⟨rfl, hH0, hX, hG, hg_r0, hg_pa, hP0, hp0, hp1, hp2⟩ := hv
  have hK := hG.1
  have hx := Bd.exec
  have hb := Bd.bytes
  have hr := Bd.returns
  have hts := atoms_spec (ws := (jw yJ5_setLength_d00df cJ5_setLength_d00df 2 none)) Bd.pre
  have htw : ∀ w ∈ jWl, w.before _ s = true := fun w h => hts w (List.mem_cons_of_mem _ h)
  have hown : s.vm.findClass RJ5 = some m.cls := findClass_of_methodNamed Bd.named
  have hlocks := Bd.notSynchronized
  obtain ⟨Q, hQ⟩ : ∃ Q, Q = MQ below (va_Qv (S := Int32) (fun u => u.toInt = 0) (fun u t => (jRt (dC, dI) B base G0 EJ5_setLength_d00df H0 [(r0, 0, 3, .int u)] t.heap) ∧ jOw (dC, dI) G0 0 r0 H0 t.heap) (jA base)) ([.ref r0, .int a1] : List Value).toArray s 0 0 (jA base) := ⟨_, rfl⟩
  rw [← hQ]
  have hl := lv_entry ([.ref r0, .int a1]) (n := 2) (Nat.le_of_ble_eq_true rfl)
  rw [lg_entry_eq]
  generalize (lg_sl ([.ref r0, .int a1]) ++ List.replicate (2 - (lg_sl ([.ref r0, .int a1])).length) Slot.unset).toArray = ls at hl ⊢
  have hl : lv_has ls 2 [(0, .ref r0), (1, .int a1)] := hl
  generalize hR : (headSpec (jw yJ5_setLength_d00df cJ5_setLength_d00df 2 none) ({ frames := 4, cells := 0, slots := 0, locals := 102 })).room = R
  subst hH0
  have hh : jSt (dC, dI) B base G0 G0 EJ5_setLength_d00df s.heap 0 0 [(r0, 0, 3, .int pc), (r0, 0, 0, .ref pa)] [] [] s.heap [] := jSt.start hX hP0 jMc.nil jIs.nil
  clear hX hP0
  have hk0 : (0 : Int32).toInt = 0 := by decide
  have hk1 : (1 : Int32).toInt = 1 := by decide
  have hly_0_0 := htw (u_lay RJ4 TJ4 0) (jWc_wsJ40 _ (u_in_lay (by decide)))
  have hly_0_2 := htw (u_lay RJ4 TJ4 2) (jWc_wsJ40 _ (u_in_lay (by decide)))
  have hly_0_3 := htw (u_lay RJ4 TJ4 3) (jWc_wsJ40 _ (u_in_lay (by decide)))
  have hlk_79 := (htw (.fieldLink RJ5 79 "java/lang/AbstractStringBuilder" "count" "I") (jWr_45 _ (List.mem_of_getElem? (i := 9) rfl)))
  have hlk_15 := (htw (.fieldLink RJ5 15 "java/lang/AbstractStringBuilder" "value" "[B") (jWr_13 _ (List.mem_of_getElem? (i := 11) rfl)))
  have hlk_73 := (htw (.fieldLink RJ5 73 "java/lang/AbstractStringBuilder" "maybeLatin1" "Z") (jWr_45 _ (List.mem_of_getElem? (i := 10) rfl)))
  have hrg_a1 := jb_rng a1
  have hh_1 := hh.addI (jOw.ie (dC := dC) (dI := dI) (G0 := G0) (k := 0) (r := r0) (H0 := s.heap) (F := [(0, 0), (0, 1), (0, 2), (0, 3)]) (C := RJ4) (T := TJ4) (N := 4) rfl (by decide) hh.2.2.2.2.1 (jOw.rf))
  clear hh
  refine lv_iload_n hx hb dJ5_setLength_d00df_0 rfl (lv_at hl 1 rfl) ?_
  refine lv_if_ge (tgt := 13) hx hb dJ5_setLength_d00df_1 (by decide) (fun c_2 => ?_) (fun c_2 => ?_)
  · skip
    have c_2' : a1.toInt ≥ 0 := jb_ge (rfl) ((by decide)) c_2
    refine lv_aload_n hx hb dJ5_setLength_d00df_13 rfl (lv_at hl 0 rfl) ?_
    refine lv_iload_n hx hb dJ5_setLength_d00df_14 rfl (lv_at hl 1 rfl) ?_
    refine va_callv (A0 := jA base) (H0 := s.heap) (va_runU (As := [.int a1]) (rest := []) ⟨hx, hb, hml, hown, hts⟩ (uJ5_ensureCapacityInternal_d00df l dC dI ca base B hB hAp hB0 hB198 G0 s.heap r0 a1 pc pa n_pa) (va_cwU 1 hts (jgX (jWr_45 _ (List.mem_of_getElem? (i := 11) rfl)) (jWr_45 _ (List.mem_of_getElem? (i := 12) rfl)) (jWr_45 _ (List.mem_of_getElem? (i := 13) rfl)) (jWr_45 _ (List.mem_of_getElem? (i := 14) rfl)) (jWr_13 _ (List.mem_of_getElem? (i := 7) rfl)) (jWr_45 _ (List.mem_of_getElem? (i := 15) rfl))) rfl rfl rfl rfl (by decide +kernel) ⟨by rw [← hR]; exact Nat.le_of_ble_eq_true rfl, by rw [← hR]; exact Nat.le_of_ble_eq_true rfl⟩) ⟨fun a U g mk q => by obtain ⟨q0, q1, q2, qK, q10, q11, q12, q13⟩ := q; exact ⟨q0, q1, q2, jG.calling g mk a qK, q10, q11, q12, q13⟩, hh_1.recv (C := RJ4) (T := TJ4) (N := 4) hB0 rfl (by decide) hg_r0 hK, fun U hU hW => ⟨rfl, hU, hh_1.2.1, hG.step hW hU hh_1.1, hg_r0, hg_pa, (hh_1.2.2.1.sub (L1 := [(r0, 0, 3, .int pc), (r0, 0, 0, .ref pa)]) [0, 1] rfl), by first | omega | (refine ⟨?_, ?_, ?_⟩ <;> (first | omega | rfl | assumption | decide | exact Or.inl rfl | exact Or.inr rfl | (simp only; omega)))⟩⟩ rfl rfl hl.1 rfl (lv_room (Nat.le_of_ble_eq_true rfl)) dJ5_setLength_d00df_15 ⟨Nat.zero_le _, Nat.zero_le _⟩) hh_1.1 (fun q _ h => h) (fun q h => h) (fun u_3 t_3 H_3 locs_3 ht_3 hvm_3 hr_4 hb_3 hz_3 hk_3 hS_3 => ?_)
    rw [ht_3] at hb_3
    obtain ⟨hb_31, hb_32, hb_33, hb_34, hb_35⟩ := hb_3
    have hh_3 : jSt (dC, dI) B base G0 G0 EJ5_setLength_d00df s.heap 0 0 [(r0, 0, 3, .int pc), (r0, 0, 0, .ref pa)] [] [([(0, 0), (0, 1), (0, 2), (0, 3)], jOw (dC, dI) G0 0 r0 s.heap)] H_3 locs_3 := ((hh_1.call hb_31 hb_32 hb_33 hb_34 hS_3 rfl (L1 := [(r0, 0, 3, .int pc), (r0, 0, 0, .ref pa)]) [0, 1] rfl rfl (M1 := []) [] rfl rfl (I1 := [([(0, 0), (0, 1), (0, 2), (0, 3)], jOw (dC, dI) G0 0 r0 s.heap)]) [0] rfl rfl).more hb_35)
    clear hh_1 ht_3 hvm_3 hz_3 hk_3 hS_3 hb_31 hb_32 hb_33 hb_34 hb_35
    refine lv_aload_n hx hb dJ5_setLength_d00df_18 rfl (lv_at hl 0 rfl) ?_
    refine j7_read hx hb hown hK (C := RJ4) (T := TJ4) (N := 4) rfl hly_0_3 hlk_79 (hh_3.at 0 rfl) dJ5_setLength_d00df_19 ?_
    refine lv_iload_n hx hb dJ5_setLength_d00df_22 rfl (lv_at hl 1 rfl) ?_
    refine lv_icmp_ge (tgt := 63) hx hb dJ5_setLength_d00df_23 (by decide) (fun c_5 => ?_) (fun c_5 => ?_)
    · skip
      have c_5' : pc.toInt ≥ a1.toInt := jb_ge (rfl) (rfl) c_5
      refine lv_aload_n hx hb dJ5_setLength_d00df_63 rfl (lv_at hl 0 rfl) ?_
      refine j7_read hx hb hown hK (C := RJ4) (T := TJ4) (N := 4) rfl hly_0_3 hlk_79 (hh_3.at 0 rfl) dJ5_setLength_d00df_64 ?_
      refine lv_iload_n hx hb dJ5_setLength_d00df_67 rfl (lv_at hl 1 rfl) ?_
      refine lv_icmp_le (tgt := 76) hx hb dJ5_setLength_d00df_68 (by decide) (fun c_6 => ?_) (fun c_6 => ?_)
      · skip
        have c_6' : pc.toInt ≤ a1.toInt := jb_le (rfl) (rfl) c_6
        refine lv_aload_n hx hb dJ5_setLength_d00df_76 rfl (lv_at hl 0 rfl) ?_
        refine lv_iload_n hx hb dJ5_setLength_d00df_77 rfl (lv_at hl 1 rfl) ?_
        have hd_8 := hh_3.iv 0 rfl
        have hh_9 := hh_3.sub (L1 := [(r0, 0, 3, .int pc), (r0, 0, 0, .ref pa)]) [0, 1] rfl (M1 := []) [] rfl (I1 := []) [] rfl
        clear hh_3
        refine j7_putX hx hb hown hK hh_9 hB hAp hB0 (C := RJ4) (T := TJ4) (N := 4) rfl (by decide) hg_r0 (i := 3) (by decide) hly_0_3 rfl hlk_79 rfl (ty := .int) (v := .int a1) (by decide +kernel) rfl rfl (⟨_, rfl, by omega, by omega⟩) rfl (L1 := [(r0, 0, 0, .ref pa)]) [1] rfl rfl rfl dJ5_setLength_d00df_78 (fun H_7 locs_7 hr_7 hh_7 => ?_)
        clear hh_9
        have hd_8n := jOw.put hd_8 hr_7
        have hh_10 := hh_7.addI (jOw.ie (dC := dC) (dI := dI) (G0 := G0) (k := 0) (r := r0) (H0 := s.heap) (F := [(0, 0), (0, 1), (0, 2), (0, 3)]) (C := RJ4) (T := TJ4) (N := 4) rfl (by decide) hh_7.2.2.2.2.1 (hd_8n))
        clear hh_7
        clear hd_8 hd_8n hr_7
        rw [hQ]
        exact W.vret hx hb hr (fun t ht hW => ⟨⟨a1, rfl, by (try dsimp only); first | omega | rfl | assumption | decide | exact Or.inl rfl | exact Or.inr rfl | (simp only; omega), ⟨hh_10.rt (M1 := [(r0, 0, 3, .int a1)]) [0] rfl ht, by rw [ht]; exact hh_10.iv 0 rfl⟩⟩, by rw [ht]; try exact hh_10.1.1, fun q h9 hq => by rw [ht]; try exact hh_10.1.2.1 q h9 hq⟩) hh_10.1.2.2 dJ5_setLength_d00df_81
      · skip
        have c_6' : pc.toInt > a1.toInt := jb_le_n (rfl) (rfl) c_6
        refine lv_aload_n hx hb dJ5_setLength_d00df_71 rfl (lv_at hl 0 rfl) ?_
        refine lv_iconst (v := 1) hx hb dJ5_setLength_d00df_72 (by decide) ?_
        have hd_12 := hh_3.iv 0 rfl
        have hh_13 := hh_3.sub (L1 := [(r0, 0, 3, .int pc), (r0, 0, 0, .ref pa)]) [0, 1] rfl (M1 := []) [] rfl (I1 := []) [] rfl
        clear hh_3
        refine j7_putX hx hb hown hK hh_13 hB hAp hB0 (C := RJ4) (T := TJ4) (N := 4) rfl (by decide) hg_r0 (i := 2) (by decide) hly_0_2 rfl hlk_73 rfl (ty := .boolean) (v := .int 1) (by decide +kernel) (jb_nz (Or.inr rfl)) (jb_fz (Or.inr rfl)) (⟨_, rfl, (Or.inr rfl)⟩) rfl (L1 := [(r0, 0, 3, .int pc), (r0, 0, 0, .ref pa)]) [0, 1] rfl rfl rfl dJ5_setLength_d00df_73 (fun H_11 locs_11 hr_11 hh_11 => ?_)
        clear hh_13
        have hd_12n := jOw.put hd_12 hr_11
        have hh_14 := hh_11.addI (jOw.ie (dC := dC) (dI := dI) (G0 := G0) (k := 0) (r := r0) (H0 := s.heap) (F := [(0, 0), (0, 1), (0, 2), (0, 3)]) (C := RJ4) (T := TJ4) (N := 4) rfl (by decide) hh_11.2.2.2.2.1 (hd_12n))
        clear hh_11
        clear hd_12 hd_12n hr_11
        refine lv_aload_n hx hb dJ5_setLength_d00df_76 rfl (lv_at hl 0 rfl) ?_
        refine lv_iload_n hx hb dJ5_setLength_d00df_77 rfl (lv_at hl 1 rfl) ?_
        have hd_16 := hh_14.iv 0 rfl
        have hh_17 := hh_14.sub (L1 := [(r0, 0, 2, .int 1), (r0, 0, 3, .int pc), (r0, 0, 0, .ref pa)]) [0, 1, 2] rfl (M1 := []) [] rfl (I1 := []) [] rfl
        clear hh_14
        refine j7_putX hx hb hown hK hh_17 hB hAp hB0 (C := RJ4) (T := TJ4) (N := 4) rfl (by decide) hg_r0 (i := 3) (by decide) hly_0_3 rfl hlk_79 rfl (ty := .int) (v := .int a1) (by decide +kernel) rfl rfl (⟨_, rfl, by omega, by omega⟩) rfl (L1 := [(r0, 0, 2, .int 1), (r0, 0, 0, .ref pa)]) [0, 2] rfl rfl rfl dJ5_setLength_d00df_78 (fun H_15 locs_15 hr_15 hh_15 => ?_)
        clear hh_17
        have hd_16n := jOw.put hd_16 hr_15
        have hh_18 := hh_15.addI (jOw.ie (dC := dC) (dI := dI) (G0 := G0) (k := 0) (r := r0) (H0 := s.heap) (F := [(0, 0), (0, 1), (0, 2), (0, 3)]) (C := RJ4) (T := TJ4) (N := 4) rfl (by decide) hh_15.2.2.2.2.1 (hd_16n))
        clear hh_15
        clear hd_16 hd_16n hr_15
        rw [hQ]
        exact W.vret hx hb hr (fun t ht hW => ⟨⟨a1, rfl, by (try dsimp only); first | omega | rfl | assumption | decide | exact Or.inl rfl | exact Or.inr rfl | (simp only; omega), ⟨hh_18.rt (M1 := [(r0, 0, 3, .int a1)]) [0] rfl ht, by rw [ht]; exact hh_18.iv 0 rfl⟩⟩, by rw [ht]; try exact hh_18.1.1, fun q h9 hq => by rw [ht]; try exact hh_18.1.2.1 q h9 hq⟩) hh_18.1.2.2 dJ5_setLength_d00df_81
    · skip
      have c_5' : pc.toInt < a1.toInt := jb_ge_n (rfl) (rfl) c_5
      exact absurd c_5' (by omega)
  · skip
    have c_2' : a1.toInt < 0 := jb_ge_n (rfl) ((by decide)) c_2
    exact absurd c_2' (by omega)
set_option maxHeartbeats 4000000 in
set_option maxRecDepth 20000 in
theorem uJ4_setLength_d00df (l : Launch) (dC : Nat → ClassId) (dI : Nat → Nat → Nat) (ca : Nat → ClassId) (base : Nat) (B : jF) (hB : jBok B) (hAp : jAp (dC, dI)) (hB0 : ∀ n G a H, B 0 n G a H ↔ jOb (dC, dI) 0 4 (Fz0 n G) a H) (hB198 : ∀ n G a H, B 198 n G a H ↔ jAr (dC, dI) (ca 0) (fun j z => jBf j z) n a H) (G0 : jT) (H0 : Heap) (r0 : Nat) (a1 : Int32) (pc : Int32) (pa : Nat) (n_pa : Nat) : Met l yJ4_setLength_d00df (jw yJ4_setLength_d00df cJ4_setLength_d00df 2 none) ({ frames := 5, cells := 0, slots := 0, locals := 123 }) (va_Pc [.ref r0, .int a1] (fun U => U.heap = H0 ∧ jX B base G0 [] H0 ∧ jG dC dI ca base U ∧ G0 r0 = some (0, 0) ∧ G0 pa = some (198, n_pa) ∧ jP (dC, dI) G0 H0 [(r0, 0, 3, .int pc), (r0, 0, 0, .ref pa)] ∧ a1.toInt = 0 ∧ 0 ≤ pc.toInt ∧ n_pa ≤ 1000)) (va_Qv (S := Int32) (fun u => u.toInt = 0) (fun u t => (jRt (dC, dI) B base G0 EJ4_setLength_d00df H0 [(r0, 0, 3, .int u)] t.heap) ∧ jOw (dC, dI) G0 0 r0 H0 t.heap) (jA base)) 0 0 (jA base) := by
  refine Met.ofW (cc := cJ4_setLength_d00df) (maxL := 2) (ret := none) (by decide) rfl ?_
  intro p e s m args below meth c s₁ Bd hml hv
  obtain ⟨rfl, hH0, hX, hG, hg_r0, hg_pa, hP0, hp0, hp1, hp2⟩ := hv
  have hK := hG.1
  have hx := Bd.exec
  have hb := Bd.bytes
  have hr := Bd.returns
  have hts := atoms_spec (ws := (jw yJ4_setLength_d00df cJ4_setLength_d00df 2 none)) Bd.pre
  have htw : ∀ w ∈ jWl, w.before _ s = true := fun w h => hts w (List.mem_cons_of_mem _ h)
  have hown : s.vm.findClass RJ4 = some m.cls := findClass_of_methodNamed Bd.named
  have hlocks := Bd.notSynchronized
  obtain ⟨Q, hQ⟩ : ∃ Q, Q = MQ below (va_Qv (S := Int32) (fun u => u.toInt = 0) (fun u t => (jRt (dC, dI) B base G0 EJ4_setLength_d00df H0 [(r0, 0, 3, .int u)] t.heap) ∧ jOw (dC, dI) G0 0 r0 H0 t.heap) (jA base)) ([.ref r0, .int a1] : List Value).toArray s 0 0 (jA base) := ⟨_, rfl⟩
  rw [← hQ]
  have hl := lv_entry ([.ref r0, .int a1]) (n := 2) (Nat.le_of_ble_eq_true rfl)
  rw [lg_entry_eq]
  generalize (lg_sl ([.ref r0, .int a1]) ++ List.replicate (2 - (lg_sl ([.ref r0, .int a1])).length) Slot.unset).toArray = ls at hl ⊢
  have hl : lv_has ls 2 [(0, .ref r0), (1, .int a1)] := hl
  generalize hR : (headSpec (jw yJ4_setLength_d00df cJ4_setLength_d00df 2 none) ({ frames := 5, cells := 0, slots := 0, locals := 123 })).room = R
  subst hH0
  have hh : jSt (dC, dI) B base G0 G0 EJ4_setLength_d00df s.heap 0 0 [(r0, 0, 3, .int pc), (r0, 0, 0, .ref pa)] [] [] s.heap [] := jSt.start hX hP0 jMc.nil jIs.nil
  clear hX hP0
  have hk0 : (0 : Int32).toInt = 0 := by decide
  have hk1 : (1 : Int32).toInt = 1 := by decide
  have hrg_a1 := jb_rng a1
  have hh_1 := hh.addI (jOw.ie (dC := dC) (dI := dI) (G0 := G0) (k := 0) (r := r0) (H0 := s.heap) (F := [(0, 0), (0, 1), (0, 2), (0, 3)]) (C := RJ4) (T := TJ4) (N := 4) rfl (by decide) hh.2.2.2.2.1 (jOw.rf))
  clear hh
  refine lv_aload_n hx hb dJ4_setLength_d00df_0 rfl (lv_at hl 0 rfl) ?_
  refine lv_iload_n hx hb dJ4_setLength_d00df_1 rfl (lv_at hl 1 rfl) ?_
  refine va_callv (A0 := jA base) (H0 := s.heap) (va_runSU (hK.1 0 _ rfl).2 (As := [.int a1]) (rest := []) ⟨hx, hb, hml, hown, hts⟩ (uJ5_setLength_d00df l dC dI ca base B hB hAp hB0 hB198 G0 s.heap r0 a1 pc pa n_pa) (va_cwSU 1 hts (jgU (jWr_45 _ (List.mem_of_getElem? (i := 4) rfl)) (jWr_45 _ (List.mem_of_getElem? (i := 5) rfl)) (jWr_45 _ (List.mem_of_getElem? (i := 6) rfl)) (jWr_45 _ (List.mem_of_getElem? (i := 7) rfl)) (jWr_13 _ (List.mem_of_getElem? (i := 7) rfl)) (jWr_45 _ (List.mem_of_getElem? (i := 8) rfl))) rfl rfl rfl (by decide +kernel) ⟨by rw [← hR]; exact Nat.le_of_ble_eq_true rfl, by rw [← hR]; exact Nat.le_of_ble_eq_true rfl⟩) ⟨fun a U g mk q => by obtain ⟨q0, q1, q2, qK, q10, q11, q12, q13⟩ := q; exact ⟨q0, q1, q2, jG.calling g mk a qK, q10, q11, q12, q13⟩, hh_1.recv (C := RJ4) (T := TJ4) (N := 4) hB0 rfl (by decide) hg_r0 hK, fun U hU hW => ⟨rfl, hU, hh_1.2.1, hG.step hW hU hh_1.1, hg_r0, hg_pa, (hh_1.2.2.1.sub (L1 := [(r0, 0, 3, .int pc), (r0, 0, 0, .ref pa)]) [0, 1] rfl), by first | omega | (refine ⟨?_, ?_, ?_⟩ <;> (first | omega | rfl | assumption | decide | exact Or.inl rfl | exact Or.inr rfl | (simp only; omega)))⟩⟩ rfl rfl hl.1 rfl (lv_room (Nat.le_of_ble_eq_true rfl)) dJ4_setLength_d00df_2 ⟨Nat.zero_le _, Nat.zero_le _⟩) hh_1.1 (fun q _ h => h) (fun q h => h) (fun u_2 t_2 H_2 locs_2 ht_2 hvm_2 hr_3 hb_2 hz_2 hk_2 hS_2 => ?_)
  obtain ⟨qc_2, rfl⟩ : ∃ z, z = u_2 := ⟨_, rfl⟩
  rw [ht_2] at hb_2
  obtain ⟨hb_2, hbO_2⟩ := hb_2
  obtain ⟨hb_21, hb_22, hb_23, hb_24, hb_25⟩ := hb_2
  have hh_2 : jSt (dC, dI) B base G0 G0 EJ4_setLength_d00df s.heap 0 0 [(r0, 0, 3, .int qc_2), (r0, 0, 0, .ref pa)] [] [] H_2 locs_2 := ((hh_1.call hb_21 hb_22 hb_23 hb_24 hS_2 rfl (L1 := [(r0, 0, 0, .ref pa)]) [1] rfl rfl (M1 := []) [] rfl rfl (I1 := []) [] rfl rfl).more hb_25)
  have hd_4 := jOw.tr (hh_1.iv 0 rfl) hh_1.2.2.2.2.1 hbO_2
  have hh_5 := hh_2.addI (jOw.ie (dC := dC) (dI := dI) (G0 := G0) (k := 0) (r := r0) (H0 := s.heap) (F := [(0, 0), (0, 1), (0, 2), (0, 3)]) (C := RJ4) (T := TJ4) (N := 4) rfl (by decide) hh_2.2.2.2.2.1 (hd_4))
  clear hh_2
  clear hh_1 ht_2 hvm_2 hz_2 hk_2 hS_2 hb_21 hb_22 hb_23 hb_24 hb_25
  rw [hQ]
  exact W.vret hx hb hr (fun t ht hW => ⟨⟨qc_2, rfl, by (try dsimp only); first | omega | rfl | assumption | decide | exact Or.inl rfl | exact Or.inr rfl | (simp only; omega), ⟨hh_5.rt (M1 := [(r0, 0, 3, .int qc_2)]) [0] rfl ht, by rw [ht]; exact hh_5.iv 0 rfl⟩⟩, by rw [ht]; try exact hh_5.1.1, fun q h9 hq => by rw [ht]; try exact hh_5.1.2.1 q h9 hq⟩) hh_5.1.2.2 dJ4_setLength_d00df_5
end
section
-- more cells: what is known stays known (a call that makes cells; none of them is a document of the reference)
theorem jAg.low {D : va_G} {G G1 : jT} {F : List (Nat × Nat)} {H H1 : Heap} (hle : jLe G G1) (h : jAg D G1 F H H1) : jAg D G F H H1 := ⟨fun a k n i v ha => h.1 a k n i v (hle _ _ ha), fun a k n ha => h.2 a k n (hle _ _ ha)⟩
theorem jIs.lift {D : va_G} {G G1 : jT} {H : Heap} {L : List jIv} (hle : jLe G G1) (h : jIs D G H L) : jIs D G1 H L := fun q hq => ⟨(h q hq).1, fun Ha Hb hA => (h q hq).2 Ha Hb (hA.low hle)⟩
theorem jMc.lift {D : va_G} {G G1 : jT} {H : Heap} {M : List jCt} (hle : jLe G G1) (h : jMc D G H M) : jMc D G1 H M := fun q hq => by
  obtain ⟨q1, q2, q3, q4⟩ := h q hq
  exact ⟨hle _ _ q1, q2, q3, q4⟩
theorem jSt.callG {dC : Nat → ClassId} {dI : Nat → Nat → Nat} {B : jF} {base : Nat} {G0 G : jT} {E : List (Nat × Nat)} {H0 : Heap} {zc zs : Nat} {L : List jPin} {M : List jCt} {I : List jIv} {H : Heap} {locs : List Loc} (hh : jSt (dC, dI) B base G0 G E H0 zc zs L M I H locs) {E1 : List (Nat × Nat)} {H1 : Heap} {locs1 : List Loc} {G1 : jT} {wc ws : Nat} (hX : jX B base G1 [] H1) (hG : jLe G G1) (hk : jKp (dC, dI) G E1 H H1) (hz : H1.size ≤ H.size + wc) (ht : jTot H1 ≤ jTot H + ws) (hS : va_S (jA base) H0 H1 locs1) (hE : E1.all (fun q => E.contains q) = true) {L1 : List jPin} (is : List Nat) (hs : is.map (fun i => L[i]?) = L1.map some) (hn : L1.all (fun q => !(E1.contains (q.2.1, q.2.2.1))) = true) {M1 : List jCt} (js : List Nat) (hjs : js.map (fun i => M[i]?) = M1.map some) (hjn : M1.all (fun q => !(E1.contains (q.2.1, 0))) = true) {I1 : List jIv} (ks : List Nat) (hks : ks.map (fun i => I[i]?) = I1.map some) (hkn : I1.all (fun q => E1.all (fun x => !(q.1.contains x))) = true) : jSt (dC, dI) B base G0 G1 E H0 (zc + wc) (zs + ws) L1 M1 I1 H1 locs1 := by
  obtain ⟨h1, h2, h3, h4, h5, h6, h7, h8, h9⟩ := hh
  exact ⟨hS, hX, h3.over hk hG is hs hn, h4.tr (hk.sub h5 hE), h5.tr hG, by omega, by omega, h8.over hk hG js hjs hjn, ((h9.sub ks hks).ag (fun q hq => jAg.of hk (List.all_eq_true.mp hkn q hq))).lift hG⟩
theorem jD2.grow {dC : Nat → ClassId} {dI : Nat → Nat → Nat} {ca : Nat → ClassId} {G G1 : jT} {a yb ye : Nat} {ps : Int32} {H : Heap} (h : jD2 dC dI ca G a yb ye ps H) (hle : jLe G G1) : jD2 dC dI ca G1 a yb ye ps H := by
  obtain ⟨fb, fe, g1, g2, g3, g4, g5⟩ := h
  exact ⟨fb, fe, hle _ _ g1, hle _ _ g2, g3.lift hle, g4.lift hle, g5⟩
theorem jDY.grow {dC : Nat → ClassId} {dI : Nat → Nat → Nat} {ca : Nat → ClassId} {G G1 : jT} {x : Option Nat} {sn : Nat → Int32} {H : Heap} (h : jDY dC dI ca G x sn H) (hle : jLe G G1) (hn : jN14 G G1) : jDY dC dI ca G1 x sn H := by
  obtain ⟨Yb, Ye, h1, h2, h3, h4⟩ := h
  refine ⟨Yb, Ye, fun a ha => ?_, fun a b ha hb => h2 a b (hn a ha) (hn b hb), fun a b ha hb => h3 a b (hn a ha) (hn b hb), fun a ha hx => (h4 a (hn a ha) hx).grow hle⟩
  obtain ⟨g1, g2, g3, g4⟩ := h1 a (hn a ha)
  exact ⟨g1, g2, hle _ _ g3, hle _ _ g4⟩
theorem jVl.grow {dC : Nat → ClassId} {dI : Nat → Nat → Nat} {G G1 : jT} {i : Nat} {v : Nat → Int32} {H : Heap} (h : jVl dC dI G i v H) (hn : jN14 G G1) : jVl dC dI G1 i v H := fun a ha => h a (hn a ha)
theorem jFT.grow {dC : Nat → ClassId} {dI : Nat → Nat → Nat} {ca : Nat → ClassId} {G G1 : jT} {xb xe : Nat} {H : Heap} (h : jFT dC dI ca G xb xe H) (hle : jLe G G1) : jFT dC dI ca G1 xb xe H := by
  obtain ⟨fb, fe, h1, h2⟩ := h
  exact ⟨fb, fe, h1.lift hle, h2⟩
theorem jDV.grow {dC : Nat → ClassId} {dI : Nat → Nat → Nat} {ca : Nat → ClassId} {G G1 : jT} {r dd co cs ol nw td : Nat} {H : Heap} (h : jDV dC dI ca G r dd co cs ol nw td H) (hle : jLe G G1) (hn : jN14 G G1) (hd : G dd = some (201, 3)) (hc : G co = some (208, 2)) : jDV dC dI ca G1 r dd co cs ol nw td H := by
  obtain ⟨sn, ck, fs, fd, fo, dc, h1, h2, h3, h4⟩ := h
  refine ⟨sn, ck, fs, fd, fo, dc, h1.lift hle, h2.lift hle, ?_, h4⟩
  have e1 := (h3 _ (List.mem_of_getElem? (i := 0) rfl)).1
  have e2 := (h3 _ (List.mem_of_getElem? (i := 1) rfl)).1
  have e3 := (h3 _ (List.mem_of_getElem? (i := 2) rfl)).1
  have e4 := (h3 _ (List.mem_of_getElem? (i := 3) rfl)).1
  exact jIs.cons (jDY.ie (jDY.grow e1 hle hn)) (jIs.cons (jVl.ie (jVl.grow e2 hn)) (jIs.cons (jQc.ie e3 (hle _ _ hd) (by decide) (by decide)) (jIs.cons (jQc.ie e4 (hle _ _ hc) (by decide) (by decide)) jIs.nil)))
end
section
-- bytes that grow: arrays of bytes whose elements fit (the builders', the class's Bytes)
section J17
variable {p : Program} {l : Launch} {e : Env} {R : Room} {s : State} {m : MethodId} {args : Array Value} {below : List Frame} {meth : Method} {c : Code} {H : Heap} {locs : List Loc} {cells slots : Nat} {Q : State → Prop}
variable {cc : ByteArray} {pc : Nat} {ls : Array Slot} {rest : List Value} {dC : Nat → ClassId} {dI : Nat → Nat → Nat} {ca : Nat → ClassId} {B : jF} {base : Nat} {G0 G : jT} {E : List (Nat × Nat)} {H0 : Heap} {zc zs : Nat} {L : List jPin} {M : List jCt} {I : List jIv} {a k n : Nat} {cA : ClassId} {tys : List (ClassId × FieldType)}
theorem jSt.newL (hh : jSt (dC, dI) B base G0 G E H0 zc zs L M I H locs) (hB : jBok B) (hb0 : base ≤ H.size) {H1 : Heap} {locs1 : List Loc} (hS : va_S (jA base) H0 H1 locs1) (hsz : H1.size = H.size + 1) (hfr : ∀ q, q < H.size → H1[q]? = H[q]?) {w : Nat} (hT : jTot H1 ≤ jTot H + w) (hk : k < 1000) (hb : B k n (va_up G H.size (some (k, n))) H.size H1) : jSt (dC, dI) B base G0 (va_up G H.size (some (k, n))) E H0 (zc + 1) (zs + w) L M I H1 locs1 := by
  obtain ⟨h1, h2, h3, h4, h5, h6, h7, h8, h9⟩ := hh
  have hn := h2.fresh
  have hle : jLe G (va_up G H.size (some (k, n))) := jLe.new hn
  have key : ∀ kb b ib v, jf (dC, dI) kb b ib v H → jf (dC, dI) kb b ib v H1 := fun kb b ib v hf => hf.kept (hfr b hf.lt)
  have hX1 := (h2.grow hB (k, n) hb0 hsz hfr).cls (jUp_self) hb
  refine ⟨hS, hX1, fun q hq => ?_, ⟨fun a kb nb ib v ha he hf => key kb a ib v (h4.1 a kb nb ib v ha he hf), fun a kb nb ha g1 g2 he => ?_⟩, h5.tr hle, by omega, by omega, fun q hq => ?_, fun q hq => ?_⟩
  · obtain ⟨⟨nq, g1⟩, g2⟩ := h3 q hq
    exact ⟨⟨nq, hle _ _ g1⟩, key _ _ _ _ g2⟩
  · exact (hfr a (h2.2 _ _ (h5 _ _ ha)).2).trans (h4.2 a kb nb ha g1 g2 he)
  · obtain ⟨g1, g2, g3, g4⟩ := h8 q hq
    exact ⟨hle _ _ g1, g2, g3, g4.kept (hfr _ (h2.2 _ _ g1).2)⟩
  · obtain ⟨g1, g2⟩ := h9 q hq
    refine ⟨g2 H H1 ⟨fun a kb nb ib v _ _ hf => key kb a ib v hf, fun a kb nb ha _ _ _ => hfr a (h2.2 _ _ ha).2⟩ g1, fun Ha Hb hA => g2 Ha Hb (hA.low hle)⟩
end J17
end
section
-- bits: what masks, shifts and or leave
theorem jN_of {x : Int32} (h : 0 ≤ x.toInt) : ∃ n : Nat, n < 2 ^ 31 ∧ x = nI n ∧ x.toInt = n := by
  have hb := x.toBitVec.isLt
  have hx := ji_toInt x
  have h2 : 2 * x.toBitVec.toNat < 2 ^ 32 := by
    by_cases q : 2 * x.toBitVec.toNat < 2 ^ 32
    · exact q
    · rw [if_neg q] at hx; omega
  rw [if_pos h2] at hx
  exact ⟨x.toBitVec.toNat, by omega, Int32.toBitVec_inj.mp (by show _ = BitVec.ofNat 32 _; simp), hx⟩
theorem jN_or {n m : Nat} (hn : n < 2 ^ 31) (hm : m < 2 ^ 31) : nI n ||| nI m = nI (n ||| m) := by
  apply Int32.toBitVec_inj.mp
  rw [Int32.toBitVec_or]
  apply BitVec.eq_of_toNat_eq
  show ((BitVec.ofNat 32 n) ||| (BitVec.ofNat 32 m)).toNat = (BitVec.ofNat 32 (n ||| m)).toNat
  have h1 : n ||| m < 2 ^ 31 := Nat.or_lt_two_pow hn hm
  rw [BitVec.toNat_or, BitVec.toNat_ofNat, BitVec.toNat_ofNat, BitVec.toNat_ofNat, Nat.mod_eq_of_lt (by omega), Nat.mod_eq_of_lt (by omega), Nat.mod_eq_of_lt (by omega)]
theorem jb_shl {x s z : Int32} (k : Nat) (e : z = x <<< (s &&& 31)) (hs : ((s &&& 31).toBitVec.smod 32).toNat = k) (hx : 0 ≤ x.toInt) (h : x.toInt * ((2 ^ k : Nat) : Int) < 2147483648) : z.toInt = x.toInt * ((2 ^ k : Nat) : Int) := by
  obtain ⟨n, hn, ex, ex2⟩ := jN_of hx
  rw [ex2] at h ⊢
  have h3 : ((n * 2 ^ k : Nat) : Int) = (n : Int) * ((2 ^ k : Nat) : Int) := Int.natCast_mul n (2 ^ k)
  rw [← h3] at h ⊢
  have h2 : n * 2 ^ k < 2147483648 := by omega
  rw [e, ex, pk_shlN _ k hs (by omega), nI_toInt (by omega)]
theorem jb_shlc {x s z : Int32} (k : Nat) (c : Int) (e : z = x <<< (s &&& 31)) (hs : ((s &&& 31).toBitVec.smod 32).toNat = k) (hc : ((2 ^ k : Nat) : Int) = c) (hx : 0 ≤ x.toInt) (h : x.toInt * c < 2147483648) : z.toInt = x.toInt * c := by
  subst hc
  exact jb_shl k e hs hx h
end
section
theorem dX14_headerByte_0 : decode cX14_headerByte 0 = .ok (.aload_n 0, 1) := by decide +kernel
theorem dX14_headerByte_1 : decode cX14_headerByte 1 = .ok (.dup, 1) := by decide +kernel
theorem dX14_headerByte_2 : decode cX14_headerByte 2 = .ok (.getfield 228, 3) := by decide +kernel
theorem dX14_headerByte_5 : decode cX14_headerByte 5 = .ok (.iconst 1, 1) := by decide +kernel
theorem dX14_headerByte_6 : decode cX14_headerByte 6 = .ok (.iadd, 1) := by decide +kernel
theorem dX14_headerByte_7 : decode cX14_headerByte 7 = .ok (.putfield 228, 3) := by decide +kernel
theorem dX14_headerByte_10 : decode cX14_headerByte 10 = .ok (.aload_n 0, 1) := by decide +kernel
theorem dX14_headerByte_11 : decode cX14_headerByte 11 = .ok (.getfield 228, 3) := by decide +kernel
theorem dX14_headerByte_14 : decode cX14_headerByte 14 = .ok (.sipush 200, 3) := by decide +kernel
theorem dX14_headerByte_17 : decode cX14_headerByte 17 = .ok (.if_icmp .le 5, 3) := by decide +kernel
theorem dX14_headerByte_20 : decode cX14_headerByte 20 = .ok (.iconst 0, 1) := by decide +kernel
theorem dX14_headerByte_21 : decode cX14_headerByte 21 = .ok (.ireturn, 1) := by decide +kernel
theorem dX14_headerByte_22 : decode cX14_headerByte 22 = .ok (.aload_n 0, 1) := by decide +kernel
theorem dX14_headerByte_23 : decode cX14_headerByte 23 = .ok (.getfield 231, 3) := by decide +kernel
theorem dX14_headerByte_26 : decode cX14_headerByte 26 = .ok (.ifCond .ne 77, 3) := by decide +kernel
theorem dX14_headerByte_29 : decode cX14_headerByte 29 = .ok (.aload_n 0, 1) := by decide +kernel
theorem dX14_headerByte_30 : decode cX14_headerByte 30 = .ok (.getfield 26, 3) := by decide +kernel
theorem dX14_headerByte_33 : decode cX14_headerByte 33 = .ok (.iconst 0, 1) := by decide +kernel
theorem dX14_headerByte_34 : decode cX14_headerByte 34 = .ok (.invokevirtual 234, 3) := by decide +kernel
theorem dX14_headerByte_37 : decode cX14_headerByte 37 = .ok (.aload_n 0, 1) := by decide +kernel
theorem dX14_headerByte_38 : decode cX14_headerByte 38 = .ok (.getfield 30, 3) := by decide +kernel
theorem dX14_headerByte_41 : decode cX14_headerByte 41 = .ok (.iconst 0, 1) := by decide +kernel
theorem dX14_headerByte_42 : decode cX14_headerByte 42 = .ok (.invokevirtual 234, 3) := by decide +kernel
theorem dX14_headerByte_45 : decode cX14_headerByte 45 = .ok (.iload_n 1, 1) := by decide +kernel
theorem dX14_headerByte_46 : decode cX14_headerByte 46 = .ok (.bipush 13, 2) := by decide +kernel
theorem dX14_headerByte_48 : decode cX14_headerByte 48 = .ok (.if_icmp .ne 21, 3) := by decide +kernel
theorem dX14_headerByte_51 : decode cX14_headerByte 51 = .ok (.aload_n 0, 1) := by decide +kernel
theorem dX14_headerByte_52 : decode cX14_headerByte 52 = .ok (.iconst 5, 1) := by decide +kernel
theorem dX14_headerByte_53 : decode cX14_headerByte 53 = .ok (.putfield 231, 3) := by decide +kernel
theorem dX14_headerByte_56 : decode cX14_headerByte 56 = .ok (.aload_n 0, 1) := by decide +kernel
theorem dX14_headerByte_57 : decode cX14_headerByte 57 = .ok (.getfield 33, 3) := by decide +kernel
theorem dX14_headerByte_60 : decode cX14_headerByte 60 = .ok (.ifCond .lt 7, 3) := by decide +kernel
theorem dX14_headerByte_63 : decode cX14_headerByte 63 = .ok (.iconst 1, 1) := by decide +kernel
theorem dX14_headerByte_64 : decode cX14_headerByte 64 = .ok (.goto 4, 3) := by decide +kernel
theorem dX14_headerByte_67 : decode cX14_headerByte 67 = .ok (.iconst 0, 1) := by decide +kernel
theorem dX14_headerByte_68 : decode cX14_headerByte 68 = .ok (.ireturn, 1) := by decide +kernel
theorem dX14_headerByte_69 : decode cX14_headerByte 69 = .ok (.aload_n 0, 1) := by decide +kernel
theorem dX14_headerByte_70 : decode cX14_headerByte 70 = .ok (.iconst 1, 1) := by decide +kernel
theorem dX14_headerByte_71 : decode cX14_headerByte 71 = .ok (.putfield 231, 3) := by decide +kernel
theorem dX14_headerByte_74 : decode cX14_headerByte 74 = .ok (.aload_n 0, 1) := by decide +kernel
theorem dX14_headerByte_75 : decode cX14_headerByte 75 = .ok (.getfield 26, 3) := by decide +kernel
theorem dX14_headerByte_78 : decode cX14_headerByte 78 = .ok (.iload_n 1, 1) := by decide +kernel
theorem dX14_headerByte_79 : decode cX14_headerByte 79 = .ok (.i2c, 1) := by decide +kernel
theorem dX14_headerByte_80 : decode cX14_headerByte 80 = .ok (.invokevirtual 237, 3) := by decide +kernel
theorem dX14_headerByte_83 : decode cX14_headerByte 83 = .ok (.pop, 1) := by decide +kernel
theorem dX14_headerByte_84 : decode cX14_headerByte 84 = .ok (.iload_n 1, 1) := by decide +kernel
theorem dX14_headerByte_85 : decode cX14_headerByte 85 = .ok (.invokestatic 241, 3) := by decide +kernel
theorem dX14_headerByte_88 : decode cX14_headerByte 88 = .ok (.ifCond .ne 9, 3) := by decide +kernel
theorem dX14_headerByte_91 : decode cX14_headerByte 91 = .ok (.iload_n 1, 1) := by decide +kernel
theorem dX14_headerByte_92 : decode cX14_headerByte 92 = .ok (.bipush 45, 2) := by decide +kernel
theorem dX14_headerByte_94 : decode cX14_headerByte 94 = .ok (.if_icmp .ne 7, 3) := by decide +kernel
theorem dX14_headerByte_97 : decode cX14_headerByte 97 = .ok (.iconst 1, 1) := by decide +kernel
theorem dX14_headerByte_98 : decode cX14_headerByte 98 = .ok (.goto 4, 3) := by decide +kernel
theorem dX14_headerByte_101 : decode cX14_headerByte 101 = .ok (.iconst 0, 1) := by decide +kernel
theorem dX14_headerByte_102 : decode cX14_headerByte 102 = .ok (.ireturn, 1) := by decide +kernel
theorem dX14_headerByte_103 : decode cX14_headerByte 103 = .ok (.aload_n 0, 1) := by decide +kernel
theorem dX14_headerByte_104 : decode cX14_headerByte 104 = .ok (.getfield 231, 3) := by decide +kernel
theorem dX14_headerByte_107 : decode cX14_headerByte 107 = .ok (.iconst 1, 1) := by decide +kernel
theorem dX14_headerByte_108 : decode cX14_headerByte 108 = .ok (.if_icmp .ne 45, 3) := by decide +kernel
theorem dX14_headerByte_111 : decode cX14_headerByte 111 = .ok (.iload_n 1, 1) := by decide +kernel
theorem dX14_headerByte_112 : decode cX14_headerByte 112 = .ok (.bipush 58, 2) := by decide +kernel
theorem dX14_headerByte_114 : decode cX14_headerByte 114 = .ok (.if_icmp .ne 10, 3) := by decide +kernel
theorem dX14_headerByte_117 : decode cX14_headerByte 117 = .ok (.aload_n 0, 1) := by decide +kernel
theorem dX14_headerByte_118 : decode cX14_headerByte 118 = .ok (.iconst 2, 1) := by decide +kernel
theorem dX14_headerByte_119 : decode cX14_headerByte 119 = .ok (.putfield 231, 3) := by decide +kernel
theorem dX14_headerByte_122 : decode cX14_headerByte 122 = .ok (.iconst 1, 1) := by decide +kernel
theorem dX14_headerByte_123 : decode cX14_headerByte 123 = .ok (.ireturn, 1) := by decide +kernel
theorem dX14_headerByte_124 : decode cX14_headerByte 124 = .ok (.aload_n 0, 1) := by decide +kernel
theorem dX14_headerByte_125 : decode cX14_headerByte 125 = .ok (.getfield 26, 3) := by decide +kernel
theorem dX14_headerByte_128 : decode cX14_headerByte 128 = .ok (.iload_n 1, 1) := by decide +kernel
theorem dX14_headerByte_129 : decode cX14_headerByte 129 = .ok (.i2c, 1) := by decide +kernel
theorem dX14_headerByte_130 : decode cX14_headerByte 130 = .ok (.invokevirtual 237, 3) := by decide +kernel
theorem dX14_headerByte_133 : decode cX14_headerByte 133 = .ok (.pop, 1) := by decide +kernel
theorem dX14_headerByte_134 : decode cX14_headerByte 134 = .ok (.iload_n 1, 1) := by decide +kernel
theorem dX14_headerByte_135 : decode cX14_headerByte 135 = .ok (.invokestatic 241, 3) := by decide +kernel
theorem dX14_headerByte_138 : decode cX14_headerByte 138 = .ok (.ifCond .ne 9, 3) := by decide +kernel
theorem dX14_headerByte_141 : decode cX14_headerByte 141 = .ok (.iload_n 1, 1) := by decide +kernel
theorem dX14_headerByte_142 : decode cX14_headerByte 142 = .ok (.bipush 45, 2) := by decide +kernel
theorem dX14_headerByte_144 : decode cX14_headerByte 144 = .ok (.if_icmp .ne 7, 3) := by decide +kernel
theorem dX14_headerByte_147 : decode cX14_headerByte 147 = .ok (.iconst 1, 1) := by decide +kernel
theorem dX14_headerByte_148 : decode cX14_headerByte 148 = .ok (.goto 4, 3) := by decide +kernel
theorem dX14_headerByte_151 : decode cX14_headerByte 151 = .ok (.iconst 0, 1) := by decide +kernel
theorem dX14_headerByte_152 : decode cX14_headerByte 152 = .ok (.ireturn, 1) := by decide +kernel
theorem dX14_headerByte_153 : decode cX14_headerByte 153 = .ok (.aload_n 0, 1) := by decide +kernel
theorem dX14_headerByte_154 : decode cX14_headerByte 154 = .ok (.getfield 231, 3) := by decide +kernel
theorem dX14_headerByte_157 : decode cX14_headerByte 157 = .ok (.iconst 4, 1) := by decide +kernel
theorem dX14_headerByte_158 : decode cX14_headerByte 158 = .ok (.if_icmp .eq 11, 3) := by decide +kernel
theorem dX14_headerByte_161 : decode cX14_headerByte 161 = .ok (.aload_n 0, 1) := by decide +kernel
theorem dX14_headerByte_162 : decode cX14_headerByte 162 = .ok (.getfield 231, 3) := by decide +kernel
theorem dX14_headerByte_165 : decode cX14_headerByte 165 = .ok (.iconst 5, 1) := by decide +kernel
theorem dX14_headerByte_166 : decode cX14_headerByte 166 = .ok (.if_icmp .ne 48, 3) := by decide +kernel
theorem dX14_headerByte_169 : decode cX14_headerByte 169 = .ok (.aload_n 0, 1) := by decide +kernel
theorem dX14_headerByte_170 : decode cX14_headerByte 170 = .ok (.getfield 231, 3) := by decide +kernel
theorem dX14_headerByte_173 : decode cX14_headerByte 173 = .ok (.iconst 5, 1) := by decide +kernel
theorem dX14_headerByte_174 : decode cX14_headerByte 174 = .ok (.if_icmp .ne 7, 3) := by decide +kernel
theorem dX14_headerByte_177 : decode cX14_headerByte 177 = .ok (.iconst 1, 1) := by decide +kernel
theorem dX14_headerByte_178 : decode cX14_headerByte 178 = .ok (.goto 4, 3) := by decide +kernel
theorem dX14_headerByte_181 : decode cX14_headerByte 181 = .ok (.iconst 0, 1) := by decide +kernel
theorem dX14_headerByte_182 : decode cX14_headerByte 182 = .ok (.istore_n 2, 1) := by decide +kernel
theorem dX14_headerByte_183 : decode cX14_headerByte 183 = .ok (.aload_n 0, 1) := by decide +kernel
theorem dX14_headerByte_184 : decode cX14_headerByte 184 = .ok (.iload_n 2, 1) := by decide +kernel
theorem dX14_headerByte_185 : decode cX14_headerByte 185 = .ok (.ifCond .eq 8, 3) := by decide +kernel
theorem dX14_headerByte_188 : decode cX14_headerByte 188 = .ok (.bipush 6, 2) := by decide +kernel
theorem dX14_headerByte_190 : decode cX14_headerByte 190 = .ok (.goto 4, 3) := by decide +kernel
theorem dX14_headerByte_193 : decode cX14_headerByte 193 = .ok (.iconst 0, 1) := by decide +kernel
theorem dX14_headerByte_194 : decode cX14_headerByte 194 = .ok (.putfield 231, 3) := by decide +kernel
theorem dX14_headerByte_197 : decode cX14_headerByte 197 = .ok (.aload_n 0, 1) := by decide +kernel
theorem dX14_headerByte_198 : decode cX14_headerByte 198 = .ok (.iconst 0, 1) := by decide +kernel
theorem dX14_headerByte_199 : decode cX14_headerByte 199 = .ok (.putfield 244, 3) := by decide +kernel
theorem dX14_headerByte_202 : decode cX14_headerByte 202 = .ok (.iload_n 1, 1) := by decide +kernel
theorem dX14_headerByte_203 : decode cX14_headerByte 203 = .ok (.bipush 10, 2) := by decide +kernel
theorem dX14_headerByte_205 : decode cX14_headerByte 205 = .ok (.if_icmp .ne 7, 3) := by decide +kernel
theorem dX14_headerByte_208 : decode cX14_headerByte 208 = .ok (.iconst 1, 1) := by decide +kernel
theorem dX14_headerByte_209 : decode cX14_headerByte 209 = .ok (.goto 4, 3) := by decide +kernel
theorem dX14_headerByte_212 : decode cX14_headerByte 212 = .ok (.iconst 0, 1) := by decide +kernel
theorem dX14_headerByte_213 : decode cX14_headerByte 213 = .ok (.ireturn, 1) := by decide +kernel
theorem dX14_headerByte_214 : decode cX14_headerByte 214 = .ok (.aload_n 0, 1) := by decide +kernel
theorem dX14_headerByte_215 : decode cX14_headerByte 215 = .ok (.getfield 231, 3) := by decide +kernel
theorem dX14_headerByte_218 : decode cX14_headerByte 218 = .ok (.iconst 2, 1) := by decide +kernel
theorem dX14_headerByte_219 : decode cX14_headerByte 219 = .ok (.if_icmp .ne 11, 3) := by decide +kernel
theorem dX14_headerByte_222 : decode cX14_headerByte 222 = .ok (.iload_n 1, 1) := by decide +kernel
theorem dX14_headerByte_223 : decode cX14_headerByte 223 = .ok (.bipush 32, 2) := by decide +kernel
theorem dX14_headerByte_225 : decode cX14_headerByte 225 = .ok (.if_icmp .ne 5, 3) := by decide +kernel
theorem dX14_headerByte_228 : decode cX14_headerByte 228 = .ok (.iconst 1, 1) := by decide +kernel
theorem dX14_headerByte_229 : decode cX14_headerByte 229 = .ok (.ireturn, 1) := by decide +kernel
theorem dX14_headerByte_230 : decode cX14_headerByte 230 = .ok (.aload_n 0, 1) := by decide +kernel
theorem dX14_headerByte_231 : decode cX14_headerByte 231 = .ok (.iconst 3, 1) := by decide +kernel
theorem dX14_headerByte_232 : decode cX14_headerByte 232 = .ok (.putfield 231, 3) := by decide +kernel
theorem dX14_headerByte_235 : decode cX14_headerByte 235 = .ok (.iload_n 1, 1) := by decide +kernel
theorem dX14_headerByte_236 : decode cX14_headerByte 236 = .ok (.bipush 13, 2) := by decide +kernel
theorem dX14_headerByte_238 : decode cX14_headerByte 238 = .ok (.if_icmp .ne 50, 3) := by decide +kernel
theorem dX14_headerByte_241 : decode cX14_headerByte 241 = .ok (.aload_n 0, 1) := by decide +kernel
theorem dX14_headerByte_242 : decode cX14_headerByte 242 = .ok (.iconst 4, 1) := by decide +kernel
theorem dX14_headerByte_243 : decode cX14_headerByte 243 = .ok (.putfield 231, 3) := by decide +kernel
theorem dX14_headerByte_246 : decode cX14_headerByte 246 = .ok (.aload_n 0, 1) := by decide +kernel
theorem dX14_headerByte_247 : decode cX14_headerByte 247 = .ok (.invokevirtual 247, 3) := by decide +kernel
theorem dX14_headerByte_250 : decode cX14_headerByte 250 = .ok (.ifCond .ne 5, 3) := by decide +kernel
theorem dX14_headerByte_253 : decode cX14_headerByte 253 = .ok (.iconst 1, 1) := by decide +kernel
theorem dX14_headerByte_254 : decode cX14_headerByte 254 = .ok (.ireturn, 1) := by decide +kernel
theorem dX14_headerByte_255 : decode cX14_headerByte 255 = .ok (.aload_n 0, 1) := by decide +kernel
theorem dX14_headerByte_256 : decode cX14_headerByte 256 = .ok (.aload_n 0, 1) := by decide +kernel
theorem dX14_headerByte_257 : decode cX14_headerByte 257 = .ok (.iconst 1, 1) := by decide +kernel
theorem dX14_headerByte_258 : decode cX14_headerByte 258 = .ok (.invokevirtual 251, 3) := by decide +kernel
theorem dX14_headerByte_261 : decode cX14_headerByte 261 = .ok (.ifCond .eq 10, 3) := by decide +kernel
theorem dX14_headerByte_264 : decode cX14_headerByte 264 = .ok (.aload_n 0, 1) := by decide +kernel
theorem dX14_headerByte_265 : decode cX14_headerByte 265 = .ok (.invokevirtual 255, 3) := by decide +kernel
theorem dX14_headerByte_268 : decode cX14_headerByte 268 = .ok (.goto 4, 3) := by decide +kernel
theorem dX14_headerByte_271 : decode cX14_headerByte 271 = .ok (.iconst (-1), 1) := by decide +kernel
theorem dX14_headerByte_272 : decode cX14_headerByte 272 = .ok (.putfield 33, 3) := by decide +kernel
theorem dX14_headerByte_275 : decode cX14_headerByte 275 = .ok (.aload_n 0, 1) := by decide +kernel
theorem dX14_headerByte_276 : decode cX14_headerByte 276 = .ok (.getfield 33, 3) := by decide +kernel
theorem dX14_headerByte_279 : decode cX14_headerByte 279 = .ok (.ifCond .lt 7, 3) := by decide +kernel
theorem dX14_headerByte_282 : decode cX14_headerByte 282 = .ok (.iconst 1, 1) := by decide +kernel
theorem dX14_headerByte_283 : decode cX14_headerByte 283 = .ok (.goto 4, 3) := by decide +kernel
theorem dX14_headerByte_286 : decode cX14_headerByte 286 = .ok (.iconst 0, 1) := by decide +kernel
theorem dX14_headerByte_287 : decode cX14_headerByte 287 = .ok (.ireturn, 1) := by decide +kernel
theorem dX14_headerByte_288 : decode cX14_headerByte 288 = .ok (.aload_n 0, 1) := by decide +kernel
theorem dX14_headerByte_289 : decode cX14_headerByte 289 = .ok (.getfield 30, 3) := by decide +kernel
theorem dX14_headerByte_292 : decode cX14_headerByte 292 = .ok (.iload_n 1, 1) := by decide +kernel
theorem dX14_headerByte_293 : decode cX14_headerByte 293 = .ok (.i2c, 1) := by decide +kernel
theorem dX14_headerByte_294 : decode cX14_headerByte 294 = .ok (.invokevirtual 237, 3) := by decide +kernel
theorem dX14_headerByte_297 : decode cX14_headerByte 297 = .ok (.pop, 1) := by decide +kernel
theorem dX14_headerByte_298 : decode cX14_headerByte 298 = .ok (.iload_n 1, 1) := by decide +kernel
theorem dX14_headerByte_299 : decode cX14_headerByte 299 = .ok (.bipush 32, 2) := by decide +kernel
theorem dX14_headerByte_301 : decode cX14_headerByte 301 = .ok (.bipush 126, 2) := by decide +kernel
theorem dX14_headerByte_303 : decode cX14_headerByte 303 = .ok (.invokestatic 181, 3) := by decide +kernel
theorem dX14_headerByte_306 : decode cX14_headerByte 306 = .ok (.ifCond .eq 22, 3) := by decide +kernel
theorem dX14_headerByte_309 : decode cX14_headerByte 309 = .ok (.aload_n 0, 1) := by decide +kernel
theorem dX14_headerByte_310 : decode cX14_headerByte 310 = .ok (.invokevirtual 247, 3) := by decide +kernel
theorem dX14_headerByte_313 : decode cX14_headerByte 313 = .ok (.ifCond .eq 11, 3) := by decide +kernel
theorem dX14_headerByte_316 : decode cX14_headerByte 316 = .ok (.aload_n 0, 1) := by decide +kernel
theorem dX14_headerByte_317 : decode cX14_headerByte 317 = .ok (.iconst 0, 1) := by decide +kernel
theorem dX14_headerByte_318 : decode cX14_headerByte 318 = .ok (.invokevirtual 251, 3) := by decide +kernel
theorem dX14_headerByte_321 : decode cX14_headerByte 321 = .ok (.ifCond .eq 7, 3) := by decide +kernel
theorem dX14_headerByte_324 : decode cX14_headerByte 324 = .ok (.iconst 1, 1) := by decide +kernel
theorem dX14_headerByte_325 : decode cX14_headerByte 325 = .ok (.goto 4, 3) := by decide +kernel
theorem dX14_headerByte_328 : decode cX14_headerByte 328 = .ok (.iconst 0, 1) := by decide +kernel
theorem dX14_headerByte_329 : decode cX14_headerByte 329 = .ok (.ireturn, 1) := by decide +kernel
end
section
theorem dX14_byteComes_0 : decode cX14_byteComes 0 = .ok (.aload_n 0, 1) := by decide +kernel
theorem dX14_byteComes_1 : decode cX14_byteComes 1 = .ok (.getfield 231, 3) := by decide +kernel
theorem dX14_byteComes_4 : decode cX14_byteComes 4 = .ok (.bipush 6, 2) := by decide +kernel
theorem dX14_byteComes_6 : decode cX14_byteComes 6 = .ok (.if_icmp .ge 32, 3) := by decide +kernel
theorem dX14_byteComes_9 : decode cX14_byteComes 9 = .ok (.aload_n 0, 1) := by decide +kernel
theorem dX14_byteComes_10 : decode cX14_byteComes 10 = .ok (.dup, 1) := by decide +kernel
theorem dX14_byteComes_11 : decode cX14_byteComes 11 = .ok (.getfield 258, 3) := by decide +kernel
theorem dX14_byteComes_14 : decode cX14_byteComes 14 = .ok (.iconst 1, 1) := by decide +kernel
theorem dX14_byteComes_15 : decode cX14_byteComes 15 = .ok (.iadd, 1) := by decide +kernel
theorem dX14_byteComes_16 : decode cX14_byteComes 16 = .ok (.putfield 258, 3) := by decide +kernel
theorem dX14_byteComes_19 : decode cX14_byteComes 19 = .ok (.aload_n 0, 1) := by decide +kernel
theorem dX14_byteComes_20 : decode cX14_byteComes 20 = .ok (.iload_n 1, 1) := by decide +kernel
theorem dX14_byteComes_21 : decode cX14_byteComes 21 = .ok (.invokevirtual 261, 3) := by decide +kernel
theorem dX14_byteComes_24 : decode cX14_byteComes 24 = .ok (.ifCond .ne 44, 3) := by decide +kernel
theorem dX14_byteComes_27 : decode cX14_byteComes 27 = .ok (.aload_n 0, 1) := by decide +kernel
theorem dX14_byteComes_28 : decode cX14_byteComes 28 = .ok (.iconst 1, 1) := by decide +kernel
theorem dX14_byteComes_29 : decode cX14_byteComes 29 = .ok (.putfield 202, 3) := by decide +kernel
theorem dX14_byteComes_32 : decode cX14_byteComes 32 = .ok (.aload_n 0, 1) := by decide +kernel
theorem dX14_byteComes_33 : decode cX14_byteComes 33 = .ok (.iconst 0, 1) := by decide +kernel
theorem dX14_byteComes_34 : decode cX14_byteComes 34 = .ok (.putfield 258, 3) := by decide +kernel
theorem dX14_byteComes_37 : decode cX14_byteComes 37 = .ok (.return_, 1) := by decide +kernel
theorem dX14_byteComes_38 : decode cX14_byteComes 38 = .ok (.aload_n 0, 1) := by decide +kernel
theorem dX14_byteComes_39 : decode cX14_byteComes 39 = .ok (.getfield 20, 3) := by decide +kernel
theorem dX14_byteComes_42 : decode cX14_byteComes 42 = .ok (.aload_n 0, 1) := by decide +kernel
theorem dX14_byteComes_43 : decode cX14_byteComes 43 = .ok (.getfield 244, 3) := by decide +kernel
theorem dX14_byteComes_46 : decode cX14_byteComes 46 = .ok (.iload_n 1, 1) := by decide +kernel
theorem dX14_byteComes_47 : decode cX14_byteComes 47 = .ok (.iastore, 1) := by decide +kernel
theorem dX14_byteComes_48 : decode cX14_byteComes 48 = .ok (.aload_n 0, 1) := by decide +kernel
theorem dX14_byteComes_49 : decode cX14_byteComes 49 = .ok (.dup, 1) := by decide +kernel
theorem dX14_byteComes_50 : decode cX14_byteComes 50 = .ok (.getfield 244, 3) := by decide +kernel
theorem dX14_byteComes_53 : decode cX14_byteComes 53 = .ok (.iconst 1, 1) := by decide +kernel
theorem dX14_byteComes_54 : decode cX14_byteComes 54 = .ok (.iadd, 1) := by decide +kernel
theorem dX14_byteComes_55 : decode cX14_byteComes 55 = .ok (.putfield 244, 3) := by decide +kernel
theorem dX14_byteComes_58 : decode cX14_byteComes 58 = .ok (.aload_n 0, 1) := by decide +kernel
theorem dX14_byteComes_59 : decode cX14_byteComes 59 = .ok (.dup, 1) := by decide +kernel
theorem dX14_byteComes_60 : decode cX14_byteComes 60 = .ok (.getfield 258, 3) := by decide +kernel
theorem dX14_byteComes_63 : decode cX14_byteComes 63 = .ok (.iconst 1, 1) := by decide +kernel
theorem dX14_byteComes_64 : decode cX14_byteComes 64 = .ok (.iadd, 1) := by decide +kernel
theorem dX14_byteComes_65 : decode cX14_byteComes 65 = .ok (.putfield 258, 3) := by decide +kernel
theorem dX14_byteComes_68 : decode cX14_byteComes 68 = .ok (.aload_n 0, 1) := by decide +kernel
theorem dX14_byteComes_69 : decode cX14_byteComes 69 = .ok (.getfield 231, 3) := by decide +kernel
theorem dX14_byteComes_72 : decode cX14_byteComes 72 = .ok (.bipush 6, 2) := by decide +kernel
theorem dX14_byteComes_74 : decode cX14_byteComes 74 = .ok (.if_icmp .ne 14, 3) := by decide +kernel
theorem dX14_byteComes_77 : decode cX14_byteComes 77 = .ok (.aload_n 0, 1) := by decide +kernel
theorem dX14_byteComes_78 : decode cX14_byteComes 78 = .ok (.getfield 244, 3) := by decide +kernel
theorem dX14_byteComes_81 : decode cX14_byteComes 81 = .ok (.aload_n 0, 1) := by decide +kernel
theorem dX14_byteComes_82 : decode cX14_byteComes 82 = .ok (.getfield 33, 3) := by decide +kernel
theorem dX14_byteComes_85 : decode cX14_byteComes 85 = .ok (.if_icmp .ge 4, 3) := by decide +kernel
theorem dX14_byteComes_88 : decode cX14_byteComes 88 = .ok (.return_, 1) := by decide +kernel
theorem dX14_byteComes_89 : decode cX14_byteComes 89 = .ok (.aload_n 0, 1) := by decide +kernel
theorem dX14_byteComes_90 : decode cX14_byteComes 90 = .ok (.getfield 33, 3) := by decide +kernel
theorem dX14_byteComes_93 : decode cX14_byteComes 93 = .ok (.istore_n 2, 1) := by decide +kernel
theorem dX14_byteComes_94 : decode cX14_byteComes 94 = .ok (.aload_n 0, 1) := by decide +kernel
theorem dX14_byteComes_95 : decode cX14_byteComes 95 = .ok (.iconst 0, 1) := by decide +kernel
theorem dX14_byteComes_96 : decode cX14_byteComes 96 = .ok (.putfield 231, 3) := by decide +kernel
theorem dX14_byteComes_99 : decode cX14_byteComes 99 = .ok (.aload_n 0, 1) := by decide +kernel
theorem dX14_byteComes_100 : decode cX14_byteComes 100 = .ok (.iconst 0, 1) := by decide +kernel
theorem dX14_byteComes_101 : decode cX14_byteComes 101 = .ok (.putfield 228, 3) := by decide +kernel
theorem dX14_byteComes_104 : decode cX14_byteComes 104 = .ok (.aload_n 0, 1) := by decide +kernel
theorem dX14_byteComes_105 : decode cX14_byteComes 105 = .ok (.iconst 0, 1) := by decide +kernel
theorem dX14_byteComes_106 : decode cX14_byteComes 106 = .ok (.putfield 258, 3) := by decide +kernel
theorem dX14_byteComes_109 : decode cX14_byteComes 109 = .ok (.aload_n 0, 1) := by decide +kernel
theorem dX14_byteComes_110 : decode cX14_byteComes 110 = .ok (.iconst (-1), 1) := by decide +kernel
theorem dX14_byteComes_111 : decode cX14_byteComes 111 = .ok (.putfield 33, 3) := by decide +kernel
theorem dX14_byteComes_114 : decode cX14_byteComes 114 = .ok (.aload_n 0, 1) := by decide +kernel
theorem dX14_byteComes_115 : decode cX14_byteComes 115 = .ok (.dup, 1) := by decide +kernel
theorem dX14_byteComes_116 : decode cX14_byteComes 116 = .ok (.getfield 264, 3) := by decide +kernel
theorem dX14_byteComes_119 : decode cX14_byteComes 119 = .ok (.iconst 1, 1) := by decide +kernel
theorem dX14_byteComes_120 : decode cX14_byteComes 120 = .ok (.iadd, 1) := by decide +kernel
theorem dX14_byteComes_121 : decode cX14_byteComes 121 = .ok (.putfield 264, 3) := by decide +kernel
theorem dX14_byteComes_124 : decode cX14_byteComes 124 = .ok (.aload_n 0, 1) := by decide +kernel
theorem dX14_byteComes_125 : decode cX14_byteComes 125 = .ok (.iload_n 2, 1) := by decide +kernel
theorem dX14_byteComes_126 : decode cX14_byteComes 126 = .ok (.invokevirtual 267, 3) := by decide +kernel
theorem dX14_byteComes_129 : decode cX14_byteComes 129 = .ok (.return_, 1) := by decide +kernel
end
section
theorem dX14_give_0 : decode cX14_give 0 = .ok (.iload_n 1, 1) := by decide +kernel
theorem dX14_give_1 : decode cX14_give 1 = .ok (.ifCond .lt 11, 3) := by decide +kernel
theorem dX14_give_4 : decode cX14_give 4 = .ok (.iload_n 1, 1) := by decide +kernel
theorem dX14_give_5 : decode cX14_give 5 = .ok (.aload_n 0, 1) := by decide +kernel
theorem dX14_give_6 : decode cX14_give 6 = .ok (.getfield 217, 3) := by decide +kernel
theorem dX14_give_9 : decode cX14_give 9 = .ok (.if_icmp .le 5, 3) := by decide +kernel
theorem dX14_give_12 : decode cX14_give 12 = .ok (.iconst (-1), 1) := by decide +kernel
theorem dX14_give_13 : decode cX14_give 13 = .ok (.ireturn, 1) := by decide +kernel
theorem dX14_give_14 : decode cX14_give 14 = .ok (.aload_n 0, 1) := by decide +kernel
theorem dX14_give_15 : decode cX14_give 15 = .ok (.iconst 0, 1) := by decide +kernel
theorem dX14_give_16 : decode cX14_give 16 = .ok (.putfield 217, 3) := by decide +kernel
theorem dX14_give_19 : decode cX14_give 19 = .ok (.iconst 0, 1) := by decide +kernel
theorem dX14_give_20 : decode cX14_give 20 = .ok (.istore_n 2, 1) := by decide +kernel
theorem dX14_give_21 : decode cX14_give 21 = .ok (.iload_n 2, 1) := by decide +kernel
theorem dX14_give_22 : decode cX14_give 22 = .ok (.iload_n 1, 1) := by decide +kernel
theorem dX14_give_23 : decode cX14_give 23 = .ok (.if_icmp .ge 26, 3) := by decide +kernel
theorem dX14_give_26 : decode cX14_give 26 = .ok (.aload_n 0, 1) := by decide +kernel
theorem dX14_give_27 : decode cX14_give 27 = .ok (.getfield 202, 3) := by decide +kernel
theorem dX14_give_30 : decode cX14_give 30 = .ok (.ifCond .ne 19, 3) := by decide +kernel
theorem dX14_give_33 : decode cX14_give 33 = .ok (.aload_n 0, 1) := by decide +kernel
theorem dX14_give_34 : decode cX14_give 34 = .ok (.aload_n 0, 1) := by decide +kernel
theorem dX14_give_35 : decode cX14_give 35 = .ok (.getfield 9, 3) := by decide +kernel
theorem dX14_give_38 : decode cX14_give 38 = .ok (.iload_n 2, 1) := by decide +kernel
theorem dX14_give_39 : decode cX14_give 39 = .ok (.iaload, 1) := by decide +kernel
theorem dX14_give_40 : decode cX14_give 40 = .ok (.invokevirtual 270, 3) := by decide +kernel
theorem dX14_give_43 : decode cX14_give 43 = .ok (.iinc 2 1, 3) := by decide +kernel
theorem dX14_give_46 : decode cX14_give 46 = .ok (.goto (-25), 3) := by decide +kernel
theorem dX14_give_49 : decode cX14_give 49 = .ok (.aload_n 0, 1) := by decide +kernel
theorem dX14_give_50 : decode cX14_give 50 = .ok (.getfield 211, 3) := by decide +kernel
theorem dX14_give_53 : decode cX14_give 53 = .ok (.ireturn, 1) := by decide +kernel
end
section
theorem jBr.mk7 {x : Nat} {G : jT} (hg : G x = some (197, 4000)) : jBr 4000 G (.ref x) := ⟨x, 4000, rfl, by rw [jBkd, if_pos rfl]; exact hg, by decide, by decide, fun h => by omega, Or.inr rfl⟩
end
section
-- new objects: raw while they are made, typed when they are whole
section J20
variable {p : Program} {l : Launch} {e : Env} {R : Room} {s : State} {m : MethodId} {args : Array Value} {below : List Frame} {meth : Method} {c : Code} {H : Heap} {locs : List Loc} {cells slots : Nat} {Q : State → Prop}
variable {cc : ByteArray} {pc : Nat} {ls : Array Slot} {rest : List Value} {dC : Nat → ClassId} {dI : Nat → Nat → Nat} {ca : Nat → ClassId} {B : jF} {base : Nat} {G0 G : jT} {E : List (Nat × Nat)} {H0 : Heap} {zc zs : Nat} {L : List jPin} {M : List jCt} {I : List jIv} {a k n i index N : Nat} {tys : List (ClassId × FieldType)} {own C : String} {T : u_T} {fs : List Value}
end J20
-- all growing Bytes hold no more than they have room for
theorem jYb.grow {dC : Nat → ClassId} {dI : Nat → Nat → Nat} {G G1 : jT} {H : Heap} {ks : List Nat} (h : jYb dC dI G H) (hle : jLe G G1) (hN : jNk ks G G1) (hk : ks.contains 2 = true) : jYb dC dI G1 H := fun a ha => by
  obtain ⟨c, x, m, g1, g2, g3, g4⟩ := h a (hN a 2 0 ha hk)
  exact ⟨c, x, m, g1, g2, hle _ _ g3, g4⟩
end
section
-- what the kernel's walks need: raw arrays of ints, arrays whose last element is null, states, new goals
section J30
variable {p : Program} {l : Launch} {e : Env} {R : Room} {s : State} {m : MethodId} {args : Array Value} {below : List Frame} {meth : Method} {c : Code} {H : Heap} {locs : List Loc} {cells slots : Nat} {Q : State → Prop}
variable {cc : ByteArray} {pc : Nat} {ls : Array Slot} {rest : List Value} {dC : Nat → ClassId} {dI : Nat → Nat → Nat} {ca : Nat → ClassId} {B : jF} {base : Nat} {G0 G : jT} {E : List (Nat × Nat)} {H0 : Heap} {zc zs : Nat} {L : List jPin} {M : List jCt} {I : List jIv} {a a0 k k0 n n0 index : Nat} {tys : List (ClassId × FieldType)} {own C : String} {cA : ClassId}
end J30
theorem jTbk.one {f g : Nat → Int32} {n : Nat} {u w : Int} (hv : jSo f 0 = u) (hw : jSo g 0 = w) (h : u + w ≤ n) : jTbk f g n 1 := fun l h0 h1 => by
  obtain rfl : l = 0 := by omega
  rw [hv, hw]; exact h
theorem jPqk.one {f g : Nat → Int32} {b i0 i s i1 s1 : Int} (h : jPqk f g b i0 i s) (hi : i1 = i + 1) (h1 : jSo f i % 16 ≠ 10 ∨ b ≤ jSo f i / 32768) (hs : s1 = s + 1) : jPqk f g b i0 i1 s1 := h.step hi (by rw [hs]; unfold jW; rw [if_neg (by omega)])
theorem jSef.grow {dC : Nat → ClassId} {dI : Nat → Nat → Nat} {G G1 : jT} {H : Heap} {ks : List Nat} (h : jSef dC dI G H) (hle : jLe G G1) (hN : jNk ks G G1) (hk : ks.contains 11 = true) : jSef dC dI G1 H := fun a ha => by
  obtain ⟨x, y, m, g1, g2, g3, g4, g5⟩ := h a (hN a 11 0 ha hk)
  exact ⟨x, y, m, g1, g2, hle _ _ g3, hle _ _ g4, g5⟩
theorem jFr.grow {dC : Nat → ClassId} {dI : Nat → Nat → Nat} {ca : Nat → ClassId} {G G1 : jT} {a : Nat} {H : Heap} (h : jFr dC dI ca G a H) (hle : jLe G G1) : jFr dC dI ca G1 a H := by
  obtain ⟨c, b, f, g1, g2, g3⟩ := h
  exact ⟨c, b, f, hle _ _ g1, hle _ _ g2, g3⟩
end
section
-- what is known of all lists (o: the one that is open); k: as many there are
def jWl9.s2 (w : jWl9) (l : List Nat) : jWl9 := ⟨w.1, w.2.1, l, w.2.2.2⟩
section J33
variable {dC : Nat → ClassId} {dI : Nat → Nat → Nat} {ca : Nat → ClassId} {G G1 : jT} {H H1 : Heap} {a c k r x m n : Nat} {o : Option Nat} {ks : List Nat} {w wn : jWl9}
theorem jLs.grow (h : jLs dC dI ca G k o w H) (hle : jLe G G1) (hN : jNk ks G G1) (hk : ks.contains 1 = true) : jLs dC dI ca G1 k o w H :=
  ⟨fun a b c ha hb => h.1 a b c (hN a 1 c ha hk) (hN b 1 c hb hk), fun a c ha => h.2.1 a c (hN a 1 c ha hk), fun a c ha hn => (h.2.2 a c (hN a 1 c ha hk) hn).up hle⟩
end J33
end
section
-- what reading JSON leaves: the strings and keys of the values stand apart among the units, and take bytes
theorem jVr.base {C D : jC} {a b pt qv qu qt r : Int} (h : jVr C a b pt D qv qu qt r) (ha : a = 0) (hb : b = 0) : jJr C 0 0 D qv qu := by
  subst ha hb
  exact h.1
def jJu (fk fz : Nat → Int32) (pv pu : Int) : Prop := ∀ i : Int, 0 ≤ i → i < pv → jSo fk i = 3 → jSo fz i ≤ pu
theorem jJr.u {C D : jC} {qv qu : Int} (h : jJr C 0 0 D qv qu) : jJu D.1 D.2.2.1 qv qu := fun i h0 h1 h3 => by
  have := h.2.2.1 (2 * i.toNat) (by omega) (by omega)
  have e : (((2 * i.toNat) / 2 : Nat) : Int) = i := by omega
  have n1 : jln D (2 * i.toNat) = jSo D.2.2.1 i := by
    unfold jln
    rw [if_pos (by omega), e, if_pos h3]
  omega
end
section
-- the documents of the class: sentences in order, and what is still to be checked of the open ones
section J41
variable {dC : Nat → ClassId} {dI : Nat → Nat → Nat} {ca : Nat → ClassId} {G G1 : jT} {H H1 : Heap} {x : Option Nat} {ph : Nat}
theorem jDcc.grow {ks : List Nat} (h : jDcc dC dI ca G x ph H) (hle : jLe G G1) (hN : jNk ks G G1) (hk : ks.contains 3 = true) : jDcc dC dI ca G1 x ph H := by
  obtain ⟨Yb, Ye, W, h1, h2, h3, h4, h5⟩ := h
  refine ⟨Yb, Ye, W, fun a n ha => ?_, fun a b n m ha hb => h2 a b n m (hN a 3 n ha hk) (hN b 3 m hb hk), fun a b n m ha hb => h3 a b n m (hN a 3 n ha hk) (hN b 3 m hb hk), fun a n ha hx => ?_, fun N => ?_⟩
  · obtain ⟨g1, g2, g3, g4⟩ := h1 a n (hN a 3 n ha hk)
    exact ⟨g1, g2, hle _ _ g3, hle _ _ g4⟩
  · obtain ⟨fb, fe, ps, pk, vc, g, gp⟩ := h4 a n (hN a 3 n ha hk) hx
    exact ⟨fb, fe, ps, pk, vc, g.up hle, gp⟩
  · rw [jSmm.cg (G := G) (fun M => ⟨fun q => ⟨hN M 3 0 q.1 hk, q.2⟩, fun q => ⟨hle _ _ q.1, q.2⟩⟩) (fun _ _ => rfl) N]
    exact h5 N
theorem jDcc.ex (h : jDcc dC dI ca G none ph H) : ∃ (sn ck : Nat → Int32) (vn : Nat → Value), jDcx dC dI ca G ph sn ck vn H := by
  obtain ⟨Yb, Ye, W, h1, h2, h3, h4, h5⟩ := h
  have key : ∀ a : Nat, ∃ q : Int32 × Int32 × Value, ∀ n, G a = some (3, n) → jf (dC, dI) 3 a 4 (.int q.1) H ∧ jf (dC, dI) 3 a 10 (.int q.2.1) H ∧ jf (dC, dI) 3 a 11 q.2.2 H := fun a => by
    by_cases hx : ∃ n, G a = some (3, n)
    · obtain ⟨n, ha⟩ := hx
      obtain ⟨fb, fe, ps, pk, vc, g, -⟩ := h4 a n ha (fun q => by cases q)
      exact ⟨(ps, pk, vc), fun _ _ => ⟨(g.1 _ List.mem_cons_self).2, (g.1 _ (List.mem_cons_of_mem _ List.mem_cons_self)).2, (g.1 _ (List.mem_cons_of_mem _ (List.mem_cons_of_mem _ List.mem_cons_self))).2⟩⟩
    · exact ⟨(0, 0, .null), fun n ha => absurd ⟨n, ha⟩ hx⟩
  exact ⟨fun a => (Classical.choose (key a)).1, fun a => (Classical.choose (key a)).2.1, fun a => (Classical.choose (key a)).2.2, ⟨Yb, Ye, W, h1, h2, h3, h4, h5⟩, fun a n ha => Classical.choose_spec (key a) n ha⟩
/-- the arrays of the older documents are older -/
theorem jDcc.fresh {G0 : jT} {H0 : Heap} {r yb ye : Nat} (h : jDcc dC dI ca G0 none ph H0) (hab : ∀ a t, G0 a = some t → a < H0.size) (hr : ∀ t, G0 r ≠ some t) (hn : jNk [3] G0 G) (hk : jKx r G0 G H0 H) (hb : H0.size ≤ yb) (he : H0.size ≤ ye) : ∀ a m, G a = some (3, m) → ∀ y, (jf (dC, dI) 3 a 5 (.ref y) H → y ≠ yb) ∧ (jf (dC, dI) 3 a 6 (.ref y) H → y ≠ ye) := fun a m ha y => by
  have h0 := hn a 3 m ha rfl
  obtain ⟨Yb, Ye, W, h1, -⟩ := h
  obtain ⟨q1, q2, q3, q4⟩ := h1 a m h0
  have c : H[a]? = H0[a]? := hk.1 a (hab _ _ h0) (fun e => hr _ (by rw [← e]; exact h0))
  have l1 := hab _ _ q3
  have l2 := hab _ _ q4
  refine ⟨fun g => ?_, fun g => ?_⟩
  · have e := jf.uniq g (q1.kept c)
    cases e
    exact Nat.ne_of_lt (Nat.lt_of_lt_of_le l1 hb)
  · have e := jf.uniq g (q2.kept c)
    cases e
    exact Nat.ne_of_lt (Nat.lt_of_lt_of_le l2 he)
theorem jEd.to {fe : Nat → Int32} {k k1 x : Int} (h : jEd fe (k + 1) = x) (e : k1 = k + 1) : jEd fe k1 = x := by
  rw [e]
  exact h
end J41
end
section
-- how many bytes a message has at least: its strings and keys stand apart
theorem jJr.sum {C D : jC} {qv qu : Int} (h : jJr C 0 0 D qv qu) (es : List Nat) (hl : ∀ e ∈ es, (e : Int) < 2 * qv) (hn : es.Pairwise (· ≠ ·)) : jSuu D es ≤ qu := by
  obtain ⟨h1, h2, h3, h4⟩ := h
  have b : ∀ e ∈ es, (0 ≤ jln D e ∧ 0 ≤ jlo D e) ∧ jlo D e + jln D e ≤ qu := fun e he => by
    have := h3 e (by omega) (hl e he)
    omega
  have hp : es.Pairwise (jDjn D) := hn.imp_of_mem (fun ha hb ne => h4 _ _ (by omega) (hl _ ha) (by omega) (hl _ hb) ne)
  have c := jCss.le hp (fun e he => (b e he).1.1) (fun e he => (b e he).1.2) qu.toNat
  have e1 : ((qu.toNat : Nat) : Int) = qu := by omega
  rw [e1, jCss.all es (fun e he => ⟨(b e he).1.1, (b e he).2⟩)] at c
  exact c
end
section
-- p11: bits; the tape on both sides; bytes read as UTF-8; the text that comes of them
theorem jb_a255 {x z : Int32} (e : z = x &&& 255) : z.toInt = x.toInt % 256 := by
  have h := pk_and x (m := 255) 8 (by decide)
  have hb := x.toBitVec.isLt
  have hx := ji_toInt x
  rw [e, h, nI_toInt (by omega), hx]
  split <;> omega
theorem jb_a63 {x z : Int32} (e : z = x &&& 63) : z.toInt = x.toInt % 64 := by
  have h := pk_and x (m := 63) 6 (by decide)
  have hb := x.toBitVec.isLt
  have hx := ji_toInt x
  rw [e, h, nI_toInt (by omega), hx]
  split <;> omega
theorem jb_a1023 {x z : Int32} (e : z = x &&& 1023) : z.toInt = x.toInt % 1024 := by
  have h := pk_and x (m := 1023) 10 (by decide)
  have hb := x.toBitVec.isLt
  have hx := ji_toInt x
  rw [e, h, nI_toInt (by omega), hx]
  split <;> omega
theorem jb_shr10 {x z : Int32} (e : z = x >>> ((10 : Int32) &&& 31)) (h : 0 ≤ x.toInt) : z.toInt = x.toInt / 1024 := by
  obtain ⟨n, hn, ex, ex2⟩ := jN_of h
  rw [e, ex, pk_shrN hn _ 10 (by decide), nI_toInt (by omega), ← ex, ex2]
  omega
theorem jb_or64 {x y z : Int32} (e : z = x ||| y) (q : Int) (hx : x.toInt = q * 64) (h0 : 0 ≤ q) (hq : q < 16777216) (hy : 0 ≤ y.toInt) (hy1 : y.toInt < 64) : z.toInt = q * 64 + y.toInt := by
  obtain ⟨n, hn, ex, ex2⟩ := jN_of (x := x) (by omega)
  obtain ⟨m, hm, ey, ey2⟩ := jN_of hy
  have h1 : n ||| m < 2 ^ 31 := Nat.or_lt_two_pow hn hm
  have h2 : n = q.toNat <<< 6 := by rw [Nat.shiftLeft_eq]; omega
  have h3 : q.toNat <<< 6 + m = q.toNat <<< 6 ||| m := Nat.shiftLeft_add_eq_or_of_lt (by omega) _
  rw [e, ex, ey, jN_or hn hm, nI_toInt h1, h2, ← h3, ← ey, ey2, ← h2]
  omega
theorem jNb (x : Int32) : (vp_nar .byte x.toInt8.toInt32).toInt % 256 = x.toInt % 256 := by
  rw [pk_vb, Int8.toInt_toInt32, Int32.toInt_toInt8]
  show Int.bmod x.toInt 256 % 256 = _
  unfold Int.bmod
  dsimp only
  split <;> omega
theorem jUr_s {b : Int → Int} {k : Nat} {i v : Int} (hk : 0 < k) : jUr b k i v = if 128 ≤ b i ∧ b i ≤ 191 then jUr b (k - 1) (i + 1) (v * 64 + b i % 64) else -1 := by
  cases k with
  | zero => omega
  | succ k => rfl
theorem jUr_n {b : Int → Int} {k : Nat} {i i1 v v1 x : Int} (hk : 0 < k) (hx : x = b i) (h1 : 128 ≤ x) (h2 : x ≤ 191) (ei : i1 = i + 1) (ev : v1 = v * 64 + x % 64) : jUr b (k - 1) i1 v1 = jUr b k i v := by
  rw [jUr_s hk, ← hx, if_pos ⟨h1, h2⟩, ei, ev]
theorem jUr_x {b : Int → Int} {k : Nat} {i v x : Int} (hk : 0 < k) (hx : x = b i) (h : x < 128 ∨ 191 < x) : jUr b k i v = -1 := by
  rw [jUr_s hk, ← hx, if_neg (by omega)]
theorem jUc_a {b : Int → Int} {i n x : Int} (hx : x = b i) (h : x < 128) : x = jUc b i n := by unfold jUc; rw [← hx, if_pos h]
theorem jUc_m {b : Int → Int} {i n x m r : Int} (hx : x = b i) (h : 128 ≤ x) (hm : m = jUm x) (hz : m = 0 ∨ n ≤ i + m) (er : r = -1) : r = jUc b i n := by unfold jUc; rw [← hx, if_neg (by omega), ← hm, if_pos hz, er]
theorem jUc_k {b : Int → Int} {i n x m v r : Int} (hx : x = b i) (h : 128 ≤ x) (hm : m = jUm x) (h0 : m ≠ 0) (hz : i + m < n) (hv : jUr b m.toNat (i + 1) (jU0 x m) = v) (er : r = jUk m v) : r = jUc b i n := by unfold jUc; rw [← hx, if_neg (by omega), ← hm, if_neg (by omega), hv, er]
theorem jUk_x {m v r : Int} (h : v < 0 ∨ (m = 2 ∧ v < 2048) ∨ (m = 3 ∧ v < 65536) ∨ (55296 ≤ v ∧ v ≤ 57343) ∨ 1114111 < v) (e : r = -1) : r = jUk m v := by unfold jUk; rw [if_pos h, e]
theorem jUk_v {m v r : Int} (h0 : 0 ≤ v) (h2 : m ≠ 2 ∨ 2048 ≤ v) (h3 : m ≠ 3 ∨ 65536 ≤ v) (hs : v < 55296 ∨ 57343 < v) (hl : v ≤ 1114111) (e : r = v) : r = jUk m v := by unfold jUk; rw [if_neg (by omega), e]
theorem jDe.one {b : Int → Int} {n w i c u w1 i1 : Int} {g g1 : Nat → Int32} (h : jDe b n g w i) (hi : i < n) (hc : c = jUc b i n) (h1 : c < 65536) (ho : ∀ j : Int, 0 ≤ j → j < w → jSo g1 j = jSo g j) (hv : jSo g1 w = u) (hu : u = if c < 0 then 65533 else c) (ei : i1 = i + jUs c) (ew : w1 = w + 1) : jDe b n g1 w1 i1 := by
  obtain ⟨P, k, hk, hw, hx, hP⟩ := h
  have hs := jUs.r c
  refine ⟨P ++ [u], k - 1, by omega, by rw [List.length_append, ew, hw]; rfl, hx.app hw ho hv, ?_⟩
  rw [← hP, jUl_s (by omega) hi, ← hc, List.append_assoc, ei]
  congr 2
  unfold jUu
  rw [hu]
  by_cases q : c < 0
  · rw [if_pos q, if_pos q]
  · rw [if_neg q, if_neg q, if_pos h1]
theorem jDe.two {b : Int → Int} {n w i c u v w1 i1 : Int} {g g1 : Nat → Int32} (h : jDe b n g w i) (hi : i < n) (hc : c = jUc b i n) (h1 : 65536 ≤ c) (ho : ∀ j : Int, 0 ≤ j → j < w → jSo g1 j = jSo g j) (hu : jSo g1 w = u) (hv : jSo g1 (w + 1) = v) (eu : u = 55296 + (c - 65536) / 1024) (ev : v = 56320 + (c - 65536) % 1024) (ei : i1 = i + jUs c) (ew : w1 = w + 2) : jDe b n g1 w1 i1 := by
  obtain ⟨P, k, hk, hw, hx, hP⟩ := h
  have hs := jUs.r c
  have hx1 := hx.app hw ho hu
  have hx2 := hx1.app (g1 := g1) (w := w + 1) (by rw [List.length_append, hw]; rfl) (fun _ _ _ => rfl) hv
  refine ⟨P ++ [u] ++ [v], k - 1, by omega, by rw [List.length_append, List.length_append, ew, hw]; show (P.length : Int) + 2 = ((P.length + 1 + 1 : Nat) : Int); omega, hx2, ?_⟩
  rw [← hP, jUl_s (by omega) hi, ← hc, List.append_assoc, List.append_assoc, ei]
  congr 1
  rw [← List.append_assoc]
  congr 1
  unfold jUu
  rw [if_neg (by omega), if_neg (by omega), eu, ev]
  try rfl
theorem jDe.done {b : Int → Int} {n w i : Int} {g : Nat → Int32} (h : jDe b n g w i) (hi : n ≤ i) : w = (jTl b n).length ∧ jVtx g (jTl b n) := by
  obtain ⟨P, k, hk, hw, hx, hP⟩ := h
  rw [jUl_o _ hi, List.append_nil] at hP
  rw [← hP]; exact ⟨hw, hx⟩
theorem jUm.bad {x m i n : Int} (h : (240 ≤ x ∧ m = 3) ∨ (224 ≤ x ∧ x < 240 ∧ m = 2) ∨ (x < 224 ∧ m = 1)) (q : x < 194 ∨ 244 < x ∨ n ≤ i + m) : jUm x = 0 ∨ n ≤ i + jUm x := by
  by_cases h1 : 194 ≤ x ∧ x ≤ 244
  · rw [← jUm.of h h1.1 h1.2]; exact Or.inr (by omega)
  · refine Or.inl ?_
    unfold jUm
    rw [if_neg (by omega), if_neg (by omega), if_neg (by omega)]
theorem jUr_e {b : Int → Int} {k k1 : Nat} {i i1 v v1 : Int} (hk : k = k1) (hi : i = i1) (hv : v = v1) : jUr b k i v = jUr b k1 i1 v1 := by subst hk hi hv; rfl
theorem jUr_z {b : Int → Int} {k : Nat} {i v : Int} (hk : k = 0) : jUr b k i v = v := by subst hk; rfl
theorem jUb.r0 {n k v : Int} (h : jUb n k v) : 0 ≤ v ∧ v ≤ 2097151 := by
  unfold jUb at h
  omega
theorem jIn.or (x a b : Int) : (jIn x a b = 1 ∧ a ≤ x ∧ x ≤ b) ∨ (jIn x a b = 0 ∧ (x < a ∨ b < x)) := by
  unfold jIn
  by_cases h : a ≤ x ∧ x ≤ b
  · rw [if_pos h]; exact Or.inl ⟨rfl, h.1, h.2⟩
  · rw [if_neg h]; exact Or.inr ⟨rfl, by omega⟩
theorem jSoA {f : Nat → Int32} {i j v : Int} (h : jSo f i = v) (e : j = i) : jSo f j = v := by rw [e]; exact h
section JP1
variable {p : Program} {l : Launch} {e : Env} {R : Room} {s : State} {m : MethodId} {args : Array Value} {below : List Frame} {meth : Method} {c : Code} {H : Heap} {locs : List Loc} {cells slots : Nat} {Q : State → Prop}
variable {cc : ByteArray} {pc : Nat} {ls : Array Slot} {rest : List Value} {D : va_G} {cl : List vw_C} {A : Nat → Prop} {a : Nat} {tys : List (ClassId × FieldType)}
theorem j_bastV (hexec : p.tables.exec = Jvm.exec) (hb : c.code = cc) (hK : va_K D cl tys s) (t0 : Nat) {cA : ClassId} {n : Nat} {f : Nat → Int32} (hat : va_at D cl (a, .inl (cA, n, .inl f)) H) (hA : A a) (hL : ∀ q ∈ locs, A q.base) (ht : tys[t0]? = some (cA, .byte)) {i : Int32} {x : Int32} (hin : vp_in i n) (hdg : decode cc pc = .ok (.bastore, 1))
    (kk : ∀ (H1 : Heap) (locs1 : List Loc), va_at D cl (a, .inl (cA, n, .inl (upd f i.toNatClampNeg (vp_nar .byte x)))) H1 → H1.size = H.size → (∀ q, q ≠ a → H1[q]? = H[q]?) → jTot H1 = jTot H → (∀ q ∈ locs1, A q.base) → W p l e R s m args below meth c H1 locs1 cells slots Q (F0 m (pc + 1) ls rest)) : W p l e R s m args below meth c H locs cells slots Q (F0 m pc ls (.int x :: .int i :: .ref a :: rest)) := by
  refine W.bast hexec hb hat ((hK.2 t0 _ ht).1 n (fun j => .int (f j))) (fun q => by cases q) (by show ¬ (i < 0 ∨ (arrV _ _ _).slots.size ≤ _); rw [arrV_size]; exact hin) rfl rfl hdg fun H1 e z oq => ?_
  refine kk H1 _ ?_ z oq (jTot_set z hat e (jSet_sz _ _ _) oq) ?_
  · show H1[a]? = some (vp_cell _ _)
    rw [e]
    rw [vp_cell_i, vp_cell_i, arrV_store]
    congr 2
    funext q
    by_cases hq : q = i.toNatClampNeg
    · subst hq
      simp [updV, upd, vp_nar]
      try rfl
    · simp [updV, upd, hq]
  · intro q hq
    rcases List.mem_append.mp hq with h | h
    · exact hL q h
    · cases List.mem_singleton.mp h; exact hA
end JP1
section JP2
variable {p : Program} {l : Launch} {e : Env} {R : Room} {s : State} {m : MethodId} {args : Array Value} {below : List Frame} {meth : Method} {c : Code} {H : Heap} {locs : List Loc} {cells slots : Nat} {Q : State → Prop}
variable {cc : ByteArray} {pc : Nat} {ls : Array Slot} {rest : List Value} {dC : Nat → ClassId} {dI : Nat → Nat → Nat} {ca : Nat → ClassId} {B : jF} {base : Nat} {G0 G : jT} {E : List (Nat × Nat)} {H0 : Heap} {zc zs : Nat} {L : List jPin} {M : List jCt} {I : List jIv} {a k n : Nat} {cA : ClassId} {tys : List (ClassId × FieldType)}
end JP2
end
section
-- where a sign stands in a text
set_option maxHeartbeats 4000000 in
set_option maxRecDepth 20000 in
theorem gJ1_indexOfChar_4cfef (l : Launch) (dC : Nat → ClassId) (dI : Nat → Nat → Nat) (ca : Nat → ClassId) (base : Nat) (H0 : Heap) (h0 n : Nat) (f : Nat → Int32) (a1 a2 a3 : Int32) : Met l yJ1_indexOfChar_4cfef (jw yJ1_indexOfChar_4cfef cJ1_indexOfChar_4cfef 6 (some .int)) ({ frames := 0, cells := 0, slots := 0, locals := 0 }) (va_Pc [.ref h0, .int a1, .int a2, .int a3] (fun U => U.heap = H0 ∧ va_T .byte h0 n (fun j => .int (f j)) (jA base) U H0 ∧ jG dC dI ca base U ∧ (n < 2147483648 ∧ 0 ≤ a2.toInt ∧ a3.toInt ≤ n))) (vp_Si (fun r => jIxR f (a1.toInt8.toInt32) a2.toInt a3.toInt r.toInt)) 0 0 (fun _ => False) := by
  refine Met.ofW (cc := cJ1_indexOfChar_4cfef) (maxL := 6) (ret := (some .int)) (by decide) rfl ?_
  intro p e s m args below meth c s₁ B hml hv
  obtain ⟨rfl, hH0, hsa_h0, hG, hp1, hp2, hp3⟩ := hv
  have hK := hG.1
  have hx := B.exec
  have hb := B.bytes
  have hr := B.returns
  have hts := atoms_spec (ws := (jw yJ1_indexOfChar_4cfef cJ1_indexOfChar_4cfef 6 (some .int))) B.pre
  have htw : ∀ w ∈ jWl, w.before _ s = true := fun w h => hts w (List.mem_cons_of_mem _ h)
  have hown : s.vm.findClass RJ1 = some m.cls := findClass_of_methodNamed B.named
  have hlocks := B.notSynchronized
  obtain ⟨Q, hQ⟩ : ∃ Q, Q = MQ below (vp_Si (fun r => jIxR f (a1.toInt8.toInt32) a2.toInt a3.toInt r.toInt)) ([.ref h0, .int a1, .int a2, .int a3] : List Value).toArray s 0 0 (fun _ => False) := ⟨_, rfl⟩
  rw [← hQ]
  have hl := lv_entry ([.ref h0, .int a1, .int a2, .int a3]) (n := 6) (Nat.le_of_ble_eq_true rfl)
  rw [lg_entry_eq]
  generalize (lg_sl ([.ref h0, .int a1, .int a2, .int a3]) ++ List.replicate (6 - (lg_sl ([.ref h0, .int a1, .int a2, .int a3])).length) Slot.unset).toArray = ls at hl ⊢
  have hl : lv_has ls 6 [(0, .ref h0), (1, .int a1), (2, .int a2), (3, .int a3)] := hl
  generalize hR : (headSpec (jw yJ1_indexOfChar_4cfef cJ1_indexOfChar_4cfef 6 (some .int)) ({ frames := 0, cells := 0, slots := 0, locals := 0 })).room = R
  subst hH0
  have hS : va_S (jA base) s.heap s.heap [] := va_S.rf
  have hkm1 : ((-1) : Int32).toInt = (-1) := by decide
  have hk0 : (0 : Int32).toInt = 0 := by decide
  have hk1 : (1 : Int32).toInt = 1 := by decide
  refine lv_iload_n hx hb dJ1_indexOfChar_4cfef_0 rfl (lv_at hl 1 rfl) ?_
  refine lv_i2b hx hb dJ1_indexOfChar_4cfef_1 rfl ?_
  refine lv_topi (fun z_1 ez_1 => ?_)
  refine lv_istore (lv' := [(4, .int z_1), (0, .ref h0), (1, .int a1), (2, .int a2), (3, .int a3)]) hx hb dJ1_indexOfChar_4cfef_2 hl (by decide) rfl (fun ls hl => ?_)
  refine lv_iload_n hx hb dJ1_indexOfChar_4cfef_4 rfl (lv_at hl 3 rfl) ?_
  refine lv_istore (lv' := [(5, .int a2), (4, .int z_1), (0, .ref h0), (1, .int a1), (2, .int a2), (3, .int a3)]) hx hb dJ1_indexOfChar_4cfef_5 hl (by decide) rfl (fun ls hl => ?_)
  have L7 : ∀ (N : Nat) (iv : Int32), (a2.toInt ≤ iv.toInt ∧ ∀ j : Int, a2.toInt ≤ j → j < iv.toInt → jSo f j ≠ (a1.toInt8.toInt32).toInt) → (((a3.toInt - iv.toInt).toNat : Int) : Int) < N → ∀ ls : Array Slot, lv_has ls 6 [(0, .ref h0), (1, .int a1), (2, .int a2), (3, .int a3), (4, .int z_1), (5, .int iv)] → W p l e R s m ([.ref h0, .int a1, .int a2, .int a3] : List Value).toArray below meth c s.heap [] 0 0 Q (F0 m 7 ls []) := by
    intro N
    induction N with
    | zero => intro iv hi hm; exact absurd hm (by omega)
    | succ N ih =>
      have L7 := ih
      intro iv hi9 hm ls hl
      obtain ⟨hi, hi2⟩ := hi9
      refine lv_iload hx hb dJ1_indexOfChar_4cfef_7 (lv_at hl 5 rfl) ?_
      refine lv_iload_n hx hb dJ1_indexOfChar_4cfef_9 rfl (lv_at hl 3 rfl) ?_
      refine lv_icmp_ge (tgt := 31) hx hb dJ1_indexOfChar_4cfef_10 (by decide) (fun c_2 => ?_) (fun c_2 => ?_)
      · skip
        have c_2' : iv.toInt ≥ a3.toInt := jb_ge (rfl) (rfl) c_2
        refine lv_iconst (v := (-1)) hx hb dJ1_indexOfChar_4cfef_31 (by decide) ?_
        rw [hQ]
        exact W.iret (v := (-1)) hx hb hr (fun t ht hW => ⟨(-1), rfl, Or.inl ⟨hkm1, fun j q0 q1 => hi2 j q0 (by omega)⟩, ht⟩) (fun _ h => nomatch h) dJ1_indexOfChar_4cfef_32
      · skip
        have c_2' : iv.toInt < a3.toInt := jb_ge_n (rfl) (rfl) c_2
        refine lv_aload_n hx hb dJ1_indexOfChar_4cfef_13 rfl (lv_at hl 0 rfl) ?_
        refine lv_iload hx hb dJ1_indexOfChar_4cfef_14 (lv_at hl 5 rfl) ?_
        refine va_tb hx hb hsa_h0 hS (jb_in (rfl) (by omega) (by omega)) rfl dJ1_indexOfChar_4cfef_16 ?_
        refine lv_topi (fun z_3 ez_3 => ?_)
        have h3 : jSo f iv.toInt = z_3.toInt := by unfold jSo; rw [ez_3, jb_cl (x := iv) rfl (by omega)]
        refine lv_iload hx hb dJ1_indexOfChar_4cfef_17 (lv_at hl 4 rfl) ?_
        refine lv_icmp_ne (tgt := 25) hx hb dJ1_indexOfChar_4cfef_19 (by decide) (fun c_4 => ?_) (fun c_4 => ?_)
        · skip
          have c_4' : z_3.toInt ≠ z_1.toInt := jb_ne (rfl) (rfl) c_4
          obtain ⟨z_5, ez_5⟩ : ∃ y : Int32, y = iv + 1 := ⟨_, rfl⟩
          refine lv_iinc (v := z_5) (lv' := [(5, .int z_5), (0, .ref h0), (1, .int a1), (2, .int a2), (3, .int a3), (4, .int z_1)]) hx hb dJ1_indexOfChar_4cfef_25 hl (k := 5) rfl (by rw [ez_5]; rfl) (by decide) rfl (fun ls hl => ?_)
          have hz_5 : z_5.toInt = iv.toInt + 1 := by rw [ez_5]; exact jb_iadd (rfl) (by decide) (by omega) (by omega)
          refine lv_goto (tgt := 7) hx hb dJ1_indexOfChar_4cfef_28 (by decide) ?_
          exact L7 z_5 ⟨by omega, fun j q0 q1 => by
            by_cases q : j = iv.toInt
            · rw [q, h3, ← ez_1]; exact c_4'
            · exact hi2 j q0 (by omega)⟩ (by omega) _ (lv_sub hl [1, 2, 3, 4, 5, 0] rfl)
        · skip
          have c_4' : z_3.toInt = z_1.toInt := jb_ne_n (rfl) (rfl) c_4
          refine lv_iload hx hb dJ1_indexOfChar_4cfef_22 (lv_at hl 5 rfl) ?_
          rw [hQ]
          exact W.iret (v := iv) hx hb hr (fun t ht hW => ⟨iv, rfl, Or.inr ⟨hi, by omega, by rw [h3, c_4', ez_1], hi2⟩, ht⟩) (fun _ h => nomatch h) dJ1_indexOfChar_4cfef_24
  exact L7 (((a3.toInt - (a2 : Int32).toInt).toNat : Int) : Int).toNat.succ a2 ⟨by omega, fun j q0 q1 => by omega⟩ (by omega) _ (lv_sub hl [2, 3, 4, 5, 1, 0] rfl)
set_option maxHeartbeats 4000000 in
set_option maxRecDepth 20000 in
theorem gJ1_indexOf_4cfef (l : Launch) (dC : Nat → ClassId) (dI : Nat → Nat → Nat) (ca : Nat → ClassId) (base : Nat) (H0 : Heap) (h0 n : Nat) (f : Nat → Int32) (a1 a2 a3 : Int32) : Met l yJ1_indexOf_4cfef (jw yJ1_indexOf_4cfef cJ1_indexOf_4cfef 4 (some .int)) ({ frames := 2, cells := 0, slots := 0, locals := 80 }) (va_Pc [.ref h0, .int a1, .int a2, .int a3] (fun U => U.heap = H0 ∧ va_T .byte h0 n (fun j => .int (f j)) (jA base) U H0 ∧ jG dC dI ca base U ∧ (n < 2147483648 ∧ 0 ≤ a1.toInt ∧ a1.toInt ≤ 255 ∧ 0 ≤ a2.toInt ∧ a3.toInt = n))) (vp_Si (fun r => jIxR f (a1.toInt8.toInt32) a2.toInt n r.toInt)) 0 0 (fun _ => False) := by
  refine Met.ofW (cc := cJ1_indexOf_4cfef) (maxL := 4) (ret := (some .int)) (by decide) rfl ?_
  intro p e s m args below meth c s₁ B hml hv
  obtain ⟨rfl, hH0, hsa_h0, hG, hp1, hp2, hp3, hp4, hp6⟩ := hv
  have hK := hG.1
  have hx := B.exec
  have hb := B.bytes
  have hr := B.returns
  have hts := atoms_spec (ws := (jw yJ1_indexOf_4cfef cJ1_indexOf_4cfef 4 (some .int))) B.pre
  have htw : ∀ w ∈ jWl, w.before _ s = true := fun w h => hts w (List.mem_cons_of_mem _ h)
  have hown : s.vm.findClass RJ1 = some m.cls := findClass_of_methodNamed B.named
  have hlocks := B.notSynchronized
  obtain ⟨Q, hQ⟩ : ∃ Q, Q = MQ below (vp_Si (fun r => jIxR f (a1.toInt8.toInt32) a2.toInt n r.toInt)) ([.ref h0, .int a1, .int a2, .int a3] : List Value).toArray s 0 0 (fun _ => False) := ⟨_, rfl⟩
  rw [← hQ]
  have hl := lv_entry ([.ref h0, .int a1, .int a2, .int a3]) (n := 4) (Nat.le_of_ble_eq_true rfl)
  rw [lg_entry_eq]
  generalize (lg_sl ([.ref h0, .int a1, .int a2, .int a3]) ++ List.replicate (4 - (lg_sl ([.ref h0, .int a1, .int a2, .int a3])).length) Slot.unset).toArray = ls at hl ⊢
  have hl : lv_has ls 4 [(0, .ref h0), (1, .int a1), (2, .int a2), (3, .int a3)] := hl
  generalize hR : (headSpec (jw yJ1_indexOf_4cfef cJ1_indexOf_4cfef 4 (some .int)) ({ frames := 2, cells := 0, slots := 0, locals := 80 })).room = R
  subst hH0
  have hS : va_S (jA base) s.heap s.heap [] := va_S.rf
  have hkm1 : ((-1) : Int32).toInt = (-1) := by decide
  have hk0 : (0 : Int32).toInt = 0 := by decide
  have hk1 : (1 : Int32).toInt = 1 := by decide
  refine lv_iload_n hx hb dJ1_indexOf_4cfef_0 rfl (lv_at hl 1 rfl) ?_
  refine vp_callSi (W.runS (As := [.int a1]) (rest := []) ⟨hx, hb, hml, hown, hts⟩ (eJ1_canEncode_9a6ad l dC dI ca base s.heap a1) (va_cwS 1 hts (jgS (jWr_38 _ (List.mem_of_getElem? (i := 1) rfl)) (jWr_38 _ (List.mem_of_getElem? (i := 2) rfl)) (jWr_6 _ (List.mem_of_getElem? (i := 10) rfl)) (jWr_38 _ (List.mem_of_getElem? (i := 3) rfl))) rfl rfl rfl (by decide +kernel) ⟨by rw [← hR]; exact Nat.le_of_ble_eq_true rfl, by rw [← hR]; exact Nat.le_of_ble_eq_true rfl⟩) ⟨fun a U g mk q => by obtain ⟨q0, q1, qK, q9⟩ := q; exact ⟨q0, q1, jG.calling g mk a qK, q9⟩, fun U hU hW => ⟨rfl, hU, hG.step hW hU hS, (by omega)⟩⟩ rfl rfl hl.1 rfl (lv_room (Nat.le_of_ble_eq_true rfl)) dJ1_indexOf_4cfef_1 ⟨Nat.zero_le _, Nat.zero_le _⟩) (fun r_1 hr_1 => ?_)
  have hr_1' : r_1.toInt = 1 := by rw [hr_1]; decide
  refine lv_if_ne (tgt := 9) hx hb dJ1_indexOf_4cfef_4 (by decide) (fun c_2 => ?_) (fun c_2 => ?_)
  · skip
    have c_2' : r_1.toInt ≠ 0 := jb_ne (rfl) ((by decide)) c_2
    refine lv_iload_n hx hb dJ1_indexOf_4cfef_9 rfl (lv_at hl 2 rfl) ?_
    refine lv_iconst (v := 0) hx hb dJ1_indexOf_4cfef_10 (by decide) ?_
    refine va_mmax hx hb (by rw [hml]; exact hl.1.symm) hown (htw (.methodLink RJ1 92 Lib.Math.max.name) (jWr_37 _ (List.mem_of_getElem? (i := 23) rfl))) (htw (.static Lib.Math.max.name) (jWr_3 _ (List.mem_of_getElem? (i := 6) rfl))) (htw (.initialized "java/lang/Math") (jWr_3 _ (List.mem_of_getElem? (i := 7) rfl))) (htw (.code Lib.Math.max.name Lib.Math.max.code 2 (some .int)) (jWr_3 _ (List.mem_of_getElem? (i := 8) rfl))) (by rw [← hR]; exact Nat.le_of_ble_eq_true rfl) (by rw [← hR]; exact Nat.le_of_ble_eq_true rfl) (Nat.zero_le _) (Nat.zero_le _) dJ1_indexOf_4cfef_11 ?_
    refine lv_topi (fun z_3 ez_3 => ?_)
    have hz_3 := jb_max ez_3
    refine lv_istore_n (lv' := [(2, .int z_3), (0, .ref h0), (1, .int a1), (3, .int a3)]) hx hb dJ1_indexOf_4cfef_14 rfl hl (by decide) rfl (fun ls hl => ?_)
    refine lv_iload_n hx hb dJ1_indexOf_4cfef_15 rfl (lv_at hl 3 rfl) ?_
    refine lv_aload_n hx hb dJ1_indexOf_4cfef_16 rfl (lv_at hl 1 rfl) ?_
    refine va_tlen hx hb hsa_h0 hS (v := Int32.ofNat n) rfl dJ1_indexOf_4cfef_17 ?_
    refine lv_topi (fun z_4 ez_4 => ?_)
    have hz_4 : z_4.toInt = n := by rw [ez_4]; exact jb_nat (by omega)
    refine va_mmin hx hb (by rw [hml]; exact hl.1.symm) hown (htw (.methodLink RJ1 38 Lib.Math.min.name) (jWr_38 _ (List.mem_of_getElem? (i := 0) rfl))) (htw (.static Lib.Math.min.name) (jWr_16 _ (List.mem_of_getElem? (i := 16) rfl))) (htw (.initialized "java/lang/Math") (jWr_3 _ (List.mem_of_getElem? (i := 7) rfl))) (htw (.code Lib.Math.min.name Lib.Math.min.code 2 (some .int)) (jWr_16 _ (List.mem_of_getElem? (i := 17) rfl))) (by rw [← hR]; exact Nat.le_of_ble_eq_true rfl) (by rw [← hR]; exact Nat.le_of_ble_eq_true rfl) (Nat.zero_le _) (Nat.zero_le _) dJ1_indexOf_4cfef_18 ?_
    refine lv_topi (fun z_5 ez_5 => ?_)
    have hz_5 := jb_min ez_5
    refine lv_istore_n (lv' := [(3, .int z_5), (2, .int z_3), (0, .ref h0), (1, .int a1)]) hx hb dJ1_indexOf_4cfef_21 rfl hl (by decide) rfl (fun ls hl => ?_)
    refine lv_iload_n hx hb dJ1_indexOf_4cfef_22 rfl (lv_at hl 1 rfl) ?_
    refine lv_iload_n hx hb dJ1_indexOf_4cfef_23 rfl (lv_at hl 0 rfl) ?_
    refine lv_icmp_lt (tgt := 29) hx hb dJ1_indexOf_4cfef_24 (by decide) (fun c_6 => ?_) (fun c_6 => ?_)
    · skip
      have c_6' : z_3.toInt < z_5.toInt := jb_lt (rfl) (rfl) c_6
      refine lv_aload_n hx hb dJ1_indexOf_4cfef_29 rfl (lv_at hl 2 rfl) ?_
      refine lv_iload_n hx hb dJ1_indexOf_4cfef_30 rfl (lv_at hl 3 rfl) ?_
      refine lv_iload_n hx hb dJ1_indexOf_4cfef_31 rfl (lv_at hl 1 rfl) ?_
      refine lv_iload_n hx hb dJ1_indexOf_4cfef_32 rfl (lv_at hl 0 rfl) ?_
      refine vp_callSi (W.runS (As := [.ref h0, .int a1, .int z_3, .int z_5]) (rest := []) ⟨hx, hb, hml, hown, hts⟩ (gJ1_indexOfChar_4cfef l dC dI ca base s.heap h0 n f a1 z_3 z_5) (va_cwS 4 hts (jgS (jWr_38 _ (List.mem_of_getElem? (i := 4) rfl)) (jWr_38 _ (List.mem_of_getElem? (i := 5) rfl)) (jWr_6 _ (List.mem_of_getElem? (i := 10) rfl)) (jWr_38 _ (List.mem_of_getElem? (i := 6) rfl))) rfl rfl rfl (by decide +kernel) ⟨by rw [← hR]; exact Nat.le_of_ble_eq_true rfl, by rw [← hR]; exact Nat.le_of_ble_eq_true rfl⟩) ⟨fun a U g mk q => by obtain ⟨q0, q1, q2, qK, q9⟩ := q; exact ⟨q0, q1, (q2.moved (Vm.Alike.refl U.vm)), jG.calling g mk a qK, q9⟩, fun U hU hW => ⟨rfl, hU, (hsa_h0.moved hW.alike).kept hS.2.1, hG.step hW hU hS, ⟨by omega, by omega, by omega⟩⟩⟩ rfl rfl hl.1 rfl (lv_room (Nat.le_of_ble_eq_true rfl)) dJ1_indexOf_4cfef_33 ⟨Nat.zero_le _, Nat.zero_le _⟩) (fun r_7 hr_7 => ?_)
      rw [hQ]
      exact W.iret (v := r_7) hx hb hr (fun t ht hW => ⟨r_7, rfl, hr_7.cg (by omega) (by omega), ht⟩) (fun _ h => nomatch h) dJ1_indexOf_4cfef_36
    · skip
      have c_6' : z_3.toInt ≥ z_5.toInt := jb_lt_n (rfl) (rfl) c_6
      refine lv_iconst (v := (-1)) hx hb dJ1_indexOf_4cfef_27 (by decide) ?_
      rw [hQ]
      exact W.iret (v := (-1)) hx hb hr (fun t ht hW => ⟨(-1), rfl, Or.inl ⟨hkm1, fun j q0 q1 => by omega⟩, ht⟩) (fun _ h => nomatch h) dJ1_indexOf_4cfef_28
  · skip
    have c_2' : r_1.toInt = 0 := jb_ne_n (rfl) ((by decide)) c_2
    refine lv_iconst (v := (-1)) hx hb dJ1_indexOf_4cfef_7 (by decide) ?_
    rw [hQ]
    exact W.iret (v := (-1)) hx hb hr (fun t ht hW => ⟨(-1), rfl, (by omega : False).elim, ht⟩) (fun _ h => nomatch h) dJ1_indexOf_4cfef_8
set_option maxHeartbeats 4000000 in
set_option maxRecDepth 20000 in
theorem gJ0_indexOf_7cf53 (l : Launch) (dC : Nat → ClassId) (dI : Nat → Nat → Nat) (ca : Nat → ClassId) (base : Nat) (H0 : Heap) (h0 n : Nat) (f : Nat → Int32) (a1 a2 : Int32) : Met l yJ0_indexOf_7cf53 (jw yJ0_indexOf_7cf53 cJ0_indexOf_7cf53 3 (some .int)) ({ frames := 3, cells := 0, slots := 0, locals := 120 }) (va_Pc [.ref h0, .int a1, .int a2] (fun U => U.heap = H0 ∧ jStrF base h0 n f U H0 ∧ jG dC dI ca base U ∧ (n < 2147483648 ∧ 0 ≤ a1.toInt ∧ a1.toInt ≤ 255 ∧ 0 ≤ a2.toInt))) (vp_Si (fun r => jIxR f (a1.toInt8.toInt32) a2.toInt n r.toInt)) 0 0 (fun _ => False) := by
  refine Met.ofW (cc := cJ0_indexOf_7cf53) (maxL := 3) (ret := (some .int)) (by decide) rfl ?_
  intro p e s m args below meth c s₁ B hml hv
  obtain ⟨rfl, hH0, hsF, hG, hpre⟩ := hv
  have hstr_h0 := hsF.str
  have hK := hG.1
  have hx := B.exec
  have hb := B.bytes
  have hr := B.returns
  have hts := atoms_spec (ws := (jw yJ0_indexOf_7cf53 cJ0_indexOf_7cf53 3 (some .int))) B.pre
  have htw : ∀ w ∈ jWl, w.before _ s = true := fun w h => hts w (List.mem_cons_of_mem _ h)
  have hown : s.vm.findClass RJ0 = some m.cls := findClass_of_methodNamed B.named
  have hlocks := B.notSynchronized
  obtain ⟨Q, hQ⟩ : ∃ Q, Q = MQ below (vp_Si (fun r => jIxR f (a1.toInt8.toInt32) a2.toInt n r.toInt)) ([.ref h0, .int a1, .int a2] : List Value).toArray s 0 0 (fun _ => False) := ⟨_, rfl⟩
  rw [← hQ]
  have hl := lv_entry ([.ref h0, .int a1, .int a2]) (n := 3) (Nat.le_of_ble_eq_true rfl)
  rw [lg_entry_eq]
  generalize (lg_sl ([.ref h0, .int a1, .int a2]) ++ List.replicate (3 - (lg_sl ([.ref h0, .int a1, .int a2])).length) Slot.unset).toArray = ls at hl ⊢
  have hl : lv_has ls 3 [(0, .ref h0), (1, .int a1), (2, .int a2)] := hl
  generalize hR : (headSpec (jw yJ0_indexOf_7cf53 cJ0_indexOf_7cf53 3 (some .int)) ({ frames := 3, cells := 0, slots := 0, locals := 120 })).room = R
  subst hH0
  have hS : va_S (jA base) s.heap s.heap [] := va_S.rf
  have hk0 : (0 : Int32).toInt = 0 := by decide
  have hk1 : (1 : Int32).toInt = 1 := by decide
  refine lv_aload_n hx hb dJ0_indexOf_7cf53_0 rfl (lv_at hl 0 rfl) ?_
  refine vp_callSi (W.runV (As := []) (rest := []) ⟨hx, hb, hml, hown, hts⟩ (wJ0_isLatin1_aae02 l dC dI ca base s.heap h0 n) (cwV 0 hts (jgV (jWr_6 _ (List.mem_of_getElem? (i := 4) rfl)) (jWr_6 _ (List.mem_of_getElem? (i := 5) rfl)) (jWr_6 _ (List.mem_of_getElem? (i := 6) rfl)) (jWr_5 _ (List.mem_of_getElem? (i := 15) rfl)) (jWr_6 _ (List.mem_of_getElem? (i := 7) rfl))) rfl rfl rfl (by decide +kernel) ⟨by rw [← hR]; exact Nat.le_of_ble_eq_true rfl, by rw [← hR]; exact Nat.le_of_ble_eq_true rfl⟩) ⟨fun a U g mk q => by obtain ⟨q0, q1, q2, qK, q9⟩ := q; exact ⟨q0, q1, (q2.moved (Vm.Alike.refl U.vm)), jG.calling g mk a qK, q9⟩, jStr_recv hstr_h0 hS, fun U hU hW => ⟨rfl, hU, (hstr_h0.moved hW.alike).kept hS.2.1, hG.step hW hU hS, by omega⟩⟩ rfl rfl hl.1 rfl (lv_room (Nat.le_of_ble_eq_true rfl)) dJ0_indexOf_7cf53_1 ⟨Nat.zero_le _, Nat.zero_le _⟩) (fun r_1 hr_1 => ?_)
  subst hr_1
  refine lv_if_eq (tgt := 23) hx hb dJ0_indexOf_7cf53_4 (by decide) (fun c_2 => ?_) (fun c_2 => ?_)
  · skip
    exact absurd c_2 (by decide)
  · skip
    refine lv_aload_n hx hb dJ0_indexOf_7cf53_7 rfl (lv_at hl 0 rfl) ?_
    obtain ⟨sv_3, gsv_3, hsv_3⟩ := hsF.2.2
    refine vk_getf hx hb gsv_3 hS hown (htw (.fieldLink RJ0 9 "java/lang/String" "value" "[B") (jWr_5 _ (List.mem_of_getElem? (i := 17) rfl))) (fun _ h9 => h9) dJ0_indexOf_7cf53_8 ?_
    refine lv_iload_n hx hb dJ0_indexOf_7cf53_11 rfl (lv_at hl 1 rfl) ?_
    refine lv_iload_n hx hb dJ0_indexOf_7cf53_12 rfl (lv_at hl 2 rfl) ?_
    refine lv_aload_n hx hb dJ0_indexOf_7cf53_13 rfl (lv_at hl 0 rfl) ?_
    refine vp_callSi (W.runV (As := []) (rest := [.int a2, .int a1, .ref sv_3]) ⟨hx, hb, hml, hown, hts⟩ (wJ0_length_8abf5 l dC dI ca base s.heap h0 n) (cwV 0 hts (jgV (jWr_37 _ (List.mem_of_getElem? (i := 19) rfl)) (jWr_5 _ (List.mem_of_getElem? (i := 13) rfl)) (jWr_5 _ (List.mem_of_getElem? (i := 14) rfl)) (jWr_5 _ (List.mem_of_getElem? (i := 15) rfl)) (jWr_5 _ (List.mem_of_getElem? (i := 16) rfl))) rfl rfl rfl (by decide +kernel) ⟨by rw [← hR]; exact Nat.le_of_ble_eq_true rfl, by rw [← hR]; exact Nat.le_of_ble_eq_true rfl⟩) ⟨fun a U g mk q => by obtain ⟨q0, q1, q2, qK, q9⟩ := q; exact ⟨q0, q1, (q2.moved (Vm.Alike.refl U.vm)), jG.calling g mk a qK, q9⟩, jStr_recv hstr_h0 hS, fun U hU hW => ⟨rfl, hU, (hstr_h0.moved hW.alike).kept hS.2.1, hG.step hW hU hS, by omega⟩⟩ rfl rfl hl.1 rfl (lv_room (Nat.le_of_ble_eq_true rfl)) dJ0_indexOf_7cf53_14 ⟨Nat.zero_le _, Nat.zero_le _⟩) (fun r_4 hr_4 => ?_)
    refine vp_callSi (W.runS (As := [.ref sv_3, .int a1, .int a2, .int r_4]) (rest := []) ⟨hx, hb, hml, hown, hts⟩ (gJ1_indexOf_4cfef l dC dI ca base s.heap sv_3 n f a1 a2 r_4) (va_cwS 4 hts (jgS (jWr_37 _ (List.mem_of_getElem? (i := 20) rfl)) (jWr_37 _ (List.mem_of_getElem? (i := 21) rfl)) (jWr_6 _ (List.mem_of_getElem? (i := 10) rfl)) (jWr_37 _ (List.mem_of_getElem? (i := 22) rfl))) rfl rfl rfl (by decide +kernel) ⟨by rw [← hR]; exact Nat.le_of_ble_eq_true rfl, by rw [← hR]; exact Nat.le_of_ble_eq_true rfl⟩) ⟨fun a U g mk q => by obtain ⟨q0, q1, q2, qK, q9⟩ := q; exact ⟨q0, q1, (q2.moved (Vm.Alike.refl U.vm)), jG.calling g mk a qK, q9⟩, fun U hU hW => ⟨rfl, hU, (hsv_3.moved hW.alike).kept hS.2.1, hG.step hW hU hS, ⟨by omega, by omega, by omega, by omega, by omega⟩⟩⟩ rfl rfl hl.1 rfl (lv_room (Nat.le_of_ble_eq_true rfl)) dJ0_indexOf_7cf53_17 ⟨Nat.zero_le _, Nat.zero_le _⟩) (fun r_5 hr_5 => ?_)
    refine lv_goto (tgt := 36) hx hb dJ0_indexOf_7cf53_20 (by decide) ?_
    rw [hQ]
    exact W.iret (v := r_5) hx hb hr (fun t ht hW => ⟨r_5, rfl, hr_5, ht⟩) (fun _ h => nomatch h) dJ0_indexOf_7cf53_36
set_option maxHeartbeats 4000000 in
set_option maxRecDepth 20000 in
theorem gJ0_indexOf_0f7a4 (l : Launch) (dC : Nat → ClassId) (dI : Nat → Nat → Nat) (ca : Nat → ClassId) (base : Nat) (H0 : Heap) (h0 n : Nat) (f : Nat → Int32) (a1 : Int32) : Met l yJ0_indexOf_0f7a4 (jw yJ0_indexOf_0f7a4 cJ0_indexOf_0f7a4 2 (some .int)) ({ frames := 4, cells := 0, slots := 0, locals := 160 }) (va_Pc [.ref h0, .int a1] (fun U => U.heap = H0 ∧ jStrF base h0 n f U H0 ∧ jG dC dI ca base U ∧ (n < 2147483648 ∧ 0 ≤ a1.toInt ∧ a1.toInt ≤ 255))) (vp_Si (fun r => jIxR f (a1.toInt8.toInt32) 0 n r.toInt)) 0 0 (fun _ => False) := by
  refine Met.ofW (cc := cJ0_indexOf_0f7a4) (maxL := 2) (ret := (some .int)) (by decide) rfl ?_
  intro p e s m args below meth c s₁ B hml hv
  obtain ⟨rfl, hH0, hsF, hG, hpre⟩ := hv
  have hstr_h0 := hsF.str
  have hK := hG.1
  have hx := B.exec
  have hb := B.bytes
  have hr := B.returns
  have hts := atoms_spec (ws := (jw yJ0_indexOf_0f7a4 cJ0_indexOf_0f7a4 2 (some .int))) B.pre
  have htw : ∀ w ∈ jWl, w.before _ s = true := fun w h => hts w (List.mem_cons_of_mem _ h)
  have hown : s.vm.findClass RJ0 = some m.cls := findClass_of_methodNamed B.named
  have hlocks := B.notSynchronized
  obtain ⟨Q, hQ⟩ : ∃ Q, Q = MQ below (vp_Si (fun r => jIxR f (a1.toInt8.toInt32) 0 n r.toInt)) ([.ref h0, .int a1] : List Value).toArray s 0 0 (fun _ => False) := ⟨_, rfl⟩
  rw [← hQ]
  have hl := lv_entry ([.ref h0, .int a1]) (n := 2) (Nat.le_of_ble_eq_true rfl)
  rw [lg_entry_eq]
  generalize (lg_sl ([.ref h0, .int a1]) ++ List.replicate (2 - (lg_sl ([.ref h0, .int a1])).length) Slot.unset).toArray = ls at hl ⊢
  have hl : lv_has ls 2 [(0, .ref h0), (1, .int a1)] := hl
  generalize hR : (headSpec (jw yJ0_indexOf_0f7a4 cJ0_indexOf_0f7a4 2 (some .int)) ({ frames := 4, cells := 0, slots := 0, locals := 160 })).room = R
  subst hH0
  have hS : va_S (jA base) s.heap s.heap [] := va_S.rf
  have hk0 : (0 : Int32).toInt = 0 := by decide
  have hk1 : (1 : Int32).toInt = 1 := by decide
  refine lv_aload_n hx hb dJ0_indexOf_0f7a4_0 rfl (lv_at hl 0 rfl) ?_
  refine lv_iload_n hx hb dJ0_indexOf_0f7a4_1 rfl (lv_at hl 1 rfl) ?_
  refine lv_iconst (v := 0) hx hb dJ0_indexOf_0f7a4_2 (by decide) ?_
  refine vp_callSi (W.runV (As := [.int a1, .int 0]) (rest := []) ⟨hx, hb, hml, hown, hts⟩ (gJ0_indexOf_7cf53 l dC dI ca base s.heap h0 n f a1 0) (cwV 2 hts (jgV (jWr_37 _ (List.mem_of_getElem? (i := 15) rfl)) (jWr_37 _ (List.mem_of_getElem? (i := 16) rfl)) (jWr_37 _ (List.mem_of_getElem? (i := 17) rfl)) (jWr_5 _ (List.mem_of_getElem? (i := 15) rfl)) (jWr_37 _ (List.mem_of_getElem? (i := 18) rfl))) rfl rfl rfl (by decide +kernel) ⟨by rw [← hR]; exact Nat.le_of_ble_eq_true rfl, by rw [← hR]; exact Nat.le_of_ble_eq_true rfl⟩) ⟨fun a U g mk q => by obtain ⟨q0, q1, q2, qK, q9⟩ := q; exact ⟨q0, q1, (q2.moved (Vm.Alike.refl U.vm)), jG.calling g mk a qK, q9⟩, jStr_recv hstr_h0 hS, fun U hU hW => ⟨rfl, hU, (hsF.moved hW.alike).kept hS.2.1, hG.step hW hU hS, ⟨by omega, by omega, by omega, by decide⟩⟩⟩ rfl rfl hl.1 rfl (lv_room (Nat.le_of_ble_eq_true rfl)) dJ0_indexOf_0f7a4_3 ⟨Nat.zero_le _, Nat.zero_le _⟩) (fun r_1 hr_1 => ?_)
  rw [hQ]
  exact W.iret (v := r_1) hx hb hr (fun t ht hW => ⟨r_1, rfl, hr_1.cg (by decide) rfl, ht⟩) (fun _ h => nomatch h) dJ0_indexOf_0f7a4_6
end
section
-- p9: JSON as it is read, over bytes b that end at e; tables T (1 kinds, 2 firsts, 3 sizes, 4 nexts, 5 and 6 keys, 7 units, 8: 1 where it stands in a list or object)
theorem jjB_y {b : Int → Int} {e a a1 : Int} {k : Nat} (h : a < e) (h1 : jBlk (b a) = 1) (hk : e - a ≤ k) (ea : a1 = a + 1) : jjB b e (k - 1) a1 = jjB b e k a := by
  subst ea
  cases k with
  | zero => omega
  | succ k => exact (if_pos ⟨h, h1⟩).symm
theorem jjSk.id (b : Int → Int) (e a : Int) : jjSk b e (jjSk b e a) = jjSk b e a := jjB_n (jjB.end _ _ (by omega))
theorem jjWf_y {b : Int → Int} {e a : Int} {f : Nat → Int32} {k i : Nat} (h : a + i < e) (h1 : b (a + i) = (f i).toInt) (hk : 0 < k) : jjWf b e f a (k - 1) (i + 1) = jjWf b e f a k i := by
  cases k with
  | zero => omega
  | succ k => exact (if_pos ⟨h, h1⟩).symm
theorem jjF_y {b : Int → Int} {e a a1 v v1 c d : Int} {k : Nat} (hc : c = jjK b e a) (hd : d = jjHx c) (h : 0 ≤ d) (hk : 0 < k) (ea : a1 = a + 1) (ev : v1 = 16 * v + d) : jjF b e (k - 1) a1 v1 = jjF b e k a v := by
  subst ea ev hd hc
  cases k with
  | zero => omega
  | succ k => exact (if_neg (by omega)).symm
theorem jjF_n {b : Int → Int} {e a v c : Int} {k : Nat} (hc : c = jjK b e a) (h : jjHx c < 0) (hk : 0 < k) : jjF b e k a v = -1 := by
  subst hc
  cases k with
  | zero => omega
  | succ k => exact if_pos h
theorem jjSt_1 {b : Int → Int} {e a a1 u u1 n x : Int} {T : Nat → Int → Int} {k : Nat} (h : jjP b e a = (1, n, x, 0)) (hk : 0 < k) (ea : a1 = a + n) (eu : u1 = u + 1) : jjSt b e (k - 1) a1 u1 (jjS T 7 u x) = jjSt b e k a u T := by
  subst ea eu
  cases k with
  | zero => omega
  | succ k => conv => rhs; unfold jjSt; rw [h, if_neg (by show ¬ (1 : Int) = 3; omega), if_pos rfl]
              rfl
theorem jjSt_2 {b : Int → Int} {e a a1 u u1 n x y : Int} {T : Nat → Int → Int} {k : Nat} (h : jjP b e a = (2, n, x, y)) (hk : 0 < k) (ea : a1 = a + n) (eu : u1 = u + 2) : jjSt b e (k - 1) a1 u1 (jjS (jjS T 7 u x) 7 (u + 1) y) = jjSt b e k a u T := by
  subst ea eu
  cases k with
  | zero => omega
  | succ k => conv => rhs; unfold jjSt; rw [h, if_neg (by show ¬ (2 : Int) = 3; omega), if_neg (by show ¬ (2 : Int) = 1; omega), if_pos rfl]
              rfl
theorem jjKy_y {b : Int → Int} {e o a u a1 u1 q a2 : Int} {T T1 : Nat → Int → Int} (ho : o = 1) (h : jjStr b e a u T = (1, a1, u1, T1)) (hq : q = jjSk b e a1) (h1 : jjK b e q = 58) (ea : a2 = jjSk b e (q + 1)) : jjKy b e o a u T = (1, a2, u1, T1) := by
  subst hq ea
  unfold jjKy
  rw [if_pos ho, h, if_pos ⟨rfl, h1⟩]
theorem jjKy_0 {b : Int → Int} {e o a u : Int} {T : Nat → Int → Int} (ho : o = 1) (h : (jjStr b e a u T).1 = 0) : (jjKy b e o a u T).1 = 0 := by
  unfold jjKy
  rw [if_pos ho, if_neg (fun w => by rw [h] at w; exact absurd w.1 (by decide))]
theorem jjKy_c {b : Int → Int} {e o a u a1 u1 q : Int} {T T1 : Nat → Int → Int} (ho : o = 1) (h : jjStr b e a u T = (1, a1, u1, T1)) (hq : q = jjSk b e a1) (h1 : jjK b e q ≠ 58) : (jjKy b e o a u T).1 = 0 := by
  subst hq
  unfold jjKy
  rw [if_pos ho, h, if_neg (fun w => h1 w.2)]
theorem jjKy_l {b : Int → Int} {e o a u : Int} {T : Nat → Int → Int} (ho : o ≠ 1) : jjKy b e o a u T = (1, a, u, T) := if_neg ho
section
variable {b : Int → Int} {e o h : Int} {V : Int → Int → Int → (Nat → Int → Int) → Int × Int × Int × Int × (Nat → Int → Int)} {k : Nat} {a v u l a1 u1 r a2 v2 u2 q a3 : Int} {T T1 T2 : Nat → Int → Int}
end
end
section
-- p9: frames: X 0 fine or broken, 1 place, 2 told, 3 kept, 4 signs, 5 the name is like the wanted one, 6 digits, 7 value, 8 filled
section
variable {x a b c d e f g h i u r p q ql qg : Int}
theorem jfW_y (hb : b = 6) (hi : c ≤ i) : jfW (jfV x b c d e f g h i) = (jfV 0 0 (-1) 0 e f g h 0, 1, c) := if_pos ⟨hb, hi⟩
theorem jfBd.set {D : Int → Int} {f k : Nat → Int32} {n m c : Int} (hD : jfBd D f m) (hc : jSo k n % 256 = c % 256) (hr : -128 ≤ jSo k n ∧ jSo k n ≤ 127) (h0 : 0 ≤ c) (h1 : c ≤ 255) (ho : ∀ j : Int, 0 ≤ j → j < m → j ≠ n → jSo k j = jSo f j) : jfBd (jfBu D n c) k m := fun j q0 q1 => by
  unfold jfBu
  by_cases w : j = n
  · rw [if_pos w, w]; unfold jB8; omega
  · have h2 := hD j q0 q1
    unfold jB8 at h2 ⊢
    rw [if_neg w, ho j q0 q1 w]; exact h2
end
section JP3
variable {p : Program} {l : Launch} {e : Env} {R : Room} {s : State} {m : MethodId} {args : Array Value} {below : List Frame} {meth : Method} {c : Code} {H : Heap} {locs : List Loc} {cells slots : Nat} {Q : State → Prop}
variable {cc : ByteArray} {pc : Nat} {ls : Array Slot} {rest : List Value} {dC : Nat → ClassId} {dI : Nat → Nat → Nat} {ca : Nat → ClassId} {B : jF} {base : Nat} {G0 G : jT} {E : List (Nat × Nat)} {H0 : Heap} {zc zs : Nat} {L : List jPin} {M : List jCt} {I : List jIv} {a k n : Nat} {cA : ClassId} {tys : List (ClassId × FieldType)}
end JP3
section JP4
variable {p : Program} {l : Launch} {e : Env} {R : Room} {s : State} {m : MethodId} {args : Array Value} {below : List Frame} {meth : Method} {c : Code} {H : Heap} {locs : List Loc} {cells slots : Nat} {Q : State → Prop}
variable {cc : ByteArray} {pc : Nat} {ls : Array Slot} {rest : List Value} {dC : Nat → ClassId} {dI : Nat → Nat → Nat} {ca : Nat → ClassId} {B : jF} {base : Nat} {G0 G : jT} {E : List (Nat × Nat)} {H0 : Heap} {zc zs : Nat} {L : List jPin} {M : List jCt} {I : List jIv} {a k n : Nat} {cA : ClassId} {tys : List (ClassId × FieldType)}
variable {P : Nat → Int32 → Prop}
end JP4
end
section
-- p9: what the class's methods say of JSON
/-- the text f is plain -/
def jjAs (f : Nat → Int32) (n : Nat) : Prop := ∀ i : Nat, i < n → 0 ≤ (f i).toInt ∧ (f i).toInt < 128 ∧ (jCv (f i)).toInt = (f i).toInt
theorem jjQe.one {p : Int × Int × Int × Int} {r n u qu x : Int} {f g : Nat → Int32} (h : p = (1, n, x, 0)) (hr : r = 1) (hq : qu = u + 1) (hg : jSo g u = x) (hf : jjPu f g u) : jjQe p r n u qu f g := Or.inr ⟨hr, Or.inl ⟨x, h, hq, hg, hf⟩⟩
theorem jjQe.two {p : Int × Int × Int × Int} {r n u qu x y : Int} {f g : Nat → Int32} (h : p = (2, n, x, y)) (hr : r = 1) (hq : qu = u + 2) (hg : jSo g u = x) (hg1 : jSo g (u + 1) = y) (hf : jjPu f g u) : jjQe p r n u qu f g := Or.inr ⟨hr, Or.inr ⟨x, y, h, hq, hg, hg1, hf⟩⟩
theorem jjE_s {b : Int → Int} {e a c x : Int} (hc : c = jjK b e (a + 1)) (h : c ≠ 117) (hx : x = jjEs c) (h0 : 0 ≤ x) : jjE b e a = (1, 2, x, 0) := by
  unfold jjE
  rw [← hc, if_neg h, ← hx, if_neg (by omega)]
theorem jjE_n {b : Int → Int} {e a c : Int} (hc : c = jjK b e (a + 1)) (h : c ≠ 117) (hx : jjEs c < 0) : (jjE b e a).1 = 0 := by
  unfold jjE
  rw [← hc, if_neg h, if_pos hx]
theorem jjE_u {b : Int → Int} {e a p : Int} (h : jjK b e (a + 1) = 117) (hp : p = a + 2) : jjE b e a = jjEu b e p := by unfold jjE; rw [if_pos h, hp]
theorem jjEu_n {b : Int → Int} {e p v : Int} (hv : v = jjF b e 4 p 0) (h : v < 0 ∨ (56320 ≤ v ∧ v ≤ 57343)) : (jjEu b e p).1 = 0 := by unfold jjEu; rw [← hv, if_pos h]
theorem jjEu_1 {b : Int → Int} {e p v : Int} (hv : v = jjF b e 4 p 0) (h : 0 ≤ v) (h1 : v < 55296 ∨ 57343 < v) : jjEu b e p = (1, 6, v, 0) := by unfold jjEu; rw [← hv, if_neg (by omega), if_neg (by omega)]
theorem jjEu_2 {b : Int → Int} {e p v w p4 p6 : Int} (hv : v = jjF b e 4 p 0) (h : 55296 ≤ v) (h1 : v ≤ 56319) (h4 : p4 = p + 4) (hw : jjW b e (jChT "\\u") 2 p4 = 1) (h6 : p6 = p + 6) (hw2 : w = jjF b e 4 p6 0) (h2 : 56320 ≤ w) (h3 : w ≤ 57343) : jjEu b e p = (2, 12, v, w) := by
  subst h4 h6
  unfold jjEu
  rw [← hv, ← hw2, if_neg (by omega), if_pos ⟨h, h1⟩, if_pos ⟨hw, h2, h3⟩]
theorem jjEu_x {b : Int → Int} {e p v p4 : Int} (hv : v = jjF b e 4 p 0) (h : 55296 ≤ v) (h1 : v ≤ 56319) (h4 : p4 = p + 4) (hw : jjW b e (jChT "\\u") 2 p4 ≠ 1 ∨ ∃ w : Int, w = jjF b e 4 (p + 6) 0 ∧ (w < 56320 ∨ 57343 < w)) : (jjEu b e p).1 = 0 := by
  subst h4
  unfold jjEu
  rw [← hv, if_neg (by omega), if_pos ⟨h, h1⟩, if_neg (fun q => by
    rcases hw with hw | ⟨w, hw, h5⟩
    · exact hw q.1
    · rw [← hw] at q; omega)]
theorem jjLs.one {b : Int → Int} {e a u a1 u1 n x : Int} {k : Nat} {f g : Nat → Int32} {X : Int × Int × Int × (Nat → Int → Int)} (h : jjLs b e k a u f X) (hp : jjP b e a = (1, n, x, 0)) (hk : 0 < k) (ea : a1 = a + n) (eu : u1 = u + 1) (hg : jSo g u = x) (hf : jjPu f g u) : jjLs b e (k - 1) a1 u1 g X := by
  obtain ⟨T, hT, hX⟩ := h
  exact ⟨jjS T 7 u x, hT.new hg (fun i q0 q1 => hf i q0 q1) eu, (jjSt_1 hp hk ea eu).trans hX⟩
theorem jjLs.two {b : Int → Int} {e a u a1 u1 n x y : Int} {k : Nat} {f g : Nat → Int32} {X : Int × Int × Int × (Nat → Int → Int)} (h : jjLs b e k a u f X) (hp : jjP b e a = (2, n, x, y)) (hk : 0 < k) (ea : a1 = a + n) (eu : u1 = u + 2) (hg : jSo g u = x) (hg1 : jSo g (u + 1) = y) (hf : jjPu f g u) : jjLs b e (k - 1) a1 u1 g X := by
  obtain ⟨T, hT, hX⟩ := h
  have h1 : jjA (jjS T 7 u x) 7 (u + 1) g := hT.new hg (fun i q0 q1 => hf i q0 q1) rfl
  exact ⟨jjS (jjS T 7 u x) 7 (u + 1) y, h1.new hg1 (fun i _ _ => rfl) (by omega), (jjSt_2 hp hk ea eu).trans hX⟩
theorem jjLs.esc {b : Int → Int} {e a u a1 u1 n r : Int} {k : Nat} {f g : Nat → Int32} {X : Int × Int × Int × (Nat → Int → Int)} {p : Int × Int × Int × Int} (h : jjLs b e k a u f X) (hp : jjP b e a = p) (hq : jjQe p r n u u1 f g) (hr : r = 1) (hk : 0 < k) (ea : a1 = a + n) : jjLs b e (k - 1) a1 u1 g X := by
  rcases hq with ⟨q, _⟩ | ⟨_, ⟨x, q1, q2, q3, q4⟩ | ⟨x, y, q1, q2, q3, q4, q5⟩⟩
  · omega
  · exact h.one (hp.trans q1) hk ea q2 q3 q4
  · exact h.two (hp.trans q1) hk ea q2 q3 q4 q5
theorem jjLs.end {b : Int → Int} {e a u a1 r : Int} {k : Nat} {f : Nat → Int32} {X : Int × Int × Int × (Nat → Int → Int)} (h : jjLs b e k a u f X) (hp : (jjP b e a).1 = 3) (hk : 0 < k) (ea : a1 = a + 1) (hr : r = 1) : jjQs X r a1 u f := by
  obtain ⟨T, hT, hX⟩ := h
  rw [jjSt_e hp hk, ← ea] at hX
  exact Or.inr ⟨hr, T, hX.symm, hT⟩
theorem jjLs.bad {b : Int → Int} {e a u a1 u1 r : Int} {k : Nat} {f g : Nat → Int32} {X : Int × Int × Int × (Nat → Int → Int)} (h : jjLs b e k a u f X) (hp : (jjP b e a).1 = 0) (hr : r = 0) : jjQs X r a1 u1 g := by
  obtain ⟨T, hT, hX⟩ := h
  exact Or.inl ⟨hr, by rw [← hX]; exact jjSt_0 hp⟩
theorem jjP_o {b : Int → Int} {e a : Int} (h : e ≤ a) : (jjP b e a).1 = 0 := by unfold jjP; rw [if_pos h]
theorem jjP_q {b : Int → Int} {e a c : Int} (h : a < e) (hc : c = jUc b a e) (h1 : c = 34) : (jjP b e a).1 = 3 := by unfold jjP; rw [if_neg (by omega), ← hc, if_pos h1]
theorem jjP_c {b : Int → Int} {e a c : Int} (h : a < e) (hc : c = jUc b a e) (h1 : c < 32) : (jjP b e a).1 = 0 := by unfold jjP; rw [if_neg (by omega), ← hc, if_neg (by omega), if_pos h1]
theorem jjP_e {b : Int → Int} {e a c : Int} (h : a < e) (hc : c = jUc b a e) (h1 : c = 92) : jjP b e a = jjE b e a := by unfold jjP; rw [if_neg (by omega), ← hc, if_neg (by omega), if_neg (by omega), if_pos h1]
theorem jjP_1 {b : Int → Int} {e a c n : Int} (h : a < e) (hc : c = jUc b a e) (h1 : 32 ≤ c) (h2 : c ≠ 34) (h3 : c ≠ 92) (h4 : c < 65536) (hn : n = jUz c) : jjP b e a = (1, n, c, 0) := by unfold jjP; rw [if_neg (by omega), ← hc, if_neg h2, if_neg (by omega), if_neg h3, if_neg (by omega), hn]
theorem jjP_2 {b : Int → Int} {e a c x y n : Int} (h : a < e) (hc : c = jUc b a e) (h4 : 65536 ≤ c) (hx : x = 55296 + (c - 65536) / 1024) (hy : y = 56320 + (c - 65536) % 1024) (hn : n = jUz c) : jjP b e a = (2, n, x, y) := by
  have e4 : jUz c = 4 := jUz.of 4 (by omega)
  unfold jjP
  rw [if_neg (by omega), ← hc, if_neg (by omega), if_neg (by omega), if_neg (by omega), if_pos h4, hx, hy, hn, e4]
theorem jUc.low {b : Int → Int} {a e c : Int} (hc : c = jUc b a e) (h : 0 ≤ c) (h1 : c < 128) : b a = c := by
  by_cases w : b a < 128
  · rw [hc]; unfold jUc; rw [if_pos w]
  · unfold jUc at hc
    rw [if_neg w] at hc
    by_cases w2 : jUm (b a) = 0 ∨ e ≤ a + jUm (b a)
    · rw [if_pos w2] at hc; omega
    · rw [if_neg w2] at hc
      have hm := jUm.r (b a)
      have hx := jUm.x (x := b a) (by omega)
      unfold jUk at hc
      split at hc
      · omega
      · rename_i w3
        have hs := jUb.start (x := b a) (n := jUm (b a) + 1) (k := 1) rfl hx.1 hx.2 rfl (by omega) rfl rfl
        have hb := (jUr.b (b := b) (jUm (b a)).toNat (a + 1) _ 1 hs (by omega) (by omega)).end rfl
        generalize jUr b (jUm (b a)).toNat (a + 1) (jU0 (b a) (jUm (b a))) = z at hc w3 hb
        omega
section
variable {T T1 : Nat → Int → Int} {v u v1 k f z : Int} {fk fi fz fn fa fs fu gk gi gz gn ga gs gu : Nat → Int32}
/-- all but one place stay -/
def jjP1 (f g : Nat → Int32) (n x : Int) : Prop := ∀ j : Int, 0 ≤ j → j < n → j ≠ x → jSo g j = jSo f j
theorem jjTC.lk {h l c s w : Int} (q : jjTC T v u fk fi fz fn fa fs fu) (e5 : jSo ga c = s) (o5 : jjP1 fa ga v c) (e6 : jSo gs c = w) (o6 : jjP1 fs gs v c) (hl : (l < 0 ∧ jSo gi h = c ∧ jjP1 fi gi v h ∧ gn = fn) ∨ (0 ≤ l ∧ jSo gn l = c ∧ jjP1 fn gn v l ∧ gi = fi)) (h0 : 0 ≤ h) (hv : h < v) (e3 : jSo gz h = jSo fz h + 1) (o3 : jjP1 fz gz v h) : jjTC (jjLk T h l c s w) v u fk gi gz gn ga gs fu := by
  obtain ⟨a1, a2, a3, a4, a5, a6, a7⟩ := q
  have ne : ∀ {t t' : Nat} {j x : Int} {T : Nat → Int → Int} {n : Int} {f : Nat → Int32}, t ≠ t' → jjA T t n f → jjA (jjS T t' j x) t n f := fun q h => h.oth q
  have e3' : jSo gz h = T 3 h + 1 := by rw [a3 h h0 hv]; exact e3
  unfold jjLk
  rcases hl with ⟨l0, q1, q2, q3⟩ | ⟨l0, q1, q2, q3⟩
  · subst q3
    rw [if_pos l0]
    exact ⟨ne (by decide) (ne (by decide) (ne (by decide) (ne (by decide) (ne (by decide) a1)))), ne (by decide) (ne (by decide) ((ne (by decide) (ne (by decide) a2)).put q1 q2)), ne (by decide) ((ne (by decide) (ne (by decide) (ne (by decide) a3))).put e3' o3), ne (by decide) (ne (by decide) (ne (by decide) (ne (by decide) (ne (by decide) a4)))), ne (by decide) (ne (by decide) (ne (by decide) (ne (by decide) (a5.put e5 o5)))), ne (by decide) (ne (by decide) (ne (by decide) ((ne (by decide) a6).put e6 o6))), ne (by decide) (ne (by decide) (ne (by decide) (ne (by decide) (ne (by decide) a7))))⟩
  · subst q3
    rw [if_neg (by omega)]
    exact ⟨ne (by decide) (ne (by decide) (ne (by decide) (ne (by decide) (ne (by decide) a1)))), ne (by decide) (ne (by decide) (ne (by decide) (ne (by decide) (ne (by decide) a2)))), ne (by decide) ((ne (by decide) (ne (by decide) (ne (by decide) a3))).put e3' o3), ne (by decide) (ne (by decide) ((ne (by decide) (ne (by decide) a4)).put q1 q2)), ne (by decide) (ne (by decide) (ne (by decide) (ne (by decide) (a5.put e5 o5)))), ne (by decide) (ne (by decide) (ne (by decide) ((ne (by decide) a6).put e6 o6))), ne (by decide) (ne (by decide) (ne (by decide) (ne (by decide) (ne (by decide) a7))))⟩
end
section
variable {X : Int × Int × Int × Int × (Nat → Int → Int)} {e d r a v u a0 v0 u0 : Int} {T : Nat → Int → Int} {fk fi fz fn fa fs fu : Nat → Int32}
end
theorem jjAs_u : jjAs (jChT "\\u") 2 := by unfold jjAs; decide +kernel
theorem jjAs_t : jjAs (jChT "true") 4 := by unfold jjAs; decide +kernel
theorem jjAs_f : jjAs (jChT "false") 5 := by unfold jjAs; decide +kernel
theorem jjAs_n : jjAs (jChT "null") 4 := by unfold jjAs; decide +kernel
theorem jjQe.u {p : Int × Int × Int × Int} {r n u qu : Int} {f g : Nat → Int32} (h : jjQe p r n u qu f g) (hr : r = 1) : u + 1 ≤ qu ∧ qu ≤ u + 2 ∧ (qu = u + 1 ∨ p.1 = 2) := by
  rcases h with ⟨h, _⟩ | ⟨_, ⟨x, q1, q2, _⟩ | ⟨x, y, q1, q2, _⟩⟩
  · omega
  · omega
  · exact ⟨by omega, by omega, Or.inr (by rw [q1])⟩
section
variable {b : Int → Int} {e a v u r a1 v1 u1 z c : Int} {T T1 : Nat → Int → Int}
theorem jjL_s (hk : jjK b e a = 34) (hs : jjStr b e a u T = (1, a1, u1, T1)) (hr : r = v) (hv : v1 = v + 1) (hz : z = u1 - u) : jjL b e a v u T = (r, a1, v1, u1, jjMk T1 v 3 u z) := by
  unfold jjL
  rw [if_pos hk, hs, if_pos rfl, hr, hv, hz]
theorem jjL_sn (hk : jjK b e a = 34) (hs : (jjStr b e a u T).1 = 0) : (jjL b e a v u T).1 < 0 := by
  unfold jjL
  rw [if_pos hk, if_neg (by rw [hs]; decide)]
  show (-1 : Int) < 0; decide
theorem jjL_nn (hk : jjK b e a = 45 ∨ (48 ≤ jjK b e a ∧ jjK b e a ≤ 57)) (hn : jjNp b e a < 0) : (jjL b e a v u T).1 < 0 := by
  unfold jjL
  rw [if_neg (by omega), if_pos hk, if_pos hn]
  show (-1 : Int) < 0; decide
theorem jjL_ni (hk : jjK b e a = 45 ∨ (48 ≤ jjK b e a ∧ jjK b e a ≤ 57)) (hn : 0 ≤ jjNp b e a) (hi : jjNi b e a) (hr : r = v) (ha : a1 = jjNp b e a) (hv : v1 = v + 1) : jjL b e a v u T = (r, a1, v1, u, jjMk T v 4 (jjNv b e a) 0) := by
  unfold jjL
  unfold jjNi at hi; rw [if_neg (by omega), if_pos hk, if_neg (by omega), if_pos hi, hr, ha, hv]
theorem jjL_nx (hk : jjK b e a = 45 ∨ (48 ≤ jjK b e a ∧ jjK b e a ≤ 57)) (hn : 0 ≤ jjNp b e a) (hi : ¬ jjNi b e a) (hr : r = v) (ha : a1 = jjNp b e a) (hv : v1 = v + 1) : jjL b e a v u T = (r, a1, v1, u, jjMk T v 5 0 0) := by
  unfold jjL
  unfold jjNi at hi; rw [if_neg (by omega), if_pos hk, if_neg (by omega), if_neg hi, hr, ha, hv]
theorem jjL_w (hc : c = jjK b e a) (h1 : c ≠ 34) (h2 : c ≠ 45) (h3 : c < 48 ∨ 57 < c) (hw : (jjW b e (jChT "true") 4 a = 1 ∧ a1 = a + 4) ∨ (jjW b e (jChT "true") 4 a ≠ 1 ∧ jjW b e (jChT "false") 5 a = 1 ∧ a1 = a + 5) ∨ (jjW b e (jChT "true") 4 a ≠ 1 ∧ jjW b e (jChT "false") 5 a ≠ 1 ∧ jjW b e (jChT "null") 4 a = 1 ∧ a1 = a + 4)) (hr : r = v) (hv : v1 = v + 1) : jjL b e a v u T = (r, a1, v1, u, jjMk T v 5 0 0) := by
  unfold jjL
  rw [← hc, if_neg h1, if_neg (by omega), hr, hv]
  rcases hw with ⟨w1, w2⟩ | ⟨w1, w2, w3⟩ | ⟨w1, w2, w3, w4⟩
  · rw [if_pos w1, w2]
  · rw [if_neg w1, if_pos w2, w3]
  · rw [if_neg w1, if_neg w2, if_pos w3, w4]
theorem jjL_0 (hc : c = jjK b e a) (h1 : c ≠ 34) (h2 : c ≠ 45) (h3 : c < 48 ∨ 57 < c) (w1 : jjW b e (jChT "true") 4 a ≠ 1) (w2 : jjW b e (jChT "false") 5 a ≠ 1) (w3 : jjW b e (jChT "null") 4 a ≠ 1) : (jjL b e a v u T).1 < 0 := by
  unfold jjL
  rw [← hc, if_neg h1, if_neg (by omega), if_neg w1, if_neg w2, if_neg w3]
  show (-1 : Int) < 0; decide
end
section
variable {b : Int → Int} {e a v u r qt qv qu d c : Int} {T : Nat → Int → Int} {fk fi fz fn fa fs fu : Nat → Int32} {n : Nat}
end
theorem jjH_e {b : Int → Int} {e o a v u q r p v1 : Int} {V : Int → Int → Int → (Nat → Int → Int) → Int × Int × Int × Int × (Nat → Int → Int)} {T : Nat → Int → Int} (hq : q = jjSk b e (a + 1)) (hk : jjK b e q = 93 + 32 * o) (hr : r = v) (hp : p = q + 1) (hv : v1 = v + 1) : jjH b e V o a v u T = (r, p, v1, u, jjMk T v (2 - o) (-1) 0) := by
  unfold jjH
  rw [← hq, if_pos hk, hr, hp, hv]
theorem jjH_m {b : Int → Int} {e o a v u q v1 : Int} {k : Nat} {V : Int → Int → Int → (Nat → Int → Int) → Int × Int × Int × Int × (Nat → Int → Int)} {T : Nat → Int → Int} (hq : q = jjSk b e (a + 1)) (hk : jjK b e q ≠ 93 + 32 * o) (hv : v1 = v + 1) (hn : k = (e - a).toNat + 1) : jjM b e V o v k q v1 u (jjMk T v (2 - o) (-1) 0) (-1) = jjH b e V o a v u T := by
  unfold jjH
  rw [← hq, if_neg hk, hv, hn]
section
variable {b : Int → Int} {e o h : Int} {V : Int → Int → Int → (Nat → Int → Int) → Int × Int × Int × Int × (Nat → Int → Int)}
variable {k : Nat} {a v u l a1 u1 r r1 a2 v2 u2 q a3 d d1 qt qv qu : Int} {T T1 T2 : Nat → Int → Int} {X : Int × Int × Int × Int × (Nat → Int → Int)} {fk fi fz fn fa fs fu gk gi gz gn ga gs gu : Nat → Int32}
theorem jjM_e2 (hp : jjKy b e o a u T = (1, a1, u1, T1)) (hc : V a1 v u1 T1 = (r, a2, v2, u2, T2)) (hr : 0 ≤ r) (hq : q = jjSk b e a2) (h4 : jjK b e q = 93 + 32 * o) (hk : 0 < k) (hh : r1 = h) (ha : a3 = q + 1) : jjM b e V o h k a v u T l = (r1, a3, v2, u2, jjLk T2 h l r u (u1 - u)) := by rw [hh, ha]; exact jjM_end hp hc hr hq h4 hk
end
section
variable {b : Int → Int} {e a l1 l2 l3 l4 w w1 q : Int}
theorem jjN1.fail (h2 : l2 = jjNb b e a) (hw : w = jjDg b e l2) (hx : w = l2 ∨ (1 < w - l2 ∧ b l2 = 48)) : jjNp b e a < 0 := by
  unfold jjNp
  rw [← h2, ← hw, if_pos hx]; omega
theorem jjN1.f0 (h : jjN1 b e a l2 l3 w) (hk : jjK b e w ≠ 46) (h0 : 0 ≤ w) (h4 : l4 = 1) : jjN2 b e a l2 l3 l4 w := ⟨w, h, by unfold jjNf; rw [if_neg hk], h0, Or.inl ⟨h4, rfl⟩⟩
theorem jjN1.f1 (h : jjN1 b e a l2 l3 w) (hk : jjK b e w = 46) (hw : w1 = jjDg b e (w + 1)) (hn : w1 ≠ w + 1) (h0 : 0 ≤ w) (h4 : l4 = 0) : jjN2 b e a l2 l3 l4 w1 := by
  have hg := jjDg.ge b e (w + 1)
  exact ⟨w, h, by unfold jjNf; rw [if_pos hk, ← hw, if_neg hn], by omega, Or.inr ⟨h4, by omega⟩⟩
theorem jjN1.fx (h : jjN1 b e a l2 l3 w) (hk : jjK b e w = 46) (hw : w1 = jjDg b e (w + 1)) (hn : w1 = w + 1) : jjNp b e a < 0 := by
  have e1 : jjNf b e w = -1 := by unfold jjNf; rw [if_pos hk, ← hw, if_pos hn]
  rw [h.np, e1, if_pos (by decide)]; decide
theorem jjN2.e0 (h : jjN2 b e a l2 l3 l4 w) (hk : jjK b e w ≠ 101) (hk1 : jjK b e w ≠ 69) : jjN3 b e a l2 l3 l4 w := by
  obtain ⟨w1, h1, h2, h3, h4⟩ := h
  exact ⟨w1, h1, by rw [h1.np, ← h2, if_neg (by omega)]; unfold jjNx; rw [if_neg (fun q => q.elim hk hk1)], h3, h4⟩
theorem jjN2.ex (h : jjN2 b e a l2 l3 l4 w) (hk : jjK b e w = 101 ∨ jjK b e w = 69) (hq : q = jjNq b e (w + 1)) (hw : w1 = jjDg b e q) (hn : w1 = q) : jjNp b e a < 0 := by
  obtain ⟨w2, h1, h2, h3, h4⟩ := h
  rw [h1.np, ← h2, if_neg (by omega)]
  unfold jjNx
  rw [if_pos hk, ← hq, ← hw, if_pos hn]; decide
end
theorem jb_laddx {x y z : Int64} (e : z = x + y) (h0 : -1000000000000000 ≤ x.toInt + y.toInt) (h1 : x.toInt + y.toInt ≤ 1000000000000000) : z.toInt = x.toInt + y.toInt := by
  rw [e, Int64.toInt_add]
  show Int.bmod (x.toInt + y.toInt) 18446744073709551616 = _
  unfold Int.bmod
  dsimp only
  split <;> omega
theorem jb_lsub48 {x z : Int64} (e : z = x - 48) (h0 : -1000000000000000 ≤ x.toInt) (h1 : x.toInt ≤ 1000000000000000) : z.toInt = x.toInt - 48 := by
  rw [e, Int64.toInt_sub]
  show Int.bmod (x.toInt - 48) 18446744073709551616 = _
  unfold Int.bmod
  dsimp only
  split <;> omega
theorem jb_lnegx {x z : Int64} (e : z = -x) (h0 : -1000000000000000 ≤ x.toInt) (h1 : x.toInt ≤ 1000000000000000) : z.toInt = - x.toInt := by
  rw [e, Int64.toInt_neg]
  show Int.bmod (- x.toInt) 18446744073709551616 = _
  unfold Int.bmod
  dsimp only
  split <;> omega
theorem jb_l2ix {x : Int64} {z : Int32} (e : z = x.toInt32) (h0 : -2147483648 ≤ x.toInt) (h1 : x.toInt ≤ 2147483647) : z.toInt = x.toInt := by
  rw [e, Int64.toInt_toInt32]
  show Int.bmod x.toInt 4294967296 = _
  unfold Int.bmod
  dsimp only
  split <;> omega
theorem jjN3.n1 {b : Int → Int} {e a l2 l3 l4 w : Int} (h : jjN3 b e a l2 l3 l4 w) : w = jjNp b e a ∧ 0 ≤ jjNp b e a := by
  obtain ⟨w2, _, h1, h2, _⟩ := h
  exact ⟨h1, by omega⟩
section
variable {b : Int → Int} {e a d w r r1 v u q v0 u0 : Int} {fk fi fz fn fa fs fu : Nat → Int32} {T0 : Nat → Int → Int}
end
end
section
-- p9: what is asked of JSON that was read
theorem jqEl_0 {T : Nat → Int → Int} {v i : Int} {g : Int → Int} {m n : Nat} (h : m < n) (he : jqA T v i m ≠ g m) : jqEl T v i g n = 0 := by
  induction n with
  | zero => omega
  | succ n ih =>
    have e : jqEl T v i g (n + 1) = if jqA T v i n = g n then jqEl T v i g n else 0 := rfl
    rw [e]
    by_cases q : m = n
    · subst q; rw [if_neg he]
    · split
      · exact ih (by omega)
      · rfl
theorem jqEl_1 {T : Nat → Int → Int} {v i : Int} {g : Int → Int} {m : Nat} (h : jqEl T v i g m = 1) (he : jqA T v i m = g m) : jqEl T v i g (m + 1) = 1 := by
  have e : jqEl T v i g (m + 1) = if jqA T v i m = g m then jqEl T v i g m else 0 := rfl
  rw [e, if_pos he]; exact h
end
section
-- p9: JSON as the reference reads it
theorem jjB_c {b : Int → Int} {e a a1 c : Int} {k : Nat} (hc : c = jjK b e a) (h : c = 32 ∨ c = 9 ∨ c = 10 ∨ c = 13) (hk : e - a ≤ k) (ea : a1 = a + 1) : jjB b e (k - 1) a1 = jjB b e k a := by
  have h1 := jjK.lt hc (by omega)
  exact jjB_y h1.1 (by unfold jBlk; rw [h1.2, if_pos h]) hk ea
theorem jjB_k {b : Int → Int} {e a c : Int} {k : Nat} (hc : c = jjK b e a) (h1 : c ≠ 32) (h2 : c ≠ 9) (h3 : c ≠ 10) (h4 : c ≠ 13) : jjB b e k a = a := by
  by_cases w : a < e
  · exact jjB_n (Or.inr (by unfold jBlk; rw [← jjK.y (b := b) (e := e) w, ← hc, if_neg (by omega)]; omega))
  · exact jjB_n (Or.inl (by omega))
theorem jjHx.A {c : Int} (h : 65 ≤ c) (h1 : c ≤ 70) : c - 55 = jjHx c := by unfold jjHx; rw [if_neg (by omega), if_neg (by omega), if_pos ⟨h, h1⟩]
theorem jjLw.bad {b : Int → Int} {e a u w : Int} {k : Nat} {f : Nat → Int32} {X : Int × Int × Int × (Nat → Int → Int)} (h : jjLw b e k a u w f X) (hw : w = 1) : X.1 = 0 := by
  rcases h with ⟨h, _⟩ | ⟨_, h⟩
  · omega
  · exact h
theorem jjP_lo {b : Int → Int} {e a c : Int} (hc : c = jjK b e a) (h : c < 32) : (jjP b e a).1 = 0 := by
  by_cases w : a < e
  · have h1 : b a = c := by rw [hc, jjK.y w]
    exact jjP_c (c := b a) w (by unfold jUc; rw [if_pos (by omega)]) (by omega)
  · exact jjP_o (by omega)
end
section
-- p9: JSON as the reference reads it
theorem jjEs.t {c x : Int} (h : (c = 98 ∧ x = 8) ∨ (c = 102 ∧ x = 12) ∨ (c = 110 ∧ x = 10) ∨ (c = 114 ∧ x = 13) ∨ (c = 116 ∧ x = 9)) : x = jjEs c := by
  rcases h with ⟨rfl, rfl⟩ | ⟨rfl, rfl⟩ | ⟨rfl, rfl⟩ | ⟨rfl, rfl⟩ | ⟨rfl, rfl⟩ <;> decide
theorem jxE.lo {c w : Int} (h : c < 0) (hw : w = -1) : jxE c w := Or.inl ⟨hw, by
  unfold jjEs
  rw [if_neg (by omega), if_neg (by omega), if_neg (by omega), if_neg (by omega), if_neg (by omega), if_neg (by omega)]⟩
end
section
-- p9: JSON as the reference reads it
section
variable {T T1 : Nat → Int → Int} {v v1 k f z : Int} {ms mh mx mf mt mb me mi mn ys yh yx yf yt yb ye yi yn : Nat → Int32}
theorem jjTR.lk {h l c s w a2 : Int} (q : jjTR T v ms mh mx mf mt mb me mi mn) (hc0 : 0 ≤ c) (hcv : c < v) (h0 : 0 ≤ h) (hv : h < v) (hk : T 1 h = 1 ∨ T 1 h = 2) (hlv : l < v) (hlh : l ≠ h ∨ l < 0) (hch : c ≠ h) (e4 : jSo yf c = s) (o4 : jjP1 mf yf v c) (e5 : jSo yt c = s + w) (o5 : jjP1 mt yt v c) (hs : w = 0 ∨ s = a2)
    (hl : (l < 0 ∧ jSo yh h = c ∧ jjP1 mh yh v h ∧ yx = mx) ∨ (0 ≤ l ∧ jSo yx l = c ∧ jjP1 mx yx v l ∧ yh = mh)) : jjTR (jjLk T h l c a2 w) v ms yh yx yf yt mb me mi mn := fun j j0 j1 => by
  have hj := q j j0 j1
  unfold jjNd at hj ⊢
  obtain ⟨r1, r2, r3⟩ := hj
  have t1 : jjLk T h l c a2 w 1 j = T 1 j := jjLk.e1
  have k3 : jjLk T h l c a2 w 8 j = 1 → jjLk T h l c a2 w 6 j = jSo yt j - jSo yf j ∧ (jjLk T h l c a2 w 6 j = 0 ∨ jjLk T h l c a2 w 5 j = jSo yf j) := fun w8 => by
    by_cases e : j = c
    · subst e
      rw [jjLk.e6c, jjLk.e5c, e4, e5]
      exact ⟨by omega, by omega⟩
    · rw [jjLk.e8 e] at w8
      rw [jjLk.e6 e, jjLk.e5 e, o4 j j0 j1 e, o5 j j0 j1 e]
      exact r3 w8
  rcases hl with ⟨l0, q1, q2, q3⟩ | ⟨l0, q1, q2, q3⟩
  · subst q3
    refine ⟨?_, by rw [jjLk.e4 (Or.inr l0)]; exact r2, k3⟩
    rw [t1]
    by_cases e : j = h
    · subst e
      rw [jjLk.e2h l0, q1]
      rcases r1 with ⟨b1, b2, -⟩ | ⟨b1, b2, -⟩ | ⟨-, b2, -⟩ | ⟨-, -, b2, -⟩ | ⟨-, -, b2⟩ | ⟨-, -, b2⟩
      · exact Or.inl ⟨b1, b2, rfl⟩
      · exact Or.inr (Or.inl ⟨b1, b2, rfl⟩)
      all_goals exfalso; rw [b2] at hk; revert hk; decide
    · rw [jjLk.e2 (Or.inl e), jjLk.e3 e, q2 j j0 j1 e]
      exact r1
  · subst q3
    refine ⟨?_, ?_, k3⟩
    · rw [t1, jjLk.e2 (Or.inr l0)]
      by_cases e : j = h
      · subst e
        rcases r1 with ⟨b1, b2, b3⟩ | ⟨b1, b2, b3⟩ | ⟨-, b2, -⟩ | ⟨-, -, b2, -⟩ | ⟨-, -, b2⟩ | ⟨-, -, b2⟩
        · exact Or.inl ⟨b1, b2, b3⟩
        · exact Or.inr (Or.inl ⟨b1, b2, b3⟩)
        all_goals exfalso; rw [b2] at hk; revert hk; decide
      · rw [jjLk.e3 e]; exact r1
    · by_cases e : j = l
      · subst e
        rw [jjLk.e4l l0, q1]
      · rw [jjLk.e4 (Or.inl e), q2 j j0 j1 e]; exact r2
end
end
section
-- p9: JSON as the reference reads it
/-- while the reference reads the values of h: m, whether more come; w, bad -/
def jjWm (b : Int → Int) (e : Int) (V : Int → Int → Int → (Nat → Int → Int) → Int × Int × Int × Int × (Nat → Int → Int)) (o h : Int) (k : Nat) (m w a v u l : Int) (ms mh mx mf mt mb me mi mn fu : Nat → Int32) (X : Int × Int × Int × Int × (Nat → Int → Int)) : Prop :=
  (w = 1 ∧ X.1 < 0) ∨ (w = 0 ∧ m = 1 ∧ ∃ T : Nat → Int → Int, jjTR T v ms mh mx mf mt mb me mi mn ∧ jjA T 7 u fu ∧ (T 1 h = 1 ∨ T 1 h = 2) ∧ jjM b e V o h k (jjSk b e a) v u T l = X) ∨ (w = 0 ∧ m = 0 ∧ ∃ T : Nat → Int → Int, X = (h, a, v, u, T) ∧ jjTR T v ms mh mx mf mt mb me mi mn ∧ jjA T 7 u fu)
theorem jjD.fu {b : Int → Int} {e : Int} : ∀ (k : Nat) (a : Int), e - a ≤ k → jjD b e k a = jjDg b e a := by
  have key : ∀ (k k1 : Nat) (a : Int), e - a ≤ k → e - a ≤ k1 → jjD b e k a = jjD b e k1 a := by
    intro k
    induction k with
    | zero => intro k1 a h h1; rw [jjD_n (Or.inl (by omega)), jjD_n (Or.inl (by omega))]
    | succ k ih =>
      intro k1 a h h1
      by_cases w : a < e ∧ 48 ≤ b a ∧ b a ≤ 57
      · rw [← jjD_y (k := k + 1) w.1 w.2.1 w.2.2 h rfl, ← jjD_y (k := k1) w.1 w.2.1 w.2.2 h1 rfl]
        exact ih (k1 - 1) (a + 1) (by omega) (by omega)
      · rw [jjD_n (by omega), jjD_n (by omega)]
  exact fun k a h => key k _ a h (by omega)
theorem jjD_k {b : Int → Int} {e a c : Int} {k : Nat} (hc : c = jjK b e a) (h : c < 48 ∨ 57 < c) : jjD b e k a = a := by
  by_cases w : a < e
  · exact jjD_n (Or.inr (by rw [← jjK.y (b := b) (e := e) w, ← hc]; omega))
  · exact jjD_n (Or.inl (by omega))
theorem jb_lm10l {x z : Int64} (e : z = 10 * x) (h0 : -1000000000000 ≤ x.toInt) (h1 : x.toInt ≤ 1000000000000) : z.toInt = x.toInt * 10 := by
  rw [e, Int64.toInt_mul]
  show Int.bmod (10 * x.toInt) 18446744073709551616 = _
  unfold Int.bmod
  dsimp only
  split <;> omega
theorem jjMk.t7 {T : Nat → Int → Int} {v k f z j : Int} : jjMk T v k f z 7 j = T 7 j := by unfold jjMk jjS; simp
theorem jjA.mk7 {T : Nat → Int → Int} {v k f z n : Int} {g : Nat → Int32} (h : jjA T 7 n g) : jjA (jjMk T v k f z) 7 n g := fun j h0 h1 => by rw [jjMk.t7]; exact h j h0 h1
theorem jjA.lk7 {T : Nat → Int → Int} {h l c f z n : Int} {g : Nat → Int32} (q : jjA T 7 n g) : jjA (jjLk T h l c f z) 7 n g := fun j h0 h1 => by rw [jjLk.e7]; exact q j h0 h1
theorem jjW.t {b : Int → Int} {e a : Int} (h : jjW b e (jChT "true") 4 a = 1) : a < e ∧ b a = 116 := by have h1 := jjW.c h (by omega); rw [show (jChT "true" 0).toInt = 116 by decide +kernel] at h1; exact h1
theorem jjW.u {b : Int → Int} {e a : Int} (h : jjW b e (jChT "null") 4 a = 1) : a < e ∧ b a = 110 := by have h1 := jjW.c h (by omega); rw [show (jChT "null" 0).toInt = 110 by decide +kernel] at h1; exact h1
section
variable {b : Int → Int} {e a v u r a1 v1 c : Int} {T : Nat → Int → Int}
/-- a word: k 0 null, 1 true, 2 false -/
theorem jjL_k (hw : (jjW b e (jChT "null") 4 a = 1 ∧ a1 = a + 4) ∨ (jjW b e (jChT "true") 4 a = 1 ∧ a1 = a + 4) ∨ (jjW b e (jChT "false") 5 a = 1 ∧ a1 = a + 5)) (hr : r = v) (hv : v1 = v + 1) : jjL b e a v u T = (r, a1, v1, u, jjMk T v 5 0 0) := by
  rcases hw with ⟨w, ea⟩ | ⟨w, ea⟩ | ⟨w, ea⟩
  · have h1 := jjW.u w
    have n1 : jjW b e (jChT "true") 4 a ≠ 1 := fun q => by have := jjW.t q; omega
    have n2 : jjW b e (jChT "false") 5 a ≠ 1 := fun q => by have := jjW.f q; omega
    exact jjL_w (c := 110) (by rw [jjK.y h1.1, h1.2]) (by omega) (by omega) (by omega) (Or.inr (Or.inr ⟨n1, n2, w, ea⟩)) hr hv
  · have h1 := jjW.t w
    exact jjL_w (c := 116) (by rw [jjK.y h1.1, h1.2]) (by omega) (by omega) (by omega) (Or.inl ⟨w, ea⟩) hr hv
  · have h1 := jjW.f w
    have n1 : jjW b e (jChT "true") 4 a ≠ 1 := fun q => by have := jjW.t q; omega
    exact jjL_w (c := 102) (by rw [jjK.y h1.1, h1.2]) (by omega) (by omega) (by omega) (Or.inr (Or.inl ⟨n1, w, ea⟩)) hr hv
end
section
variable {b : Int → Int} {e a v u r qt qn w c : Int} {n : Nat} {T : Nat → Int → Int} {ms mh mx mf mt mb me mi mn fu : Nat → Int32}
/-- a number, or nothing, by the reference -/
theorem jjQw.num (h : (w = 1 ∧ jjNp b e a < 0) ∨ (w = 0 ∧ qt = jjNp b e a ∧ 0 ≤ jjNp b e a ∧ ((jjNi b e a ∧ jjTR (jjMk T v 4 (jjNv b e a) 0) qn ms mh mx mf mt mb me mi mn) ∨ (¬ jjNi b e a ∧ jjTR (jjMk T v 5 0 0) qn ms mh mx mf mt mb me mi mn)))) (hc : c = jjK b e a) (h1 : c ≠ 123) (h2 : c ≠ 91) (h3 : c ≠ 34) (w1 : jjW b e (jChT "null") 4 a ≠ 1) (w2 : jjW b e (jChT "true") 4 a ≠ 1) (w3 : jjW b e (jChT "false") 5 a ≠ 1) (hr : r = v) (hn : qn = v + 1) (hu : jjA T 7 u fu) : jjQw (jjVal b e n a v u T) w r qt qn u ms mh mx mf mt mb me mi mn fu := by
  rw [jjVal_l (by rw [← hc]; exact h1) (by rw [← hc]; exact h2)]
  by_cases q : c = 45 ∨ (48 ≤ c ∧ c ≤ 57)
  · rcases h with ⟨q1, q2⟩ | ⟨q1, q2, q3, ⟨q4, q5⟩ | ⟨q4, q5⟩⟩
    · exact jjQw.no (jjL_nn (by rw [← hc]; exact q) q2) q1
    · exact jjQw.yes (jjL_ni (by rw [← hc]; exact q) q3 q4 hr q2 hn) q1 q5 hu.mk7
    · exact jjQw.yes (jjL_nx (by rw [← hc]; exact q) q3 q4 hr q2 hn) q1 q5 hu.mk7
  · have hx := jjNp.x hc (by omega) (by omega)
    rcases h with ⟨q1, q2⟩ | ⟨q1, q2, q3, _⟩
    · exact jjQw.no (jjL_0 hc h3 (by omega) (by omega) w2 w3 w1) q1
    · omega
end
theorem jjVal.k1 {b : Int → Int} {e a v u r a1 v1 u1 : Int} {d : Nat} {T T1 : Nat → Int → Int} (h : jjVal b e d a v u T = (r, a1, v1, u1, T1)) (h0 : 0 ≤ v) (hr : 0 ≤ r) : (∀ j : Int, j < v → T1 1 j = T 1 j) ∧ r = v ∧ v < v1 := by
  have ho := jjVal.out (b := b) (e := e) d a v u T h0
  rw [h] at ho
  rcases ho with ho | ⟨o1, o2, o3, o4, o5, o6, o7, o8, o9⟩
  · have ho : r < 0 := ho
    omega
  · exact ⟨fun j hj => o7 1 j (fun _ => hj) (fun w => absurd w (by decide)), o1, o4⟩
theorem jjStr.k1 {b : Int → Int} {e a u a1 u1 : Int} {T T1 : Nat → Int → Int} (h : jjStr b e a u T = (1, a1, u1, T1)) (v : Int) : (∀ j : Int, j < v → T1 1 j = T 1 j) ∧ jjFr T T1 v u := by
  have ho := (jjStr.fr b e a u v T).2.1
  rw [h] at ho
  exact ⟨fun j hj => ho 1 j (fun _ => hj) (fun w => absurd w (by decide)), ho⟩
section
variable {b : Int → Int} {e o h m w a v u l : Int} {V : Int → Int → Int → (Nat → Int → Int) → Int × Int × Int × Int × (Nat → Int → Int)} {k : Nat} {ms mh mx mf mt mb me mi mn fu : Nat → Int32} {X : Int × Int × Int × Int × (Nat → Int → Int)}
theorem jjWm.g (q : jjWm b e V o h k m w a v u l ms mh mx mf mt mb me mi mn fu X) (hw : w = 0) (hm : m = 1) : ∃ T : Nat → Int → Int, jjTR T v ms mh mx mf mt mb me mi mn ∧ jjA T 7 u fu ∧ (T 1 h = 1 ∨ T 1 h = 2) ∧ jjM b e V o h k (jjSk b e a) v u T l = X := by
  rcases q with ⟨q, _⟩ | ⟨_, _, q⟩ | ⟨_, q, _⟩
  · omega
  · exact q
  · omega
theorem jjWm.end {r : Int} (q : jjWm b e V o h k m w a v u l ms mh mx mf mt mb me mi mn fu X) (hm : w = 1 ∨ m = 0) (hr : r = h) : jjQw X w r a v u ms mh mx mf mt mb me mi mn fu := by
  rcases q with ⟨q1, q2⟩ | ⟨q1, q2, q3⟩ | ⟨q1, q2, T, q3, q4, q5⟩
  · exact Or.inl ⟨q1, q2⟩
  · omega
  · exact Or.inr ⟨q1, T, by rw [hr]; exact q3, q4, q5⟩
end
end
