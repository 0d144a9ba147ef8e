def jB8 (dC : Nat → ClassId) (dI : Nat → Nat → Nat) (ca : Nat → ClassId) (G : jT) (a : Nat) (H : Heap) : Prop := ∃ (x_stems : Nat) (x_primes : Nat) (x_slots : Nat) (x_count : Int32) (f_stems : Nat → Int64) (f_primes : Nat → Int32) (f_slots : Nat → Int32), va_at (dC, dI) vwCl (a, .inr (8, [.ref x_stems, .ref x_primes, .ref x_slots, .int x_count])) H ∧ va_at (dC, dI) vwCl (x_stems, .inl (ca 2, 8192, .inr (.inl f_stems))) H ∧ va_at (dC, dI) vwCl (x_primes, .inl (ca 1, 8192, .inl f_primes)) H ∧ va_at (dC, dI) vwCl (x_slots, .inl (ca 1, 16384, .inl f_slots)) H ∧ G x_stems = some (1000, a) ∧ G x_primes = some (1001, a) ∧ G x_slots = some (1002, a) ∧ 0 ≤ x_count.toInt ∧ x_count.toInt ≤ 8192 ∧ (∀ j, j < 16384 → 0 ≤ (f_slots j).toInt ∧ (f_slots j).toInt ≤ x_count.toInt)
abbrev wsX60 : List Cond := u_ws RX6 TX6 4
abbrev cX6_find : ByteArray := prog_8_method_3_code
def yX6_find : MethodName := ⟨RX6, "find", "(JIZ)I"⟩
def wsX6_find : List Cond := .code yX6_find cX6_find 9 (some .int) :: ([.constantLong RX6 50 (-7046029254386353131), .fieldLink RX6 19 "ProofServer$Names" "slots" "[I", .fieldLink RX6 52 "ProofServer$Names" "count" "I", .fieldLink RX6 11 "ProofServer$Names" "stems" "[J", .fieldLink RX6 15 "ProofServer$Names" "primes" "[I"] ++ wsX60)
theorem dX6_find_0 : decode cX6_find 0 = .ok (.lload_n 1, 1) := by decide +kernel
theorem dX6_find_1 : decode cX6_find 1 = .ok (.ldc2_w 50, 3) := by decide +kernel
theorem dX6_find_4 : decode cX6_find 4 = .ok (.lmul, 1) := by decide +kernel
theorem dX6_find_5 : decode cX6_find 5 = .ok (.bipush 40, 2) := by decide +kernel
theorem dX6_find_7 : decode cX6_find 7 = .ok (.lushr, 1) := by decide +kernel
theorem dX6_find_8 : decode cX6_find 8 = .ok (.l2i, 1) := by decide +kernel
theorem dX6_find_9 : decode cX6_find 9 = .ok (.bipush 31, 2) := by decide +kernel
theorem dX6_find_11 : decode cX6_find 11 = .ok (.iload_n 3, 1) := by decide +kernel
theorem dX6_find_12 : decode cX6_find 12 = .ok (.imul, 1) := by decide +kernel
theorem dX6_find_13 : decode cX6_find 13 = .ok (.iadd, 1) := by decide +kernel
theorem dX6_find_14 : decode cX6_find 14 = .ok (.istore 5, 2) := by decide +kernel
theorem dX6_find_16 : decode cX6_find 16 = .ok (.iconst 0, 1) := by decide +kernel
theorem dX6_find_17 : decode cX6_find 17 = .ok (.istore 6, 2) := by decide +kernel
theorem dX6_find_19 : decode cX6_find 19 = .ok (.iload 6, 2) := by decide +kernel
theorem dX6_find_21 : decode cX6_find 21 = .ok (.sipush 16384, 3) := by decide +kernel
theorem dX6_find_24 : decode cX6_find 24 = .ok (.if_icmp .ge 127, 3) := by decide +kernel
theorem dX6_find_27 : decode cX6_find 27 = .ok (.iload 5, 2) := by decide +kernel
theorem dX6_find_29 : decode cX6_find 29 = .ok (.iload 6, 2) := by decide +kernel
theorem dX6_find_31 : decode cX6_find 31 = .ok (.iadd, 1) := by decide +kernel
theorem dX6_find_32 : decode cX6_find 32 = .ok (.sipush 16383, 3) := by decide +kernel
theorem dX6_find_35 : decode cX6_find 35 = .ok (.iand, 1) := by decide +kernel
theorem dX6_find_36 : decode cX6_find 36 = .ok (.istore 7, 2) := by decide +kernel
theorem dX6_find_38 : decode cX6_find 38 = .ok (.aload_n 0, 1) := by decide +kernel
theorem dX6_find_39 : decode cX6_find 39 = .ok (.getfield 19, 3) := by decide +kernel
theorem dX6_find_42 : decode cX6_find 42 = .ok (.iload 7, 2) := by decide +kernel
theorem dX6_find_44 : decode cX6_find 44 = .ok (.iaload, 1) := by decide +kernel
theorem dX6_find_45 : decode cX6_find 45 = .ok (.iconst 1, 1) := by decide +kernel
theorem dX6_find_46 : decode cX6_find 46 = .ok (.isub, 1) := by decide +kernel
theorem dX6_find_47 : decode cX6_find 47 = .ok (.istore 8, 2) := by decide +kernel
theorem dX6_find_49 : decode cX6_find 49 = .ok (.iload 8, 2) := by decide +kernel
theorem dX6_find_51 : decode cX6_find 51 = .ok (.ifCond .ge 68, 3) := by decide +kernel
theorem dX6_find_54 : decode cX6_find 54 = .ok (.iload 4, 2) := by decide +kernel
theorem dX6_find_56 : decode cX6_find 56 = .ok (.ifCond .eq 13, 3) := by decide +kernel
theorem dX6_find_59 : decode cX6_find 59 = .ok (.aload_n 0, 1) := by decide +kernel
theorem dX6_find_60 : decode cX6_find 60 = .ok (.getfield 52, 3) := by decide +kernel
theorem dX6_find_63 : decode cX6_find 63 = .ok (.sipush 8192, 3) := by decide +kernel
theorem dX6_find_66 : decode cX6_find 66 = .ok (.if_icmp .lt 5, 3) := by decide +kernel
theorem dX6_find_69 : decode cX6_find 69 = .ok (.iconst (-1), 1) := by decide +kernel
theorem dX6_find_70 : decode cX6_find 70 = .ok (.ireturn, 1) := by decide +kernel
theorem dX6_find_71 : decode cX6_find 71 = .ok (.aload_n 0, 1) := by decide +kernel
theorem dX6_find_72 : decode cX6_find 72 = .ok (.getfield 11, 3) := by decide +kernel
theorem dX6_find_75 : decode cX6_find 75 = .ok (.aload_n 0, 1) := by decide +kernel
theorem dX6_find_76 : decode cX6_find 76 = .ok (.getfield 52, 3) := by decide +kernel
theorem dX6_find_79 : decode cX6_find 79 = .ok (.lload_n 1, 1) := by decide +kernel
theorem dX6_find_80 : decode cX6_find 80 = .ok (.lastore, 1) := by decide +kernel
theorem dX6_find_81 : decode cX6_find 81 = .ok (.aload_n 0, 1) := by decide +kernel
theorem dX6_find_82 : decode cX6_find 82 = .ok (.getfield 15, 3) := by decide +kernel
theorem dX6_find_85 : decode cX6_find 85 = .ok (.aload_n 0, 1) := by decide +kernel
theorem dX6_find_86 : decode cX6_find 86 = .ok (.getfield 52, 3) := by decide +kernel
theorem dX6_find_89 : decode cX6_find 89 = .ok (.iload_n 3, 1) := by decide +kernel
theorem dX6_find_90 : decode cX6_find 90 = .ok (.iastore, 1) := by decide +kernel
theorem dX6_find_91 : decode cX6_find 91 = .ok (.aload_n 0, 1) := by decide +kernel
theorem dX6_find_92 : decode cX6_find 92 = .ok (.dup, 1) := by decide +kernel
theorem dX6_find_93 : decode cX6_find 93 = .ok (.getfield 52, 3) := by decide +kernel
theorem dX6_find_96 : decode cX6_find 96 = .ok (.iconst 1, 1) := by decide +kernel
theorem dX6_find_97 : decode cX6_find 97 = .ok (.iadd, 1) := by decide +kernel
theorem dX6_find_98 : decode cX6_find 98 = .ok (.putfield 52, 3) := by decide +kernel
theorem dX6_find_101 : decode cX6_find 101 = .ok (.aload_n 0, 1) := by decide +kernel
theorem dX6_find_102 : decode cX6_find 102 = .ok (.getfield 19, 3) := by decide +kernel
theorem dX6_find_105 : decode cX6_find 105 = .ok (.iload 7, 2) := by decide +kernel
theorem dX6_find_107 : decode cX6_find 107 = .ok (.aload_n 0, 1) := by decide +kernel
theorem dX6_find_108 : decode cX6_find 108 = .ok (.getfield 52, 3) := by decide +kernel
theorem dX6_find_111 : decode cX6_find 111 = .ok (.iastore, 1) := by decide +kernel
theorem dX6_find_112 : decode cX6_find 112 = .ok (.aload_n 0, 1) := by decide +kernel
theorem dX6_find_113 : decode cX6_find 113 = .ok (.getfield 52, 3) := by decide +kernel
theorem dX6_find_116 : decode cX6_find 116 = .ok (.iconst 1, 1) := by decide +kernel
theorem dX6_find_117 : decode cX6_find 117 = .ok (.isub, 1) := by decide +kernel
theorem dX6_find_118 : decode cX6_find 118 = .ok (.ireturn, 1) := by decide +kernel
theorem dX6_find_119 : decode cX6_find 119 = .ok (.aload_n 0, 1) := by decide +kernel
theorem dX6_find_120 : decode cX6_find 120 = .ok (.getfield 11, 3) := by decide +kernel
theorem dX6_find_123 : decode cX6_find 123 = .ok (.iload 8, 2) := by decide +kernel
theorem dX6_find_125 : decode cX6_find 125 = .ok (.laload, 1) := by decide +kernel
theorem dX6_find_126 : decode cX6_find 126 = .ok (.lload_n 1, 1) := by decide +kernel
theorem dX6_find_127 : decode cX6_find 127 = .ok (.lcmp, 1) := by decide +kernel
theorem dX6_find_128 : decode cX6_find 128 = .ok (.ifCond .ne 17, 3) := by decide +kernel
theorem dX6_find_131 : decode cX6_find 131 = .ok (.aload_n 0, 1) := by decide +kernel
theorem dX6_find_132 : decode cX6_find 132 = .ok (.getfield 15, 3) := by decide +kernel
theorem dX6_find_135 : decode cX6_find 135 = .ok (.iload 8, 2) := by decide +kernel
theorem dX6_find_137 : decode cX6_find 137 = .ok (.iaload, 1) := by decide +kernel
theorem dX6_find_138 : decode cX6_find 138 = .ok (.iload_n 3, 1) := by decide +kernel
theorem dX6_find_139 : decode cX6_find 139 = .ok (.if_icmp .ne 6, 3) := by decide +kernel
theorem dX6_find_142 : decode cX6_find 142 = .ok (.iload 8, 2) := by decide +kernel
theorem dX6_find_144 : decode cX6_find 144 = .ok (.ireturn, 1) := by decide +kernel
theorem dX6_find_145 : decode cX6_find 145 = .ok (.iinc 6 1, 3) := by decide +kernel
theorem dX6_find_148 : decode cX6_find 148 = .ok (.goto (-129), 3) := by decide +kernel
theorem dX6_find_151 : decode cX6_find 151 = .ok (.iconst (-1), 1) := by decide +kernel
theorem dX6_find_152 : decode cX6_find 152 = .ok (.ireturn, 1) := by decide +kernel
set_option maxHeartbeats 4000000 in
set_option maxRecDepth 20000 in
theorem tX6_find (l : Launch) (dC : Nat → ClassId) (dI : Nat → Nat → Nat) (ca : Nat → ClassId) (base : Nat) (B : jF) (hB : jBok B) (hB8 : ∀ n G a H, B 8 n G a H ↔ jB8 dC dI ca G a H) (G0 : jT) (X : List Nat) (H0 : Heap) (a : Nat) (stem : Int64) (tk ma : Int32) : Met l yX6_find wsX6_find ({ frames := 0, cells := 0, slots := 0, locals := 0 }) (va_Pc [.ref a, .long stem, .int tk, .int ma] (fun U => U.heap = H0 ∧ jX B base G0 X H0 ∧ jG dC dI ca base U ∧ G0 a = some (8, 0) ∧ a ∉ X ∧ (True))) (va_Qi (S := Unit) (fun r _ => -1 ≤ r.toInt ∧ r.toInt < 8192) (fun _ t => jX B base G0 X t.heap ∧ jModP G0 (fun r => r = a) H0 t.heap ∧ t.heap.size = H0.size ∧ jTot t.heap = jTot H0) (jA base)) 0 0 (jA base) := by
  refine Met.ofW (cc := cX6_find) (maxL := 9) (ret := (some .int)) (by decide) rfl ?_
  intro p e s m args below meth c s₁ Bd hml hv
  obtain ⟨rfl, hH0, hX, hG, hg_a, hn_a, hpre⟩ := hv
  have hK := hG.1
  have hx := Bd.exec
  have hb := Bd.bytes
  have hr := Bd.returns
  have hts := atoms_spec (ws := wsX6_find) Bd.pre
  have hown : s.vm.findClass RX6 = some m.cls := findClass_of_methodNamed Bd.named
  have hlocks := Bd.notSynchronized
  have hin_8 : ∀ w ∈ u_ws RX6 TX6 4, w ∈ wsX6_find := by decide +kernel
  obtain ⟨Q, hQ⟩ : ∃ Q, Q = MQ below (va_Qi (S := Unit) (fun r _ => -1 ≤ r.toInt ∧ r.toInt < 8192) (fun _ t => jX B base G0 X t.heap ∧ jModP G0 (fun r => r = a) H0 t.heap ∧ t.heap.size = H0.size ∧ jTot t.heap = jTot H0) (jA base)) ([.ref a, .long stem, .int tk, .int ma] : List Value).toArray s 0 0 (jA base) := ⟨_, rfl⟩
  rw [← hQ]
  have hl := lv_entry ([.ref a, .long stem, .int tk, .int ma]) (n := 9) (Nat.le_of_ble_eq_true rfl)
  rw [lg_entry_eq]
  generalize (lg_sl ([.ref a, .long stem, .int tk, .int ma]) ++ List.replicate (9 - (lg_sl ([.ref a, .long stem, .int tk, .int ma])).length) Slot.unset).toArray = ls at hl ⊢
  have hl : lv_has ls 9 [(0, .ref a), (1, .long stem), (3, .int tk), (4, .int ma)] := hl
  generalize hR : (headSpec wsX6_find ({ frames := 0, cells := 0, slots := 0, locals := 0 })).room = R
  subst hH0
  have hS : va_S (jA base) s.heap s.heap [] := va_S.rf
  have hM : jModP G0 (fun r => r = a) s.heap s.heap := jModP.rf
  have hz : s.heap.size = s.heap.size := rfl
  have hT : jTot s.heap = jTot s.heap := rfl
  have hlt_a := hX.2 _ _ hg_a
  have hrt_a : jRoot G0 a := ⟨_, _, hg_a, by omega⟩
  have hkm1 : ((-1) : Int32).toInt = (-1) := by decide
  have hk0 : (0 : Int32).toInt = 0 := by decide
  have hk1 : (1 : Int32).toInt = 1 := by decide
  have hk31 : (31 : Int32).toInt = 31 := by decide
  have hk40 : (40 : Int32).toInt = 40 := by decide
  have hk8192 : (8192 : Int32).toInt = 8192 := by decide
  have hk16383 : (16383 : Int32).toInt = 16383 := by decide
  have hk16384 : (16384 : Int32).toInt = 16384 := by decide
  refine lv_lload_n hx hb dX6_find_0 rfl (lv_at hl 1 rfl) ?_
  refine lv_ldc2 hx hb hown (hts (.constantLong RX6 50 (-7046029254386353131)) (by decide +kernel)) dX6_find_1 ?_
  refine lv_lmul hx hb dX6_find_4 ?_
  refine lv_topl (fun z_1 ez_1 => ?_)
  refine lv_bipush (v := 40) hx hb dX6_find_5 (by decide) ?_
  refine lv_lushr hx hb dX6_find_7 rfl ?_
  refine lv_topl (fun z_2 ez_2 => ?_)
  refine lv_l2i hx hb dX6_find_8 rfl ?_
  refine lv_topi (fun z_3 ez_3 => ?_)
  refine lv_bipush (v := 31) hx hb dX6_find_9 (by decide) ?_
  refine lv_iload_n hx hb dX6_find_11 rfl (lv_at hl 2 rfl) ?_
  refine lv_imul hx hb dX6_find_12 ?_
  refine lv_topi (fun z_4 ez_4 => ?_)
  refine lv_iadd hx hb dX6_find_13 ?_
  refine lv_topi (fun z_5 ez_5 => ?_)
  refine lv_istore (lv' := [(5, .int z_5), (0, .ref a), (1, .long stem), (3, .int tk), (4, .int ma)]) hx hb dX6_find_14 hl (by decide) rfl (fun ls hl => ?_)
  refine lv_iconst (v := 0) hx hb dX6_find_16 (by decide) ?_
  refine lv_istore (lv' := [(6, .int 0), (5, .int z_5), (0, .ref a), (1, .long stem), (3, .int tk), (4, .int ma)]) hx hb dX6_find_17 hl (by decide) rfl (fun ls hl => ?_)
  have L19 : ∀ (N : Nat) (iv : Int32) (H : Heap) (locs : List Loc), jX B base G0 X H → va_S (jA base) s.heap H locs → jModP G0 (fun r => r = a) s.heap H → H.size = s.heap.size → jTot H = jTot s.heap → (0 ≤ iv.toInt ∧ iv.toInt ≤ 16384) → (16384 - iv.toInt : Int) < N → ∀ ls : Array Slot, lv_has ls 9 [(0, .ref a), (1, .long stem), (3, .int tk), (4, .int ma), (5, .int z_5), (6, .int iv)] → W p l e R s m ([.ref a, .long stem, .int tk, .int ma] : List Value).toArray below meth c H locs 0 0 Q (F0 m 19 ls []) := by
    intro N
    induction N with
    | zero => intro iv H locs hX hS hM hz hT hi hm; exact absurd hm (by omega)
    | succ N ih =>
      have L19 := ih
      intro iv H locs hX hS hM hz hT hi hm ls hl
      obtain ⟨hi0, hi1⟩ := hi
      refine lv_iload hx hb dX6_find_19 (lv_at hl 5 rfl) ?_
      refine lv_sipush (v := 16384) hx hb dX6_find_21 (by decide) ?_
      refine lv_icmp_ge (tgt := 151) hx hb dX6_find_24 (by decide) (fun c_6 => ?_) (fun c_6 => ?_)
      · skip
        have c_6' : iv.toInt ≥ 16384 := jb_ge (rfl) ((by decide)) c_6
        refine lv_iconst (v := (-1)) hx hb dX6_find_151 (by decide) ?_
        rw [hQ]
        exact W.iret (v := (-1)) hx hb hr (fun t ht hW => ⟨⟨(-1), (), rfl, by omega, by rw [ht]; exact hX, by rw [ht]; exact hM, by rw [ht]; exact hz, by rw [ht]; exact hT⟩, by rw [ht]; exact hS.1, fun q h9 hq => by rw [ht]; exact hS.2.1 q h9 hq⟩) hS.2.2 dX6_find_152
      · skip
        have c_6' : iv.toInt < 16384 := jb_ge_n (rfl) ((by decide)) c_6
        refine lv_iload hx hb dX6_find_27 (lv_at hl 4 rfl) ?_
        refine lv_iload hx hb dX6_find_29 (lv_at hl 5 rfl) ?_
        refine lv_iadd hx hb dX6_find_31 ?_
        refine lv_topi (fun z_7 ez_7 => ?_)
        refine lv_sipush (v := 16383) hx hb dX6_find_32 (by decide) ?_
        refine lv_iand hx hb dX6_find_35 ?_
        refine lv_topi (fun z_8 ez_8 => ?_)
        have hz_8 : 0 ≤ z_8.toInt ∧ z_8.toInt ≤ 16383 := by rw [ez_8]; exact jb_and z_7 (m := 16383) (k := 14) (by decide) (by decide)
        refine lv_istore (lv' := [(7, .int z_8), (0, .ref a), (1, .long stem), (3, .int tk), (4, .int ma), (5, .int z_5), (6, .int iv)]) hx hb dX6_find_36 hl (by decide) rfl (fun ls hl => ?_)
        refine lv_aload_n hx hb dX6_find_38 rfl (lv_at hl 1 rfl) ?_
        obtain ⟨stems_9, primes_9, slots_9, count_9, f_stems_9, f_primes_9, f_slots_9, hat_a_9, hat_stems_9, hat_primes_9, hat_slots_9, hg_stems_9, hg_primes_9, hg_slots_9, hf0_9, hf1_9, hall0_9⟩ := (hB8 _ _ _ _).mp (hX.1 a 8 0 hg_a (by omega) hn_a)
        refine va_get (D := (dC, dI)) (ci := 8) (v := .ref slots_9) (C := RX6) (T := TX6) (N := 4) hx hb hts hin_8 hown hK (jp_one hat_a_9) 0 rfl rfl 2 (by decide) (hts (.fieldLink RX6 19 "ProofServer$Names" "slots" "[I") (by decide +kernel)) (fun _ h9 => h9) rfl dX6_find_39 ?_
        refine lv_iload hx hb dX6_find_42 (lv_at hl 0 rfl) ?_
        have hiz_10 : _ := jb_in (i := z_8) (n := 16384) (rfl) (by omega) (by omega)
        have haz_10 := hall0_9 _ (jb_cl_lt (i := z_8) (n := 16384) (rfl) (by omega) (by omega))
        refine va_iald hx hb hK (jp_one hat_slots_9) 0 1 rfl rfl hiz_10 dX6_find_44 ?_
        refine lv_topi (fun z_10 ez_10 => ?_)
        rw [← ez_10] at haz_10
        refine lv_iconst (v := 1) hx hb dX6_find_45 (by decide) ?_
        refine lv_isub hx hb dX6_find_46 ?_
        refine lv_topi (fun z_11 ez_11 => ?_)
        have hz_11 : z_11.toInt = z_10.toInt - 1 := by rw [ez_11]; exact jb_isub (rfl) ((by decide)) (by omega) (by omega)
        refine lv_istore (lv' := [(8, .int z_11), (7, .int z_8), (0, .ref a), (1, .long stem), (3, .int tk), (4, .int ma), (5, .int z_5), (6, .int iv)]) hx hb dX6_find_47 hl (by decide) rfl (fun ls hl => ?_)
        refine lv_iload hx hb dX6_find_49 (lv_at hl 0 rfl) ?_
        refine lv_if_ge (tgt := 119) hx hb dX6_find_51 (by decide) (fun c_12 => ?_) (fun c_12 => ?_)
        · skip
          have c_12' : z_11.toInt ≥ 0 := jb_ge (rfl) ((by decide)) c_12
          refine lv_aload_n hx hb dX6_find_119 rfl (lv_at hl 2 rfl) ?_
          refine va_get (D := (dC, dI)) (ci := 8) (v := .ref stems_9) (C := RX6) (T := TX6) (N := 4) hx hb hts hin_8 hown hK (jp_one hat_a_9) 0 rfl rfl 0 (by decide) (hts (.fieldLink RX6 11 "ProofServer$Names" "stems" "[J") (by decide +kernel)) (fun _ h9 => h9) rfl dX6_find_120 ?_
          refine lv_iload hx hb dX6_find_123 (lv_at hl 0 rfl) ?_
          have hiz_13 : _ := jb_in (i := z_11) (n := 8192) (rfl) (by omega) (by omega)
          refine va_lald hx hb hK (jp_one hat_stems_9) 0 2 rfl rfl hiz_13 dX6_find_125 ?_
          refine lv_topl (fun z_13 ez_13 => ?_)
          refine lv_lload_n hx hb dX6_find_126 rfl (lv_at hl 3 rfl) ?_
          refine W.lcmp hx hb dX6_find_127 ?_
          refine lv_topi (fun z_14 ez_14 => ?_)
          have hz_14 := jb_lcmp ez_14
          refine lv_if_ne (tgt := 145) hx hb dX6_find_128 (by decide) (fun c_15 => ?_) (fun c_15 => ?_)
          · skip
            have c_15' : z_14.toInt ≠ 0 := jb_ne (rfl) ((by decide)) c_15
            obtain ⟨z_16, ez_16⟩ : ∃ y : Int32, y = iv + 1 := ⟨_, rfl⟩
            refine lv_iinc (v := z_16) (lv' := [(6, .int z_16), (8, .int z_11), (7, .int z_8), (0, .ref a), (1, .long stem), (3, .int tk), (4, .int ma), (5, .int z_5)]) hx hb dX6_find_145 hl (k := 7) rfl (by rw [ez_16]; rfl) (by decide) rfl (fun ls hl => ?_)
            have hz_16 : z_16.toInt = iv.toInt + 1 := by rw [ez_16]; exact jb_iadd (rfl) (by decide) (by omega) (by omega)
            refine lv_goto (tgt := 19) hx hb dX6_find_148 (by decide) ?_
            exact L19 z_16 _ _ hX hS hM hz hT (⟨by omega, by omega⟩) (by omega) _ (lv_sub hl [3, 4, 5, 6, 7, 0] rfl)
          · skip
            have c_15' : z_14.toInt = 0 := jb_ne_n (rfl) ((by decide)) c_15
            refine lv_aload_n hx hb dX6_find_131 rfl (lv_at hl 2 rfl) ?_
            refine va_get (D := (dC, dI)) (ci := 8) (v := .ref primes_9) (C := RX6) (T := TX6) (N := 4) hx hb hts hin_8 hown hK (jp_one hat_a_9) 0 rfl rfl 1 (by decide) (hts (.fieldLink RX6 15 "ProofServer$Names" "primes" "[I") (by decide +kernel)) (fun _ h9 => h9) rfl dX6_find_132 ?_
            refine lv_iload hx hb dX6_find_135 (lv_at hl 0 rfl) ?_
            have hiz_17 : _ := jb_in (i := z_11) (n := 8192) (rfl) (by omega) (by omega)
            refine va_iald hx hb hK (jp_one hat_primes_9) 0 1 rfl rfl hiz_17 dX6_find_137 ?_
            refine lv_topi (fun z_17 ez_17 => ?_)
            refine lv_iload_n hx hb dX6_find_138 rfl (lv_at hl 4 rfl) ?_
            refine lv_icmp_ne (tgt := 145) hx hb dX6_find_139 (by decide) (fun c_18 => ?_) (fun c_18 => ?_)
            · skip
              have c_18' : z_17.toInt ≠ tk.toInt := jb_ne (rfl) (rfl) c_18
              obtain ⟨z_19, ez_19⟩ : ∃ y : Int32, y = iv + 1 := ⟨_, rfl⟩
              refine lv_iinc (v := z_19) (lv' := [(6, .int z_19), (8, .int z_11), (7, .int z_8), (0, .ref a), (1, .long stem), (3, .int tk), (4, .int ma), (5, .int z_5)]) hx hb dX6_find_145 hl (k := 7) rfl (by rw [ez_19]; rfl) (by decide) rfl (fun ls hl => ?_)
              have hz_19 : z_19.toInt = iv.toInt + 1 := by rw [ez_19]; exact jb_iadd (rfl) (by decide) (by omega) (by omega)
              refine lv_goto (tgt := 19) hx hb dX6_find_148 (by decide) ?_
              exact L19 z_19 _ _ hX hS hM hz hT (⟨by omega, by omega⟩) (by omega) _ (lv_sub hl [3, 4, 5, 6, 7, 0] rfl)
            · skip
              have c_18' : z_17.toInt = tk.toInt := jb_ne_n (rfl) (rfl) c_18
              refine lv_iload hx hb dX6_find_142 (lv_at hl 0 rfl) ?_
              rw [hQ]
              exact W.iret (v := z_11) hx hb hr (fun t ht hW => ⟨⟨z_11, (), rfl, by omega, by rw [ht]; exact hX, by rw [ht]; exact hM, by rw [ht]; exact hz, by rw [ht]; exact hT⟩, by rw [ht]; exact hS.1, fun q h9 hq => by rw [ht]; exact hS.2.1 q h9 hq⟩) hS.2.2 dX6_find_144
        · skip
          have c_12' : z_11.toInt < 0 := jb_ge_n (rfl) ((by decide)) c_12
          refine lv_iload hx hb dX6_find_54 (lv_at hl 5 rfl) ?_
          refine lv_if_eq (tgt := 69) hx hb dX6_find_56 (by decide) (fun c_20 => ?_) (fun c_20 => ?_)
          · skip
            have c_20' : ma.toInt = 0 := jb_eq (rfl) ((by decide)) c_20
            refine lv_iconst (v := (-1)) hx hb dX6_find_69 (by decide) ?_
            rw [hQ]
            exact W.iret (v := (-1)) hx hb hr (fun t ht hW => ⟨⟨(-1), (), rfl, by omega, by rw [ht]; exact hX, by rw [ht]; exact hM, by rw [ht]; exact hz, by rw [ht]; exact hT⟩, by rw [ht]; exact hS.1, fun q h9 hq => by rw [ht]; exact hS.2.1 q h9 hq⟩) hS.2.2 dX6_find_70
          · skip
            have c_20' : ma.toInt ≠ 0 := jb_eq_n (rfl) ((by decide)) c_20
            refine lv_aload_n hx hb dX6_find_59 rfl (lv_at hl 2 rfl) ?_
            refine va_get (D := (dC, dI)) (ci := 8) (v := .int count_9) (C := RX6) (T := TX6) (N := 4) hx hb hts hin_8 hown hK (jp_one hat_a_9) 0 rfl rfl 3 (by decide) (hts (.fieldLink RX6 52 "ProofServer$Names" "count" "I") (by decide +kernel)) (fun _ h9 => h9) rfl dX6_find_60 ?_
            refine lv_sipush (v := 8192) hx hb dX6_find_63 (by decide) ?_
            refine lv_icmp_lt (tgt := 71) hx hb dX6_find_66 (by decide) (fun c_21 => ?_) (fun c_21 => ?_)
            · skip
              have c_21' : count_9.toInt < 8192 := jb_lt (rfl) ((by decide)) c_21
              refine lv_aload_n hx hb dX6_find_71 rfl (lv_at hl 2 rfl) ?_
              refine va_get (D := (dC, dI)) (ci := 8) (v := .ref stems_9) (C := RX6) (T := TX6) (N := 4) hx hb hts hin_8 hown hK (jp_one hat_a_9) 0 rfl rfl 0 (by decide) (hts (.fieldLink RX6 11 "ProofServer$Names" "stems" "[J") (by decide +kernel)) (fun _ h9 => h9) rfl dX6_find_72 ?_
              refine lv_aload_n hx hb dX6_find_75 rfl (lv_at hl 2 rfl) ?_
              refine va_get (D := (dC, dI)) (ci := 8) (v := .int count_9) (C := RX6) (T := TX6) (N := 4) hx hb hts hin_8 hown hK (jp_one hat_a_9) 0 rfl rfl 3 (by decide) (hts (.fieldLink RX6 52 "ProofServer$Names" "count" "I") (by decide +kernel)) (fun _ h9 => h9) rfl dX6_find_76 ?_
              refine lv_lload_n hx hb dX6_find_79 rfl (lv_at hl 3 rfl) ?_
              refine j_last (A := jA base) hx hb hK 2 hat_stems_9 (hX.2 _ _ hg_stems_9).1 hS.2.2 rfl (jb_in (i := count_9) (n := 8192) (rfl) (by omega) (by omega)) dX6_find_80 (fun H1 locs1 hat1 hsz1 hfr1 hT1 hL1 => ?_)
              have hX_220 := hX.opn a
              have hX_22 := hX_220.put hB hg_a (by omega) (jSup.own (i := 0) hg_stems_9) (by simp) hsz1 hfr1
              have hM_22 := hM.put jExt.rf hrt_a (jSup.own (i := 0) hg_stems_9) (by simp) hfr1
              have hz_22 := hsz1.trans hz
              have hT_22 := hT1.trans hT
              have hS_22 := jS_put hS hsz1 hfr1 (hX_220.2 _ _ hg_stems_9).1 hL1
              have hat_a_9_22 := hat_a_9.kept (hfr1 _ (jne hg_a hg_stems_9 (by simp)))
              have hat_primes_9_22 := hat_primes_9.kept (hfr1 _ (jne hg_primes_9 hg_stems_9 (by simp)))
              have hat_slots_9_22 := hat_slots_9.kept (hfr1 _ (jne hg_slots_9 hg_stems_9 (by simp)))
              clear hfr1 hsz1 hT1 hL1
              have hat_stems_9_22 : va_at (dC, dI) vwCl (stems_9, .inl (ca 2, 8192, .inr (.inl (vp_updL f_stems_9 count_9.toNatClampNeg stem)))) H1 := hat1
              clear hat1
              refine lv_aload_n hx hb dX6_find_81 rfl (lv_at hl 2 rfl) ?_
              refine va_get (D := (dC, dI)) (ci := 8) (v := .ref primes_9) (C := RX6) (T := TX6) (N := 4) hx hb hts hin_8 hown hK (jp_one hat_a_9_22) 0 rfl rfl 1 (by decide) (hts (.fieldLink RX6 15 "ProofServer$Names" "primes" "[I") (by decide +kernel)) (fun _ h9 => h9) rfl dX6_find_82 ?_
              refine lv_aload_n hx hb dX6_find_85 rfl (lv_at hl 2 rfl) ?_
              refine va_get (D := (dC, dI)) (ci := 8) (v := .int count_9) (C := RX6) (T := TX6) (N := 4) hx hb hts hin_8 hown hK (jp_one hat_a_9_22) 0 rfl rfl 3 (by decide) (hts (.fieldLink RX6 52 "ProofServer$Names" "count" "I") (by decide +kernel)) (fun _ h9 => h9) rfl dX6_find_86 ?_
              refine lv_iload_n hx hb dX6_find_89 rfl (lv_at hl 4 rfl) ?_
              refine j_iast (A := jA base) hx hb hK 1 hat_primes_9_22 (hX_22.2 _ _ hg_primes_9).1 hS_22.2.2 rfl (jb_in (i := count_9) (n := 8192) (rfl) (by omega) (by omega)) dX6_find_90 (fun H1 locs1 hat1 hsz1 hfr1 hT1 hL1 => ?_)
              have hX_23 := hX_22.put hB hg_a (by omega) (jSup.own (i := 1) hg_primes_9) (by simp) hsz1 hfr1
              have hM_23 := hM_22.put jExt.rf hrt_a (jSup.own (i := 1) hg_primes_9) (by simp) hfr1
              have hz_23 := hsz1.trans hz_22
              have hT_23 := hT1.trans hT_22
              have hS_23 := jS_put hS_22 hsz1 hfr1 (hX_22.2 _ _ hg_primes_9).1 hL1
              have hat_a_9_22_23 := hat_a_9_22.kept (hfr1 _ (jne hg_a hg_primes_9 (by simp)))
              have hat_stems_9_22_23 := hat_stems_9_22.kept (hfr1 _ (jne hg_stems_9 hg_primes_9 (by simp)))
              have hat_slots_9_22_23 := hat_slots_9_22.kept (hfr1 _ (jne hg_slots_9 hg_primes_9 (by simp)))
              clear hfr1 hsz1 hT1 hL1
              have hat_primes_9_23 : va_at (dC, dI) vwCl (primes_9, .inl (ca 1, 8192, .inl (upd f_primes_9 count_9.toNatClampNeg tk))) H1 := hat1
              clear hat1
              refine lv_aload_n hx hb dX6_find_91 rfl (lv_at hl 2 rfl) ?_
              refine lv_dup hx hb dX6_find_92 rfl ?_
              refine va_get (D := (dC, dI)) (ci := 8) (v := .int count_9) (C := RX6) (T := TX6) (N := 4) hx hb hts hin_8 hown hK (jp_one hat_a_9_22_23) 0 rfl rfl 3 (by decide) (hts (.fieldLink RX6 52 "ProofServer$Names" "count" "I") (by decide +kernel)) (fun _ h9 => h9) rfl dX6_find_93 ?_
              refine lv_iconst (v := 1) hx hb dX6_find_96 (by decide) ?_
              refine lv_iadd hx hb dX6_find_97 ?_
              refine lv_topi (fun z_24 ez_24 => ?_)
              have hz_24 : z_24.toInt = count_9.toInt + 1 := by rw [ez_24]; exact jb_iadd (rfl) ((by decide)) (by omega) (by omega)
              refine j_put (D := (dC, dI)) (ci := 8) (v := .int z_24) (ty := .int) (C := RX6) (T := TX6) (N := 4) (A := jA base) hx hb hts hin_8 tyX6 tyX6_ok nmX6 hown hK hat_a_9_22_23 (hX_23.2 _ _ hg_a).1 hS_23.2.2 rfl 3 (by decide) (hts (.fieldLink RX6 52 "ProofServer$Names" "count" "I") (by decide +kernel)) (fun _ h9 => h9) rfl (by decide +kernel) rfl rfl (Nat.le_of_ble_eq_true rfl) dX6_find_98 (fun H1 locs1 hat1 hsz1 hfr1 hT1 hL1 => ?_)
              have hX_26 := hX_23.put hB hg_a (by omega) jSup.root (by simp) hsz1 hfr1
              have hM_26 := hM_23.put jExt.rf hrt_a jSup.root (by simp) hfr1
              have hz_26 := hsz1.trans hz_23
              have hT_26 := hT1.trans hT_23
              have hS_26 := jS_put hS_23 hsz1 hfr1 (hX_23.2 _ _ hg_a).1 hL1
              have hat_stems_9_22_23_26 := hat_stems_9_22_23.kept (hfr1 _ (jne hg_stems_9 hg_a (by simp)))
              have hat_primes_9_23_26 := hat_primes_9_23.kept (hfr1 _ (jne hg_primes_9 hg_a (by simp)))
              have hat_slots_9_22_23_26 := hat_slots_9_22_23.kept (hfr1 _ (jne hg_slots_9 hg_a (by simp)))
              clear hfr1 hsz1 hT1 hL1
              have hat_a_26 : va_at (dC, dI) vwCl (a, .inr (8, [.ref stems_9, .ref primes_9, .ref slots_9, .int z_24])) H1 := hat1
              clear hat1
              refine lv_aload_n hx hb dX6_find_101 rfl (lv_at hl 2 rfl) ?_
              refine va_get (D := (dC, dI)) (ci := 8) (v := .ref slots_9) (C := RX6) (T := TX6) (N := 4) hx hb hts hin_8 hown hK (jp_one hat_a_26) 0 rfl rfl 2 (by decide) (hts (.fieldLink RX6 19 "ProofServer$Names" "slots" "[I") (by decide +kernel)) (fun _ h9 => h9) rfl dX6_find_102 ?_
              refine lv_iload hx hb dX6_find_105 (lv_at hl 1 rfl) ?_
              refine lv_aload_n hx hb dX6_find_107 rfl (lv_at hl 2 rfl) ?_
              refine va_get (D := (dC, dI)) (ci := 8) (v := .int z_24) (C := RX6) (T := TX6) (N := 4) hx hb hts hin_8 hown hK (jp_one hat_a_26) 0 rfl rfl 3 (by decide) (hts (.fieldLink RX6 52 "ProofServer$Names" "count" "I") (by decide +kernel)) (fun _ h9 => h9) rfl dX6_find_108 ?_
              refine j_iast (A := jA base) hx hb hK 1 hat_slots_9_22_23_26 (hX_26.2 _ _ hg_slots_9).1 hS_26.2.2 rfl (jb_in (i := z_8) (n := 16384) (rfl) (by omega) (by omega)) dX6_find_111 (fun H1 locs1 hat1 hsz1 hfr1 hT1 hL1 => ?_)
              have hX_27 := hX_26.put hB hg_a (by omega) (jSup.own (i := 2) hg_slots_9) (by simp) hsz1 hfr1
              have hM_27 := hM_26.put jExt.rf hrt_a (jSup.own (i := 2) hg_slots_9) (by simp) hfr1
              have hz_27 := hsz1.trans hz_26
              have hT_27 := hT1.trans hT_26
              have hS_27 := jS_put hS_26 hsz1 hfr1 (hX_26.2 _ _ hg_slots_9).1 hL1
              have hat_a_26_27 := hat_a_26.kept (hfr1 _ (jne hg_a hg_slots_9 (by simp)))
              have hat_stems_9_22_23_26_27 := hat_stems_9_22_23_26.kept (hfr1 _ (jne hg_stems_9 hg_slots_9 (by simp)))
              have hat_primes_9_23_26_27 := hat_primes_9_23_26.kept (hfr1 _ (jne hg_primes_9 hg_slots_9 (by simp)))
              clear hfr1 hsz1 hT1 hL1
              have hat_slots_9_27 : va_at (dC, dI) vwCl (slots_9, .inl (ca 1, 16384, .inl (upd f_slots_9 z_8.toNatClampNeg z_24))) H1 := hat1
              clear hat1
              have hallslots_9_27 : ∀ j, j < 16384 → 0 ≤ ((upd f_slots_9 z_8.toNatClampNeg z_24) j).toInt ∧ ((upd f_slots_9 z_8.toNatClampNeg z_24) j).toInt ≤ z_24.toInt := jb_all (P := fun z => 0 ≤ z.toInt ∧ z.toInt ≤ z_24.toInt) (fun j hj => by have h9 := hall0_9 j hj; omega) (by omega)
              refine lv_aload_n hx hb dX6_find_112 rfl (lv_at hl 2 rfl) ?_
              refine va_get (D := (dC, dI)) (ci := 8) (v := .int z_24) (C := RX6) (T := TX6) (N := 4) hx hb hts hin_8 hown hK (jp_one hat_a_26_27) 0 rfl rfl 3 (by decide) (hts (.fieldLink RX6 52 "ProofServer$Names" "count" "I") (by decide +kernel)) (fun _ h9 => h9) rfl dX6_find_113 ?_
              refine lv_iconst (v := 1) hx hb dX6_find_116 (by decide) ?_
              refine lv_isub hx hb dX6_find_117 ?_
              refine lv_topi (fun z_28 ez_28 => ?_)
              have hz_28 : z_28.toInt = z_24.toInt - 1 := by rw [ez_28]; exact jb_isub (rfl) ((by decide)) (by omega) (by omega)
              have hX_29 := hX_27.cls hg_a ((hB8 0 _ _ _).mpr ⟨stems_9, primes_9, slots_9, z_24, (vp_updL f_stems_9 count_9.toNatClampNeg stem), (upd f_primes_9 count_9.toNatClampNeg tk), (upd f_slots_9 z_8.toNatClampNeg z_24), hat_a_26_27, hat_stems_9_22_23_26_27, hat_primes_9_23_26_27, hat_slots_9_27, hg_stems_9, hg_primes_9, hg_slots_9, by first | omega | assumption | (simp; done) | exact Or.inl rfl | exact Or.inr rfl, by first | omega | assumption | (simp; done) | exact Or.inl rfl | exact Or.inr rfl, fun j hj => by have h9 := hallslots_9_27 j hj; omega⟩)
              rw [hQ]
              exact W.iret (v := z_28) hx hb hr (fun t ht hW => ⟨⟨z_28, (), rfl, by omega, by rw [ht]; exact hX_29, by rw [ht]; exact hM_27, by rw [ht]; exact hz_27, by rw [ht]; exact hT_27⟩, by rw [ht]; exact hS_27.1, fun q h9 hq => by rw [ht]; exact hS_27.2.1 q h9 hq⟩) hS_27.2.2 dX6_find_118
            · skip
              have c_21' : count_9.toInt ≥ 8192 := jb_lt_n (rfl) ((by decide)) c_21
              refine lv_iconst (v := (-1)) hx hb dX6_find_69 (by decide) ?_
              rw [hQ]
              exact W.iret (v := (-1)) hx hb hr (fun t ht hW => ⟨⟨(-1), (), rfl, by omega, by rw [ht]; exact hX, by rw [ht]; exact hM, by rw [ht]; exact hz, by rw [ht]; exact hT⟩, by rw [ht]; exact hS.1, fun q h9 hq => by rw [ht]; exact hS.2.1 q h9 hq⟩) hS.2.2 dX6_find_70
  exact L19 (16384 - (0 : Int32).toInt : Int).toNat.succ 0 _ _ hX hS hM hz hT (⟨by omega, by omega⟩) (by omega) _ (lv_sub hl [2, 3, 4, 5, 1, 0] rfl)
