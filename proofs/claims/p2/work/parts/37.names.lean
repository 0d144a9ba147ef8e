abbrev cX6_numberOf : ByteArray := prog_8_method_2_code
def yX6_numberOf : MethodName := ⟨RX6, "numberOf", "([IIIZ)I"⟩
def wsX6_numberOf : List Cond := .code yX6_numberOf cX6_numberOf 10 (some .int) :: ([.static yX11_isLetter, .initialized RX11, .code yX11_isLetter cX11_isLetter 1 (some .boolean), .methodLink RX6 42 yX6_signOf, .static yX6_signOf, .initialized RX6, .code yX6_signOf cX6_signOf 1 (some .int), .methodLink RX6 46 yX6_find, .instanceMethod yX6_find, .selects RX6 yX6_find yX6_find, .code yX6_find cX6_find 9 (some .int), .constantLong RX6 50 (-7046029254386353131), .fieldLink RX6 19 "ProofServer$Names" "slots" "[I", .fieldLink RX6 52 "ProofServer$Names" "count" "I", .fieldLink RX6 11 "ProofServer$Names" "stems" "[J", .fieldLink RX6 15 "ProofServer$Names" "primes" "[I"] ++ wsX60)
set_option maxRecDepth 20000 in
theorem ggX6_numberOf_X11_isLetter : GoodIn wsX6_numberOf wsX11_isLetter := goodIn_r _ [3] (by decide +kernel) (by decide +kernel)
set_option maxRecDepth 20000 in
theorem gX6_numberOf_X11_isLetter_n38 : GoodIn wsX6_numberOf (wsX11_isLetter) := ggX6_numberOf_X11_isLetter
set_option maxRecDepth 20000 in
theorem ggX6_numberOf_X6_signOf : GoodIn wsX6_numberOf wsX6_signOf := goodIn_r _ [7] (by decide +kernel) (by decide +kernel)
set_option maxRecDepth 20000 in
theorem gX6_numberOf_X6_signOf : GoodIn wsX6_numberOf (va_wsS RX6 42 yX6_signOf wsX6_signOf) := goodIn_app (goodIn_of _ (by decide +kernel)) ggX6_numberOf_X6_signOf
set_option maxRecDepth 20000 in
theorem ggX6_numberOf_X6_find : GoodIn wsX6_numberOf wsX6_find := goodIn_r _ [11, 12, 13, 14, 15, 16, 17, 18, 19, 20] (by decide +kernel) (by decide +kernel)
set_option maxRecDepth 20000 in
theorem gX6_numberOf_X6_find : GoodIn wsX6_numberOf (wsV RX6 46 RX6 yX6_find wsX6_find) := goodIn_app (goodIn_of _ (by decide +kernel)) ggX6_numberOf_X6_find
theorem dX6_numberOf_0 : decode cX6_numberOf 0 = .ok (.iload_n 2, 1) := by decide +kernel
theorem dX6_numberOf_1 : decode cX6_numberOf 1 = .ok (.ifCond .lt 31, 3) := by decide +kernel
theorem dX6_numberOf_4 : decode cX6_numberOf 4 = .ok (.iload_n 3, 1) := by decide +kernel
theorem dX6_numberOf_5 : decode cX6_numberOf 5 = .ok (.aload_n 1, 1) := by decide +kernel
theorem dX6_numberOf_6 : decode cX6_numberOf 6 = .ok (.arraylength, 1) := by decide +kernel
theorem dX6_numberOf_7 : decode cX6_numberOf 7 = .ok (.if_icmp .gt 25, 3) := by decide +kernel
theorem dX6_numberOf_10 : decode cX6_numberOf 10 = .ok (.iload_n 2, 1) := by decide +kernel
theorem dX6_numberOf_11 : decode cX6_numberOf 11 = .ok (.iload_n 3, 1) := by decide +kernel
theorem dX6_numberOf_12 : decode cX6_numberOf 12 = .ok (.if_icmp .ge 20, 3) := by decide +kernel
theorem dX6_numberOf_15 : decode cX6_numberOf 15 = .ok (.iload_n 3, 1) := by decide +kernel
theorem dX6_numberOf_16 : decode cX6_numberOf 16 = .ok (.iload_n 2, 1) := by decide +kernel
theorem dX6_numberOf_17 : decode cX6_numberOf 17 = .ok (.isub, 1) := by decide +kernel
theorem dX6_numberOf_18 : decode cX6_numberOf 18 = .ok (.bipush 10, 2) := by decide +kernel
theorem dX6_numberOf_20 : decode cX6_numberOf 20 = .ok (.if_icmp .gt 12, 3) := by decide +kernel
theorem dX6_numberOf_23 : decode cX6_numberOf 23 = .ok (.aload_n 1, 1) := by decide +kernel
theorem dX6_numberOf_24 : decode cX6_numberOf 24 = .ok (.iload_n 2, 1) := by decide +kernel
theorem dX6_numberOf_25 : decode cX6_numberOf 25 = .ok (.iaload, 1) := by decide +kernel
theorem dX6_numberOf_26 : decode cX6_numberOf 26 = .ok (.invokestatic 38, 3) := by decide +kernel
theorem dX6_numberOf_29 : decode cX6_numberOf 29 = .ok (.ifCond .ne 5, 3) := by decide +kernel
theorem dX6_numberOf_32 : decode cX6_numberOf 32 = .ok (.iconst (-1), 1) := by decide +kernel
theorem dX6_numberOf_33 : decode cX6_numberOf 33 = .ok (.ireturn, 1) := by decide +kernel
theorem dX6_numberOf_34 : decode cX6_numberOf 34 = .ok (.iload_n 3, 1) := by decide +kernel
theorem dX6_numberOf_35 : decode cX6_numberOf 35 = .ok (.istore 5, 2) := by decide +kernel
theorem dX6_numberOf_37 : decode cX6_numberOf 37 = .ok (.iload 5, 2) := by decide +kernel
theorem dX6_numberOf_39 : decode cX6_numberOf 39 = .ok (.iload_n 2, 1) := by decide +kernel
theorem dX6_numberOf_40 : decode cX6_numberOf 40 = .ok (.if_icmp .le 20, 3) := by decide +kernel
theorem dX6_numberOf_43 : decode cX6_numberOf 43 = .ok (.aload_n 1, 1) := by decide +kernel
theorem dX6_numberOf_44 : decode cX6_numberOf 44 = .ok (.iload 5, 2) := by decide +kernel
theorem dX6_numberOf_46 : decode cX6_numberOf 46 = .ok (.iconst 1, 1) := by decide +kernel
theorem dX6_numberOf_47 : decode cX6_numberOf 47 = .ok (.isub, 1) := by decide +kernel
theorem dX6_numberOf_48 : decode cX6_numberOf 48 = .ok (.iaload, 1) := by decide +kernel
theorem dX6_numberOf_49 : decode cX6_numberOf 49 = .ok (.bipush 39, 2) := by decide +kernel
theorem dX6_numberOf_51 : decode cX6_numberOf 51 = .ok (.if_icmp .ne 9, 3) := by decide +kernel
theorem dX6_numberOf_54 : decode cX6_numberOf 54 = .ok (.iinc 5 (-1), 3) := by decide +kernel
theorem dX6_numberOf_57 : decode cX6_numberOf 57 = .ok (.goto (-20), 3) := by decide +kernel
theorem dX6_numberOf_60 : decode cX6_numberOf 60 = .ok (.lconst 1, 1) := by decide +kernel
theorem dX6_numberOf_61 : decode cX6_numberOf 61 = .ok (.lstore 6, 2) := by decide +kernel
theorem dX6_numberOf_63 : decode cX6_numberOf 63 = .ok (.iload 5, 2) := by decide +kernel
theorem dX6_numberOf_65 : decode cX6_numberOf 65 = .ok (.iconst 1, 1) := by decide +kernel
theorem dX6_numberOf_66 : decode cX6_numberOf 66 = .ok (.isub, 1) := by decide +kernel
theorem dX6_numberOf_67 : decode cX6_numberOf 67 = .ok (.istore 8, 2) := by decide +kernel
theorem dX6_numberOf_69 : decode cX6_numberOf 69 = .ok (.iload 8, 2) := by decide +kernel
theorem dX6_numberOf_71 : decode cX6_numberOf 71 = .ok (.iload_n 2, 1) := by decide +kernel
theorem dX6_numberOf_72 : decode cX6_numberOf 72 = .ok (.if_icmp .lt 36, 3) := by decide +kernel
theorem dX6_numberOf_75 : decode cX6_numberOf 75 = .ok (.aload_n 1, 1) := by decide +kernel
theorem dX6_numberOf_76 : decode cX6_numberOf 76 = .ok (.iload 8, 2) := by decide +kernel
theorem dX6_numberOf_78 : decode cX6_numberOf 78 = .ok (.iaload, 1) := by decide +kernel
theorem dX6_numberOf_79 : decode cX6_numberOf 79 = .ok (.invokestatic 42, 3) := by decide +kernel
theorem dX6_numberOf_82 : decode cX6_numberOf 82 = .ok (.istore 9, 2) := by decide +kernel
theorem dX6_numberOf_84 : decode cX6_numberOf 84 = .ok (.iload 9, 2) := by decide +kernel
theorem dX6_numberOf_86 : decode cX6_numberOf 86 = .ok (.ifCond .ge 5, 3) := by decide +kernel
theorem dX6_numberOf_89 : decode cX6_numberOf 89 = .ok (.iconst (-1), 1) := by decide +kernel
theorem dX6_numberOf_90 : decode cX6_numberOf 90 = .ok (.ireturn, 1) := by decide +kernel
theorem dX6_numberOf_91 : decode cX6_numberOf 91 = .ok (.lload 6, 2) := by decide +kernel
theorem dX6_numberOf_93 : decode cX6_numberOf 93 = .ok (.bipush 6, 2) := by decide +kernel
theorem dX6_numberOf_95 : decode cX6_numberOf 95 = .ok (.lshl, 1) := by decide +kernel
theorem dX6_numberOf_96 : decode cX6_numberOf 96 = .ok (.iload 9, 2) := by decide +kernel
theorem dX6_numberOf_98 : decode cX6_numberOf 98 = .ok (.i2l, 1) := by decide +kernel
theorem dX6_numberOf_99 : decode cX6_numberOf 99 = .ok (.lor, 1) := by decide +kernel
theorem dX6_numberOf_100 : decode cX6_numberOf 100 = .ok (.lstore 6, 2) := by decide +kernel
theorem dX6_numberOf_102 : decode cX6_numberOf 102 = .ok (.iinc 8 (-1), 3) := by decide +kernel
theorem dX6_numberOf_105 : decode cX6_numberOf 105 = .ok (.goto (-36), 3) := by decide +kernel
theorem dX6_numberOf_108 : decode cX6_numberOf 108 = .ok (.aload_n 0, 1) := by decide +kernel
theorem dX6_numberOf_109 : decode cX6_numberOf 109 = .ok (.lload 6, 2) := by decide +kernel
theorem dX6_numberOf_111 : decode cX6_numberOf 111 = .ok (.iload_n 3, 1) := by decide +kernel
theorem dX6_numberOf_112 : decode cX6_numberOf 112 = .ok (.iload 5, 2) := by decide +kernel
theorem dX6_numberOf_114 : decode cX6_numberOf 114 = .ok (.isub, 1) := by decide +kernel
theorem dX6_numberOf_115 : decode cX6_numberOf 115 = .ok (.iload 4, 2) := by decide +kernel
theorem dX6_numberOf_117 : decode cX6_numberOf 117 = .ok (.invokevirtual 46, 3) := by decide +kernel
theorem dX6_numberOf_120 : decode cX6_numberOf 120 = .ok (.ireturn, 1) := by decide +kernel
set_option maxHeartbeats 4000000 in
set_option maxRecDepth 20000 in
theorem tX6_numberOf (l : Launch) (dC : Nat → ClassId) (dI : Nat → Nat → Nat) (ca : Nat → ClassId) (base : Nat) (B : jF) (hB : jBok B) (hB8 : ∀ n G a H, B 8 n G a H ↔ jB8 dC dI ca G a H) (hB101 : ∀ n G a H, B 101 n G a H ↔ ∃ f : Nat → Int32, va_at (dC, dI) vwCl (a, .inl (ca 1, n, .inl f)) H) (G0 : jT) (X : List Nat) (H0 : Heap) (a un : Nat) (fr to ma : Int32) (nu : Nat) : Met l yX6_numberOf wsX6_numberOf ({ frames := 1, cells := 0, slots := 0, locals := 60 }) (va_Pc [.ref a, .ref un, .int fr, .int to, .int ma] (fun U => U.heap = H0 ∧ jX B base G0 X H0 ∧ jG dC dI ca base U ∧ G0 a = some (8, 0) ∧ a ∉ X ∧ G0 un = some (101, nu) ∧ un ∉ X ∧ (nu < 2147483648))) (va_Qi (S := Unit) (fun r _ => -1 ≤ r.toInt ∧ r.toInt < 8192) (fun _ t => jX B base G0 X t.heap ∧ jModP G0 (fun r => r = a) H0 t.heap ∧ t.heap.size = H0.size ∧ jTot t.heap = jTot H0) (jA base)) 0 0 (jA base) := by
  refine Met.ofW (cc := cX6_numberOf) (maxL := 10) (ret := (some .int)) (by decide) rfl ?_
  intro p e s m args below meth c s₁ Bd hml hv
  obtain ⟨rfl, hH0, hX, hG, hg_a, hn_a, hg_un, hn_un, hnu⟩ := hv
  have hK := hG.1
  have hx := Bd.exec
  have hb := Bd.bytes
  have hr := Bd.returns
  have hts := atoms_spec (ws := wsX6_numberOf) Bd.pre
  have hown : s.vm.findClass RX6 = some m.cls := findClass_of_methodNamed Bd.named
  have hlocks := Bd.notSynchronized
  obtain ⟨Q, hQ⟩ : ∃ Q, Q = MQ below (va_Qi (S := Unit) (fun r _ => -1 ≤ r.toInt ∧ r.toInt < 8192) (fun _ t => jX B base G0 X t.heap ∧ jModP G0 (fun r => r = a) H0 t.heap ∧ t.heap.size = H0.size ∧ jTot t.heap = jTot H0) (jA base)) ([.ref a, .ref un, .int fr, .int to, .int ma] : List Value).toArray s 0 0 (jA base) := ⟨_, rfl⟩
  rw [← hQ]
  have hl := lv_entry ([.ref a, .ref un, .int fr, .int to, .int ma]) (n := 10) (Nat.le_of_ble_eq_true rfl)
  rw [lg_entry_eq]
  generalize (lg_sl ([.ref a, .ref un, .int fr, .int to, .int ma]) ++ List.replicate (10 - (lg_sl ([.ref a, .ref un, .int fr, .int to, .int ma])).length) Slot.unset).toArray = ls at hl ⊢
  have hl : lv_has ls 10 [(0, .ref a), (1, .ref un), (2, .int fr), (3, .int to), (4, .int ma)] := hl
  generalize hR : (headSpec wsX6_numberOf ({ frames := 1, cells := 0, slots := 0, locals := 60 })).room = R
  subst hH0
  have hS : va_S (jA base) s.heap s.heap [] := va_S.rf
  have hM : jModP G0 (fun r => r = a) s.heap s.heap := jModP.rf
  have hz : s.heap.size = s.heap.size := rfl
  have hT : jTot s.heap = jTot s.heap := rfl
  have hlt_a := hX.2 _ _ hg_a
  have hrt_a : jRoot G0 a := ⟨_, _, hg_a, by omega⟩
  have hlt_un := hX.2 _ _ hg_un
  have hrt_un : jRoot G0 un := ⟨_, _, hg_un, by omega⟩
  have hkm1 : ((-1) : Int32).toInt = (-1) := by decide
  have hk0 : (0 : Int32).toInt = 0 := by decide
  have hk1 : (1 : Int32).toInt = 1 := by decide
  have hk6 : (6 : Int32).toInt = 6 := by decide
  have hk10 : (10 : Int32).toInt = 10 := by decide
  have hk39 : (39 : Int32).toInt = 39 := by decide
  refine lv_iload_n hx hb dX6_numberOf_0 rfl (lv_at hl 2 rfl) ?_
  refine lv_if_lt (tgt := 32) hx hb dX6_numberOf_1 (by decide) (fun c_1 => ?_) (fun c_1 => ?_)
  · skip
    have c_1' : fr.toInt < 0 := jb_lt (rfl) ((by decide)) c_1
    refine lv_iconst (v := (-1)) hx hb dX6_numberOf_32 (by decide) ?_
    rw [hQ]
    exact W.iret (v := (-1)) hx hb hr (fun t ht hW => ⟨⟨(-1), (), rfl, by omega, by rw [ht]; try exact hX, by rw [ht]; try exact hM, by rw [ht]; try exact hz, by rw [ht]; try exact hT⟩, by rw [ht]; try exact hS.1, fun q h9 hq => by rw [ht]; try exact hS.2.1 q h9 hq⟩) hS.2.2 dX6_numberOf_33
  · skip
    have c_1' : fr.toInt ≥ 0 := jb_lt_n (rfl) ((by decide)) c_1
    refine lv_iload_n hx hb dX6_numberOf_4 rfl (lv_at hl 3 rfl) ?_
    refine lv_aload_n hx hb dX6_numberOf_5 rfl (lv_at hl 1 rfl) ?_
    obtain ⟨f_un_3, hat_un_3⟩ := (hB101 _ _ _ _).mp (hX.1 un 101 nu hg_un (by omega) hn_un)
    refine va_alen (v := Int32.ofNat nu) hx hb hK (jp_one hat_un_3) 0 1 rfl rfl rfl dX6_numberOf_6 ?_
    refine lv_topi (fun z_2 ez_2 => ?_)
    have hz_2 : z_2.toInt = nu := by rw [ez_2]; exact jb_nat (by omega)
    refine lv_icmp_gt (tgt := 32) hx hb dX6_numberOf_7 (by decide) (fun c_4 => ?_) (fun c_4 => ?_)
    · skip
      have c_4' : to.toInt > z_2.toInt := jb_gt (rfl) (rfl) c_4
      refine lv_iconst (v := (-1)) hx hb dX6_numberOf_32 (by decide) ?_
      rw [hQ]
      exact W.iret (v := (-1)) hx hb hr (fun t ht hW => ⟨⟨(-1), (), rfl, by omega, by rw [ht]; try exact hX, by rw [ht]; try exact hM, by rw [ht]; try exact hz, by rw [ht]; try exact hT⟩, by rw [ht]; try exact hS.1, fun q h9 hq => by rw [ht]; try exact hS.2.1 q h9 hq⟩) hS.2.2 dX6_numberOf_33
    · skip
      have c_4' : to.toInt ≤ z_2.toInt := jb_gt_n (rfl) (rfl) c_4
      refine lv_iload_n hx hb dX6_numberOf_10 rfl (lv_at hl 2 rfl) ?_
      refine lv_iload_n hx hb dX6_numberOf_11 rfl (lv_at hl 3 rfl) ?_
      refine lv_icmp_ge (tgt := 32) hx hb dX6_numberOf_12 (by decide) (fun c_5 => ?_) (fun c_5 => ?_)
      · skip
        have c_5' : fr.toInt ≥ to.toInt := jb_ge (rfl) (rfl) c_5
        refine lv_iconst (v := (-1)) hx hb dX6_numberOf_32 (by decide) ?_
        rw [hQ]
        exact W.iret (v := (-1)) hx hb hr (fun t ht hW => ⟨⟨(-1), (), rfl, by omega, by rw [ht]; try exact hX, by rw [ht]; try exact hM, by rw [ht]; try exact hz, by rw [ht]; try exact hT⟩, by rw [ht]; try exact hS.1, fun q h9 hq => by rw [ht]; try exact hS.2.1 q h9 hq⟩) hS.2.2 dX6_numberOf_33
      · skip
        have c_5' : fr.toInt < to.toInt := jb_ge_n (rfl) (rfl) c_5
        refine lv_iload_n hx hb dX6_numberOf_15 rfl (lv_at hl 3 rfl) ?_
        refine lv_iload_n hx hb dX6_numberOf_16 rfl (lv_at hl 2 rfl) ?_
        refine lv_isub hx hb dX6_numberOf_17 ?_
        refine lv_topi (fun z_6 ez_6 => ?_)
        have hz_6 : z_6.toInt = to.toInt - fr.toInt := by rw [ez_6]; exact jb_isub (rfl) (rfl) (by omega) (by omega)
        refine lv_bipush (v := 10) hx hb dX6_numberOf_18 (by decide) ?_
        refine lv_icmp_gt (tgt := 32) hx hb dX6_numberOf_20 (by decide) (fun c_7 => ?_) (fun c_7 => ?_)
        · skip
          have c_7' : z_6.toInt > 10 := jb_gt (rfl) ((by decide)) c_7
          refine lv_iconst (v := (-1)) hx hb dX6_numberOf_32 (by decide) ?_
          rw [hQ]
          exact W.iret (v := (-1)) hx hb hr (fun t ht hW => ⟨⟨(-1), (), rfl, by omega, by rw [ht]; try exact hX, by rw [ht]; try exact hM, by rw [ht]; try exact hz, by rw [ht]; try exact hT⟩, by rw [ht]; try exact hS.1, fun q h9 hq => by rw [ht]; try exact hS.2.1 q h9 hq⟩) hS.2.2 dX6_numberOf_33
        · skip
          have c_7' : z_6.toInt ≤ 10 := jb_gt_n (rfl) ((by decide)) c_7
          refine lv_aload_n hx hb dX6_numberOf_23 rfl (lv_at hl 1 rfl) ?_
          refine lv_iload_n hx hb dX6_numberOf_24 rfl (lv_at hl 2 rfl) ?_
          have hiz_8 : _ := jb_in (i := fr) (n := nu) (rfl) (by omega) (by omega)
          refine va_iald hx hb hK (jp_one hat_un_3) 0 1 rfl rfl hiz_8 dX6_numberOf_25 ?_
          refine lv_topi (fun z_8 ez_8 => ?_)
          refine vp_callSi (va_Run.run (va_runSN (As := [.int z_8]) (rest := []) ⟨hx, hb, hml, hown, hts⟩ (kX11_isLetter l dC dI ca base s.heap z_8) ⟨va_cnB 1 hts gX6_numberOf_X11_isLetter_n38 rfl rfl rfl (hG.2.2.1 RX6 38 yX11_isLetter "ProofServer" (List.mem_of_getElem? (i := 217) (by decide +kernel))) (hts (.initialized RX11) (by decide +kernel)) (by decide +kernel) ⟨by rw [← hR]; exact Nat.le_of_ble_eq_true rfl, by rw [← hR]; exact Nat.le_of_ble_eq_true rfl⟩, hts (.static yX11_isLetter) (by decide +kernel), trivial⟩ ⟨fun a U g mk q => by obtain ⟨q0, q1, qK, q9⟩ := q; exact ⟨q0, q1, jG.calling g mk a qK, q9⟩, fun U hU hW => ⟨rfl, hU, hG.step hW hU hS, by first | trivial | omega | (constructor <;> omega)⟩⟩ rfl rfl hl.1 rfl (lv_room (Nat.le_of_ble_eq_true rfl)) dX6_numberOf_26 ⟨Nat.zero_le _, Nat.zero_le _⟩)) (fun r_9 hr_9 => ?_)
          have hr_9' : r_9.toInt = 0 ∨ r_9.toInt = 1 := jb_01 hr_9
          refine lv_if_ne (tgt := 34) hx hb dX6_numberOf_29 (by decide) (fun c_10 => ?_) (fun c_10 => ?_)
          · skip
            have c_10' : r_9.toInt ≠ 0 := jb_ne (rfl) ((by decide)) c_10
            refine lv_iload_n hx hb dX6_numberOf_34 rfl (lv_at hl 3 rfl) ?_
            refine lv_istore (lv' := [(5, .int to), (0, .ref a), (1, .ref un), (2, .int fr), (3, .int to), (4, .int ma)]) hx hb dX6_numberOf_35 hl (by decide) rfl (fun ls hl => ?_)
            have L37 : ∀ (N : Nat) (la : Int32) (H : Heap) (locs : List Loc), jX B base G0 X H → va_S (jA base) s.heap H locs → jModP G0 (fun r => r = a) s.heap H → H.size = s.heap.size → jTot H = jTot s.heap → (fr.toInt ≤ la.toInt ∧ la.toInt ≤ to.toInt) → (la.toInt - fr.toInt : Int) < N → ∀ ls : Array Slot, lv_has ls 10 [(0, .ref a), (1, .ref un), (2, .int fr), (3, .int to), (4, .int ma), (5, .int la)] → W p l e R s m ([.ref a, .ref un, .int fr, .int to, .int ma] : List Value).toArray below meth c H locs 0 0 Q (F0 m 37 ls []) := by
              intro N
              induction N with
              | zero => intro la H locs hX hS hM hz hT hi hm; exact absurd hm (by omega)
              | succ N ih =>
                have L37 := ih
                intro la H locs hX hS hM hz hT hi hm ls hl
                obtain ⟨hi0, hi1⟩ := hi
                refine lv_iload hx hb dX6_numberOf_37 (lv_at hl 5 rfl) ?_
                refine lv_iload_n hx hb dX6_numberOf_39 rfl (lv_at hl 2 rfl) ?_
                refine lv_icmp_le (tgt := 60) hx hb dX6_numberOf_40 (by decide) (fun c_11 => ?_) (fun c_11 => ?_)
                · skip
                  have c_11' : la.toInt ≤ fr.toInt := jb_le (rfl) (rfl) c_11
                  refine lv_lconst (v := 1) hx hb dX6_numberOf_60 (by decide) ?_
                  refine lv_lstore (lv' := [(6, .long 1), (0, .ref a), (1, .ref un), (2, .int fr), (3, .int to), (4, .int ma), (5, .int la)]) hx hb dX6_numberOf_61 hl (by decide) rfl (fun ls hl => ?_)
                  refine lv_iload hx hb dX6_numberOf_63 (lv_at hl 6 rfl) ?_
                  refine lv_iconst (v := 1) hx hb dX6_numberOf_65 (by decide) ?_
                  refine lv_isub hx hb dX6_numberOf_66 ?_
                  refine lv_topi (fun z_12 ez_12 => ?_)
                  have hz_12 : z_12.toInt = la.toInt - 1 := by rw [ez_12]; exact jb_isub (rfl) ((by decide)) (by omega) (by omega)
                  refine lv_istore (lv' := [(8, .int z_12), (6, .long 1), (0, .ref a), (1, .ref un), (2, .int fr), (3, .int to), (4, .int ma), (5, .int la)]) hx hb dX6_numberOf_67 hl (by decide) rfl (fun ls hl => ?_)
                  have L69 : ∀ (N : Nat) (sm : Int64) (iv : Int32) (H : Heap) (locs : List Loc), jX B base G0 X H → va_S (jA base) s.heap H locs → jModP G0 (fun r => r = a) s.heap H → H.size = s.heap.size → jTot H = jTot s.heap → (fr.toInt - 1 ≤ iv.toInt ∧ iv.toInt < to.toInt) → (iv.toInt + 1 - fr.toInt : Int) < N → ∀ ls : Array Slot, lv_has ls 10 [(0, .ref a), (1, .ref un), (2, .int fr), (3, .int to), (4, .int ma), (5, .int la), (6, .long sm), (8, .int iv)] → W p l e R s m ([.ref a, .ref un, .int fr, .int to, .int ma] : List Value).toArray below meth c H locs 0 0 Q (F0 m 69 ls []) := by
                    intro N
                    induction N with
                    | zero => intro sm iv H locs hX hS hM hz hT hi hm; exact absurd hm (by omega)
                    | succ N ih =>
                      have L69 := ih
                      intro sm iv H locs hX hS hM hz hT hi hm ls hl
                      obtain ⟨hj0, hj1⟩ := hi
                      refine lv_iload hx hb dX6_numberOf_69 (lv_at hl 7 rfl) ?_
                      refine lv_iload_n hx hb dX6_numberOf_71 rfl (lv_at hl 2 rfl) ?_
                      refine lv_icmp_lt (tgt := 108) hx hb dX6_numberOf_72 (by decide) (fun c_13 => ?_) (fun c_13 => ?_)
                      · skip
                        have c_13' : iv.toInt < fr.toInt := jb_lt (rfl) (rfl) c_13
                        refine lv_aload_n hx hb dX6_numberOf_108 rfl (lv_at hl 0 rfl) ?_
                        refine lv_lload hx hb dX6_numberOf_109 (lv_at hl 6 rfl) ?_
                        refine lv_iload_n hx hb dX6_numberOf_111 rfl (lv_at hl 3 rfl) ?_
                        refine lv_iload hx hb dX6_numberOf_112 (lv_at hl 5 rfl) ?_
                        refine lv_isub hx hb dX6_numberOf_114 ?_
                        refine lv_topi (fun z_14 ez_14 => ?_)
                        have hz_14 : z_14.toInt = to.toInt - la.toInt := by rw [ez_14]; exact jb_isub (rfl) (rfl) (by omega) (by omega)
                        refine lv_iload hx hb dX6_numberOf_115 (lv_at hl 4 rfl) ?_
                        obtain ⟨stems_17, primes_17, slots_17, count_17, f_stems_17, f_primes_17, f_slots_17, hat_a_17, hat_stems_17, hat_primes_17, hat_slots_17, hg_stems_17, hg_primes_17, hg_slots_17, hf0_17, hf1_17, hall0_17⟩ := (hB8 _ _ _ _).mp (hX.1 a 8 0 hg_a (by omega) hn_a)
                        refine va_calli (A0 := jA base) (H0 := s.heap) (va_runV (As := [.long sm, .int z_14, .int ma]) (rest := []) ⟨hx, hb, hml, hown, hts⟩ (tX6_find l dC dI ca base B hB hB8 G0 X H a sm z_14 ma) (cwV 3 hts gX6_numberOf_X6_find rfl rfl rfl (by decide +kernel) ⟨by rw [← hR]; exact Nat.le_of_ble_eq_true rfl, by rw [← hR]; exact Nat.le_of_ble_eq_true rfl⟩) ⟨fun a U g mk q => by obtain ⟨q0, q1, q2, qK, q9⟩ := q; exact ⟨q0, q1, q2, jG.calling g mk a qK, q9⟩, va_recv hK (jp_one hat_a_17) (ci := 8) (q0 := 0) rfl rfl, fun U hU hW => ⟨rfl, hU, hX, hG.step hW hU hS, hg_a, hn_a, by first | trivial | omega | (constructor <;> omega)⟩⟩ rfl rfl hl.1 rfl (lv_room (Nat.le_of_ble_eq_true rfl)) dX6_numberOf_117 ⟨Nat.zero_le _, Nat.zero_le _⟩) hS (fun q _ h => h) (fun q h => h) (fun r_15 u t H1 locs1 ht hvm hr_15 hBb hz1 hk1 hS_16 => ?_)
                        obtain ⟨hX_16, hM_160, hz_160, hT_160⟩ := hBb
                        rw [ht] at hX_16 hM_160 hz_160 hT_160
                        have hM_16 := hM.tr0 hM_160 hz (by intro r; simp)
                        have hz_16 := hz_160.trans hz
                        have hT_16 := hT_160.trans hT
                        clear hz1 hk1 hvm ht hM_160 hz_160 hT_160
                        rw [hQ]
                        exact W.iret (v := r_15) hx hb hr (fun t ht hW => ⟨⟨r_15, (), rfl, by omega, by rw [ht]; try exact hX_16, by rw [ht]; try exact hM_16, by rw [ht]; try exact hz_16, by rw [ht]; try exact hT_16⟩, by rw [ht]; try exact hS_16.1, fun q h9 hq => by rw [ht]; try exact hS_16.2.1 q h9 hq⟩) hS_16.2.2 dX6_numberOf_120
                      · skip
                        have c_13' : iv.toInt ≥ fr.toInt := jb_lt_n (rfl) (rfl) c_13
                        refine lv_aload_n hx hb dX6_numberOf_75 rfl (lv_at hl 1 rfl) ?_
                        refine lv_iload hx hb dX6_numberOf_76 (lv_at hl 7 rfl) ?_
                        obtain ⟨f_un_18, hat_un_18⟩ := (hB101 _ _ _ _).mp (hX.1 un 101 nu hg_un (by omega) hn_un)
                        have hiz_19 : _ := jb_in (i := iv) (n := nu) (rfl) (by omega) (by omega)
                        refine va_iald hx hb hK (jp_one hat_un_18) 0 1 rfl rfl hiz_19 dX6_numberOf_78 ?_
                        refine lv_topi (fun z_19 ez_19 => ?_)
                        refine vp_callSi (W.runS (As := [.int z_19]) (rest := []) ⟨hx, hb, hml, hown, hts⟩ (kX6_signOf l dC dI ca base H z_19) (va_cwS 1 hts gX6_numberOf_X6_signOf rfl rfl rfl (by decide +kernel) ⟨by rw [← hR]; exact Nat.le_of_ble_eq_true rfl, by rw [← hR]; exact Nat.le_of_ble_eq_true rfl⟩) ⟨fun a U g mk q => by obtain ⟨q0, q1, qK, q9⟩ := q; exact ⟨q0, q1, jG.calling g mk a qK, q9⟩, fun U hU hW => ⟨rfl, hU, hG.step hW hU hS, by first | trivial | omega | (constructor <;> omega)⟩⟩ rfl rfl hl.1 rfl (lv_room (Nat.le_of_ble_eq_true rfl)) dX6_numberOf_79 ⟨Nat.zero_le _, Nat.zero_le _⟩) (fun r_20 hr_20 => ?_)
                        refine lv_istore (lv' := [(9, .int r_20), (0, .ref a), (1, .ref un), (2, .int fr), (3, .int to), (4, .int ma), (5, .int la), (6, .long sm), (8, .int iv)]) hx hb dX6_numberOf_82 hl (by decide) rfl (fun ls hl => ?_)
                        refine lv_iload hx hb dX6_numberOf_84 (lv_at hl 0 rfl) ?_
                        refine lv_if_ge (tgt := 91) hx hb dX6_numberOf_86 (by decide) (fun c_21 => ?_) (fun c_21 => ?_)
                        · skip
                          have c_21' : r_20.toInt ≥ 0 := jb_ge (rfl) ((by decide)) c_21
                          refine lv_lload hx hb dX6_numberOf_91 (lv_at hl 7 rfl) ?_
                          refine lv_bipush (v := 6) hx hb dX6_numberOf_93 (by decide) ?_
                          refine lv_lshl hx hb dX6_numberOf_95 rfl ?_
                          refine lv_topl (fun z_22 ez_22 => ?_)
                          refine lv_iload hx hb dX6_numberOf_96 (lv_at hl 0 rfl) ?_
                          refine lv_i2l hx hb dX6_numberOf_98 rfl ?_
                          refine lv_topl (fun z_23 ez_23 => ?_)
                          refine lv_lor hx hb dX6_numberOf_99 ?_
                          refine lv_topl (fun z_24 ez_24 => ?_)
                          refine lv_lstore (lv' := [(6, .long z_24), (9, .int r_20), (0, .ref a), (1, .ref un), (2, .int fr), (3, .int to), (4, .int ma), (5, .int la), (8, .int iv)]) hx hb dX6_numberOf_100 hl (by decide) rfl (fun ls hl => ?_)
                          obtain ⟨z_25, ez_25⟩ : ∃ y : Int32, y = iv + (-1) := ⟨_, rfl⟩
                          refine lv_iinc (v := z_25) (lv' := [(8, .int z_25), (6, .long z_24), (9, .int r_20), (0, .ref a), (1, .ref un), (2, .int fr), (3, .int to), (4, .int ma), (5, .int la)]) hx hb dX6_numberOf_102 hl (k := 8) rfl (by rw [ez_25]; rfl) (by decide) rfl (fun ls hl => ?_)
                          have hz_25 : z_25.toInt = iv.toInt + (-1) := by rw [ez_25]; exact jb_iadd (rfl) (by decide) (by omega) (by omega)
                          refine lv_goto (tgt := 69) hx hb dX6_numberOf_105 (by decide) ?_
                          exact L69 z_24 z_25 _ _ hX hS hM hz hT (⟨by omega, by omega⟩) (by omega) _ (lv_sub hl [3, 4, 5, 6, 7, 8, 1, 0] rfl)
                        · skip
                          have c_21' : r_20.toInt < 0 := jb_ge_n (rfl) ((by decide)) c_21
                          refine lv_iconst (v := (-1)) hx hb dX6_numberOf_89 (by decide) ?_
                          rw [hQ]
                          exact W.iret (v := (-1)) hx hb hr (fun t ht hW => ⟨⟨(-1), (), rfl, by omega, by rw [ht]; try exact hX, by rw [ht]; try exact hM, by rw [ht]; try exact hz, by rw [ht]; try exact hT⟩, by rw [ht]; try exact hS.1, fun q h9 hq => by rw [ht]; try exact hS.2.1 q h9 hq⟩) hS.2.2 dX6_numberOf_90
                  exact L69 ((z_12 : Int32).toInt + 1 - fr.toInt : Int).toNat.succ 1 z_12 _ _ hX hS hM hz hT (⟨by omega, by omega⟩) (by omega) _ (lv_sub hl [2, 3, 4, 5, 6, 7, 1, 0] rfl)
                · skip
                  have c_11' : la.toInt > fr.toInt := jb_le_n (rfl) (rfl) c_11
                  refine lv_aload_n hx hb dX6_numberOf_43 rfl (lv_at hl 1 rfl) ?_
                  refine lv_iload hx hb dX6_numberOf_44 (lv_at hl 5 rfl) ?_
                  refine lv_iconst (v := 1) hx hb dX6_numberOf_46 (by decide) ?_
                  refine lv_isub hx hb dX6_numberOf_47 ?_
                  refine lv_topi (fun z_26 ez_26 => ?_)
                  have hz_26 : z_26.toInt = la.toInt - 1 := by rw [ez_26]; exact jb_isub (rfl) ((by decide)) (by omega) (by omega)
                  obtain ⟨f_un_27, hat_un_27⟩ := (hB101 _ _ _ _).mp (hX.1 un 101 nu hg_un (by omega) hn_un)
                  have hiz_28 : _ := jb_in (i := z_26) (n := nu) (rfl) (by omega) (by omega)
                  refine va_iald hx hb hK (jp_one hat_un_27) 0 1 rfl rfl hiz_28 dX6_numberOf_48 ?_
                  refine lv_topi (fun z_28 ez_28 => ?_)
                  refine lv_bipush (v := 39) hx hb dX6_numberOf_49 (by decide) ?_
                  refine lv_icmp_ne (tgt := 60) hx hb dX6_numberOf_51 (by decide) (fun c_29 => ?_) (fun c_29 => ?_)
                  · skip
                    have c_29' : z_28.toInt ≠ 39 := jb_ne (rfl) ((by decide)) c_29
                    refine lv_lconst (v := 1) hx hb dX6_numberOf_60 (by decide) ?_
                    refine lv_lstore (lv' := [(6, .long 1), (0, .ref a), (1, .ref un), (2, .int fr), (3, .int to), (4, .int ma), (5, .int la)]) hx hb dX6_numberOf_61 hl (by decide) rfl (fun ls hl => ?_)
                    refine lv_iload hx hb dX6_numberOf_63 (lv_at hl 6 rfl) ?_
                    refine lv_iconst (v := 1) hx hb dX6_numberOf_65 (by decide) ?_
                    refine lv_isub hx hb dX6_numberOf_66 ?_
                    refine lv_topi (fun z_30 ez_30 => ?_)
                    have hz_30 : z_30.toInt = la.toInt - 1 := by rw [ez_30]; exact jb_isub (rfl) ((by decide)) (by omega) (by omega)
                    refine lv_istore (lv' := [(8, .int z_30), (6, .long 1), (0, .ref a), (1, .ref un), (2, .int fr), (3, .int to), (4, .int ma), (5, .int la)]) hx hb dX6_numberOf_67 hl (by decide) rfl (fun ls hl => ?_)
                    have L69 : ∀ (N : Nat) (sm : Int64) (iv : Int32) (H : Heap) (locs : List Loc), jX B base G0 X H → va_S (jA base) s.heap H locs → jModP G0 (fun r => r = a) s.heap H → H.size = s.heap.size → jTot H = jTot s.heap → (fr.toInt - 1 ≤ iv.toInt ∧ iv.toInt < to.toInt) → (iv.toInt + 1 - fr.toInt : Int) < N → ∀ ls : Array Slot, lv_has ls 10 [(0, .ref a), (1, .ref un), (2, .int fr), (3, .int to), (4, .int ma), (5, .int la), (6, .long sm), (8, .int iv)] → W p l e R s m ([.ref a, .ref un, .int fr, .int to, .int ma] : List Value).toArray below meth c H locs 0 0 Q (F0 m 69 ls []) := by
                      intro N
                      induction N with
                      | zero => intro sm iv H locs hX hS hM hz hT hi hm; exact absurd hm (by omega)
                      | succ N ih =>
                        have L69 := ih
                        intro sm iv H locs hX hS hM hz hT hi hm ls hl
                        obtain ⟨hj0, hj1⟩ := hi
                        refine lv_iload hx hb dX6_numberOf_69 (lv_at hl 7 rfl) ?_
                        refine lv_iload_n hx hb dX6_numberOf_71 rfl (lv_at hl 2 rfl) ?_
                        refine lv_icmp_lt (tgt := 108) hx hb dX6_numberOf_72 (by decide) (fun c_31 => ?_) (fun c_31 => ?_)
                        · skip
                          have c_31' : iv.toInt < fr.toInt := jb_lt (rfl) (rfl) c_31
                          refine lv_aload_n hx hb dX6_numberOf_108 rfl (lv_at hl 0 rfl) ?_
                          refine lv_lload hx hb dX6_numberOf_109 (lv_at hl 6 rfl) ?_
                          refine lv_iload_n hx hb dX6_numberOf_111 rfl (lv_at hl 3 rfl) ?_
                          refine lv_iload hx hb dX6_numberOf_112 (lv_at hl 5 rfl) ?_
                          refine lv_isub hx hb dX6_numberOf_114 ?_
                          refine lv_topi (fun z_32 ez_32 => ?_)
                          have hz_32 : z_32.toInt = to.toInt - la.toInt := by rw [ez_32]; exact jb_isub (rfl) (rfl) (by omega) (by omega)
                          refine lv_iload hx hb dX6_numberOf_115 (lv_at hl 4 rfl) ?_
                          obtain ⟨stems_35, primes_35, slots_35, count_35, f_stems_35, f_primes_35, f_slots_35, hat_a_35, hat_stems_35, hat_primes_35, hat_slots_35, hg_stems_35, hg_primes_35, hg_slots_35, hf0_35, hf1_35, hall0_35⟩ := (hB8 _ _ _ _).mp (hX.1 a 8 0 hg_a (by omega) hn_a)
                          refine va_calli (A0 := jA base) (H0 := s.heap) (va_runV (As := [.long sm, .int z_32, .int ma]) (rest := []) ⟨hx, hb, hml, hown, hts⟩ (tX6_find l dC dI ca base B hB hB8 G0 X H a sm z_32 ma) (cwV 3 hts gX6_numberOf_X6_find rfl rfl rfl (by decide +kernel) ⟨by rw [← hR]; exact Nat.le_of_ble_eq_true rfl, by rw [← hR]; exact Nat.le_of_ble_eq_true rfl⟩) ⟨fun a U g mk q => by obtain ⟨q0, q1, q2, qK, q9⟩ := q; exact ⟨q0, q1, q2, jG.calling g mk a qK, q9⟩, va_recv hK (jp_one hat_a_35) (ci := 8) (q0 := 0) rfl rfl, fun U hU hW => ⟨rfl, hU, hX, hG.step hW hU hS, hg_a, hn_a, by first | trivial | omega | (constructor <;> omega)⟩⟩ rfl rfl hl.1 rfl (lv_room (Nat.le_of_ble_eq_true rfl)) dX6_numberOf_117 ⟨Nat.zero_le _, Nat.zero_le _⟩) hS (fun q _ h => h) (fun q h => h) (fun r_33 u t H1 locs1 ht hvm hr_33 hBb hz1 hk1 hS_34 => ?_)
                          obtain ⟨hX_34, hM_340, hz_340, hT_340⟩ := hBb
                          rw [ht] at hX_34 hM_340 hz_340 hT_340
                          have hM_34 := hM.tr0 hM_340 hz (by intro r; simp)
                          have hz_34 := hz_340.trans hz
                          have hT_34 := hT_340.trans hT
                          clear hz1 hk1 hvm ht hM_340 hz_340 hT_340
                          rw [hQ]
                          exact W.iret (v := r_33) hx hb hr (fun t ht hW => ⟨⟨r_33, (), rfl, by omega, by rw [ht]; try exact hX_34, by rw [ht]; try exact hM_34, by rw [ht]; try exact hz_34, by rw [ht]; try exact hT_34⟩, by rw [ht]; try exact hS_34.1, fun q h9 hq => by rw [ht]; try exact hS_34.2.1 q h9 hq⟩) hS_34.2.2 dX6_numberOf_120
                        · skip
                          have c_31' : iv.toInt ≥ fr.toInt := jb_lt_n (rfl) (rfl) c_31
                          refine lv_aload_n hx hb dX6_numberOf_75 rfl (lv_at hl 1 rfl) ?_
                          refine lv_iload hx hb dX6_numberOf_76 (lv_at hl 7 rfl) ?_
                          obtain ⟨f_un_36, hat_un_36⟩ := (hB101 _ _ _ _).mp (hX.1 un 101 nu hg_un (by omega) hn_un)
                          have hiz_37 : _ := jb_in (i := iv) (n := nu) (rfl) (by omega) (by omega)
                          refine va_iald hx hb hK (jp_one hat_un_36) 0 1 rfl rfl hiz_37 dX6_numberOf_78 ?_
                          refine lv_topi (fun z_37 ez_37 => ?_)
                          refine vp_callSi (W.runS (As := [.int z_37]) (rest := []) ⟨hx, hb, hml, hown, hts⟩ (kX6_signOf l dC dI ca base H z_37) (va_cwS 1 hts gX6_numberOf_X6_signOf rfl rfl rfl (by decide +kernel) ⟨by rw [← hR]; exact Nat.le_of_ble_eq_true rfl, by rw [← hR]; exact Nat.le_of_ble_eq_true rfl⟩) ⟨fun a U g mk q => by obtain ⟨q0, q1, qK, q9⟩ := q; exact ⟨q0, q1, jG.calling g mk a qK, q9⟩, fun U hU hW => ⟨rfl, hU, hG.step hW hU hS, by first | trivial | omega | (constructor <;> omega)⟩⟩ rfl rfl hl.1 rfl (lv_room (Nat.le_of_ble_eq_true rfl)) dX6_numberOf_79 ⟨Nat.zero_le _, Nat.zero_le _⟩) (fun r_38 hr_38 => ?_)
                          refine lv_istore (lv' := [(9, .int r_38), (0, .ref a), (1, .ref un), (2, .int fr), (3, .int to), (4, .int ma), (5, .int la), (6, .long sm), (8, .int iv)]) hx hb dX6_numberOf_82 hl (by decide) rfl (fun ls hl => ?_)
                          refine lv_iload hx hb dX6_numberOf_84 (lv_at hl 0 rfl) ?_
                          refine lv_if_ge (tgt := 91) hx hb dX6_numberOf_86 (by decide) (fun c_39 => ?_) (fun c_39 => ?_)
                          · skip
                            have c_39' : r_38.toInt ≥ 0 := jb_ge (rfl) ((by decide)) c_39
                            refine lv_lload hx hb dX6_numberOf_91 (lv_at hl 7 rfl) ?_
                            refine lv_bipush (v := 6) hx hb dX6_numberOf_93 (by decide) ?_
                            refine lv_lshl hx hb dX6_numberOf_95 rfl ?_
                            refine lv_topl (fun z_40 ez_40 => ?_)
                            refine lv_iload hx hb dX6_numberOf_96 (lv_at hl 0 rfl) ?_
                            refine lv_i2l hx hb dX6_numberOf_98 rfl ?_
                            refine lv_topl (fun z_41 ez_41 => ?_)
                            refine lv_lor hx hb dX6_numberOf_99 ?_
                            refine lv_topl (fun z_42 ez_42 => ?_)
                            refine lv_lstore (lv' := [(6, .long z_42), (9, .int r_38), (0, .ref a), (1, .ref un), (2, .int fr), (3, .int to), (4, .int ma), (5, .int la), (8, .int iv)]) hx hb dX6_numberOf_100 hl (by decide) rfl (fun ls hl => ?_)
                            obtain ⟨z_43, ez_43⟩ : ∃ y : Int32, y = iv + (-1) := ⟨_, rfl⟩
                            refine lv_iinc (v := z_43) (lv' := [(8, .int z_43), (6, .long z_42), (9, .int r_38), (0, .ref a), (1, .ref un), (2, .int fr), (3, .int to), (4, .int ma), (5, .int la)]) hx hb dX6_numberOf_102 hl (k := 8) rfl (by rw [ez_43]; rfl) (by decide) rfl (fun ls hl => ?_)
                            have hz_43 : z_43.toInt = iv.toInt + (-1) := by rw [ez_43]; exact jb_iadd (rfl) (by decide) (by omega) (by omega)
                            refine lv_goto (tgt := 69) hx hb dX6_numberOf_105 (by decide) ?_
                            exact L69 z_42 z_43 _ _ hX hS hM hz hT (⟨by omega, by omega⟩) (by omega) _ (lv_sub hl [3, 4, 5, 6, 7, 8, 1, 0] rfl)
                          · skip
                            have c_39' : r_38.toInt < 0 := jb_ge_n (rfl) ((by decide)) c_39
                            refine lv_iconst (v := (-1)) hx hb dX6_numberOf_89 (by decide) ?_
                            rw [hQ]
                            exact W.iret (v := (-1)) hx hb hr (fun t ht hW => ⟨⟨(-1), (), rfl, by omega, by rw [ht]; try exact hX, by rw [ht]; try exact hM, by rw [ht]; try exact hz, by rw [ht]; try exact hT⟩, by rw [ht]; try exact hS.1, fun q h9 hq => by rw [ht]; try exact hS.2.1 q h9 hq⟩) hS.2.2 dX6_numberOf_90
                    exact L69 ((z_30 : Int32).toInt + 1 - fr.toInt : Int).toNat.succ 1 z_30 _ _ hX hS hM hz hT (⟨by omega, by omega⟩) (by omega) _ (lv_sub hl [2, 3, 4, 5, 6, 7, 1, 0] rfl)
                  · skip
                    have c_29' : z_28.toInt = 39 := jb_ne_n (rfl) ((by decide)) c_29
                    obtain ⟨z_44, ez_44⟩ : ∃ y : Int32, y = la + (-1) := ⟨_, rfl⟩
                    refine lv_iinc (v := z_44) (lv' := [(5, .int z_44), (0, .ref a), (1, .ref un), (2, .int fr), (3, .int to), (4, .int ma)]) hx hb dX6_numberOf_54 hl (k := 5) rfl (by rw [ez_44]; rfl) (by decide) rfl (fun ls hl => ?_)
                    have hz_44 : z_44.toInt = la.toInt + (-1) := by rw [ez_44]; exact jb_iadd (rfl) (by decide) (by omega) (by omega)
                    refine lv_goto (tgt := 37) hx hb dX6_numberOf_57 (by decide) ?_
                    exact L37 z_44 _ _ hX hS hM hz hT (⟨by omega, by omega⟩) (by omega) _ (lv_sub hl [1, 2, 3, 4, 5, 0] rfl)
            exact L37 ((to : Int32).toInt - fr.toInt : Int).toNat.succ to _ _ hX hS hM hz hT (⟨by omega, by omega⟩) (by omega) _ (lv_sub hl [1, 2, 3, 4, 5, 0] rfl)
          · skip
            have c_10' : r_9.toInt = 0 := jb_ne_n (rfl) ((by decide)) c_10
            refine lv_iconst (v := (-1)) hx hb dX6_numberOf_32 (by decide) ?_
            rw [hQ]
            exact W.iret (v := (-1)) hx hb hr (fun t ht hW => ⟨⟨(-1), (), rfl, by omega, by rw [ht]; try exact hX, by rw [ht]; try exact hM, by rw [ht]; try exact hz, by rw [ht]; try exact hT⟩, by rw [ht]; try exact hS.1, fun q h9 hq => by rw [ht]; try exact hS.2.1 q h9 hq⟩) hS.2.2 dX6_numberOf_33
