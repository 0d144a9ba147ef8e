def jOp (f : Nat → Int32) (i n : Int) : Prop := i + 1 < n ∧ (f i.toNat).toInt = 40 ∧ (f (i + 1).toNat).toInt = 42
def jCl (f : Nat → Int32) (i n : Int) : Prop := i + 1 < n ∧ (f i.toNat).toInt = 42 ∧ (f (i + 1).toNat).toInt = 41
abbrev cX14_opens : ByteArray := prog_14_method_66_code
def yX14_opens : MethodName := ⟨RX14, "opens", "([III)Z"⟩
abbrev cX14_closes : ByteArray := prog_14_method_67_code
def yX14_closes : MethodName := ⟨RX14, "closes", "([III)Z"⟩
def wsX14_opens : List Cond := .code yX14_opens cX14_opens 3 (some .boolean) :: ([])
def wsX14_closes : List Cond := .code yX14_closes cX14_closes 3 (some .boolean) :: ([])
theorem dX14_opens_0 : decode cX14_opens 0 = .ok (.iload_n 1, 1) := by decide +kernel
theorem dX14_opens_1 : decode cX14_opens 1 = .ok (.iconst 1, 1) := by decide +kernel
theorem dX14_opens_2 : decode cX14_opens 2 = .ok (.iadd, 1) := by decide +kernel
theorem dX14_opens_3 : decode cX14_opens 3 = .ok (.iload_n 2, 1) := by decide +kernel
theorem dX14_opens_4 : decode cX14_opens 4 = .ok (.if_icmp .ge 25, 3) := by decide +kernel
theorem dX14_opens_7 : decode cX14_opens 7 = .ok (.aload_n 0, 1) := by decide +kernel
theorem dX14_opens_8 : decode cX14_opens 8 = .ok (.iload_n 1, 1) := by decide +kernel
theorem dX14_opens_9 : decode cX14_opens 9 = .ok (.iaload, 1) := by decide +kernel
theorem dX14_opens_10 : decode cX14_opens 10 = .ok (.bipush 40, 2) := by decide +kernel
theorem dX14_opens_12 : decode cX14_opens 12 = .ok (.if_icmp .ne 17, 3) := by decide +kernel
theorem dX14_opens_15 : decode cX14_opens 15 = .ok (.aload_n 0, 1) := by decide +kernel
theorem dX14_opens_16 : decode cX14_opens 16 = .ok (.iload_n 1, 1) := by decide +kernel
theorem dX14_opens_17 : decode cX14_opens 17 = .ok (.iconst 1, 1) := by decide +kernel
theorem dX14_opens_18 : decode cX14_opens 18 = .ok (.iadd, 1) := by decide +kernel
theorem dX14_opens_19 : decode cX14_opens 19 = .ok (.iaload, 1) := by decide +kernel
theorem dX14_opens_20 : decode cX14_opens 20 = .ok (.bipush 42, 2) := by decide +kernel
theorem dX14_opens_22 : decode cX14_opens 22 = .ok (.if_icmp .ne 7, 3) := by decide +kernel
theorem dX14_opens_25 : decode cX14_opens 25 = .ok (.iconst 1, 1) := by decide +kernel
theorem dX14_opens_26 : decode cX14_opens 26 = .ok (.goto 4, 3) := by decide +kernel
theorem dX14_opens_29 : decode cX14_opens 29 = .ok (.iconst 0, 1) := by decide +kernel
theorem dX14_opens_30 : decode cX14_opens 30 = .ok (.ireturn, 1) := by decide +kernel
theorem dX14_closes_0 : decode cX14_closes 0 = .ok (.iload_n 1, 1) := by decide +kernel
theorem dX14_closes_1 : decode cX14_closes 1 = .ok (.iconst 1, 1) := by decide +kernel
theorem dX14_closes_2 : decode cX14_closes 2 = .ok (.iadd, 1) := by decide +kernel
theorem dX14_closes_3 : decode cX14_closes 3 = .ok (.iload_n 2, 1) := by decide +kernel
theorem dX14_closes_4 : decode cX14_closes 4 = .ok (.if_icmp .ge 25, 3) := by decide +kernel
theorem dX14_closes_7 : decode cX14_closes 7 = .ok (.aload_n 0, 1) := by decide +kernel
theorem dX14_closes_8 : decode cX14_closes 8 = .ok (.iload_n 1, 1) := by decide +kernel
theorem dX14_closes_9 : decode cX14_closes 9 = .ok (.iaload, 1) := by decide +kernel
theorem dX14_closes_10 : decode cX14_closes 10 = .ok (.bipush 42, 2) := by decide +kernel
theorem dX14_closes_12 : decode cX14_closes 12 = .ok (.if_icmp .ne 17, 3) := by decide +kernel
theorem dX14_closes_15 : decode cX14_closes 15 = .ok (.aload_n 0, 1) := by decide +kernel
theorem dX14_closes_16 : decode cX14_closes 16 = .ok (.iload_n 1, 1) := by decide +kernel
theorem dX14_closes_17 : decode cX14_closes 17 = .ok (.iconst 1, 1) := by decide +kernel
theorem dX14_closes_18 : decode cX14_closes 18 = .ok (.iadd, 1) := by decide +kernel
theorem dX14_closes_19 : decode cX14_closes 19 = .ok (.iaload, 1) := by decide +kernel
theorem dX14_closes_20 : decode cX14_closes 20 = .ok (.bipush 41, 2) := by decide +kernel
theorem dX14_closes_22 : decode cX14_closes 22 = .ok (.if_icmp .ne 7, 3) := by decide +kernel
theorem dX14_closes_25 : decode cX14_closes 25 = .ok (.iconst 1, 1) := by decide +kernel
theorem dX14_closes_26 : decode cX14_closes 26 = .ok (.goto 4, 3) := by decide +kernel
theorem dX14_closes_29 : decode cX14_closes 29 = .ok (.iconst 0, 1) := by decide +kernel
theorem dX14_closes_30 : decode cX14_closes 30 = .ok (.ireturn, 1) := by decide +kernel
def EX14_opens : List (Nat × Nat) := []
def EX14_closes : List (Nat × Nat) := []
set_option maxHeartbeats 4000000 in
set_option maxRecDepth 20000 in
theorem uX14_opens (l : Launch) (dC : Nat → ClassId) (dI : Nat → Nat → Nat) (ca : Nat → ClassId) (base : Nat) (B : jF) (hB : jBok B) (hAp : jAp (dC, dI)) (hB101 : ∀ n G a H, B 101 n G a H ↔ jAr (dC, dI) (ca 1) (fun j z => True) n a H) (G0 : jT) (H0 : Heap) (r0 : Nat) (a1 : Int32) (a2 : Int32) (n0 : Nat) (f0 : Nat → Int32) : Met l yX14_opens wsX14_opens ({ frames := 0, cells := 0, slots := 0, locals := 0 }) (va_Pc [.ref r0, .int a1, .int a2] (fun U => U.heap = H0 ∧ jX B base G0 [] H0 ∧ jG dC dI ca base U ∧ G0 r0 = some (101, n0) ∧ jP (dC, dI) G0 H0 [] ∧ jMc (dC, dI) G0 H0 [(r0, 101, n0, ca 1, f0)] ∧ 0 ≤ a1.toInt ∧ a1.toInt ≤ 1000000 ∧ a2.toInt ≤ n0 ∧ n0 ≤ 200000)) (va_Qi (S := Unit) (fun r u => (r = 0 ∨ r = 1) ∧ ((r.toInt = 1 ∧ jOp f0 a1.toInt a2.toInt) ∨ (r.toInt = 0 ∧ ¬ jOp f0 a1.toInt a2.toInt))) (fun u t => jRt (dC, dI) B base G0 EX14_opens H0 [] t.heap) (jA base)) 0 0 (jA base) := by
  refine Met.ofW (cc := cX14_opens) (maxL := 3) (ret := (some .boolean)) (by decide) rfl ?_
  intro p e s m args below meth c s₁ Bd hml hv
  obtain ⟨rfl, hH0, hX, hG, hg_r0, hP0, hM0, hp0, hp1, hp2, hp3⟩ := hv
  have hK := hG.1
  have hx := Bd.exec
  have hb := Bd.bytes
  have hr := Bd.returns
  have hts := atoms_spec (ws := wsX14_opens) Bd.pre
  have hown : s.vm.findClass RX14 = some m.cls := findClass_of_methodNamed Bd.named
  have hlocks := Bd.notSynchronized
  obtain ⟨Q, hQ⟩ : ∃ Q, Q = MQ below (va_Qi (S := Unit) (fun r u => (r = 0 ∨ r = 1) ∧ ((r.toInt = 1 ∧ jOp f0 a1.toInt a2.toInt) ∨ (r.toInt = 0 ∧ ¬ jOp f0 a1.toInt a2.toInt))) (fun u t => jRt (dC, dI) B base G0 EX14_opens H0 [] t.heap) (jA base)) ([.ref r0, .int a1, .int a2] : List Value).toArray s 0 0 (jA base) := ⟨_, rfl⟩
  rw [← hQ]
  have hl := lv_entry ([.ref r0, .int a1, .int a2]) (n := 3) (Nat.le_of_ble_eq_true rfl)
  rw [lg_entry_eq]
  generalize (lg_sl ([.ref r0, .int a1, .int a2]) ++ List.replicate (3 - (lg_sl ([.ref r0, .int a1, .int a2])).length) Slot.unset).toArray = ls at hl ⊢
  have hl : lv_has ls 3 [(0, .ref r0), (1, .int a1), (2, .int a2)] := hl
  generalize hR : (headSpec wsX14_opens ({ frames := 0, cells := 0, slots := 0, locals := 0 })).room = R
  subst hH0
  have hh : jSt (dC, dI) B base G0 G0 EX14_opens s.heap 0 0 [] [(r0, 101, n0, ca 1, f0)] [] s.heap [] := jSt.start hX hP0 hM0 jIs.nil
  clear hX hP0
  have hk0 : (0 : Int32).toInt = 0 := by decide
  have hk1 : (1 : Int32).toInt = 1 := by decide
  have hk40 : (40 : Int32).toInt = 40 := by decide
  have hk42 : (42 : Int32).toInt = 42 := by decide
  have hrg_a1 := jb_rng a1
  have hrg_a2 := jb_rng a2
  refine lv_iload_n hx hb dX14_opens_0 rfl (lv_at hl 1 rfl) ?_
  refine lv_iconst (v := 1) hx hb dX14_opens_1 (by decide) ?_
  refine lv_iadd hx hb dX14_opens_2 ?_
  refine lv_topi (fun z_1 ez_1 => ?_)
  have hz_1 : z_1.toInt = a1.toInt + 1 := by rw [ez_1]; exact jb_iadd2 (rfl) ((by decide)) (by omega)
  refine lv_iload_n hx hb dX14_opens_3 rfl (lv_at hl 2 rfl) ?_
  refine lv_icmp_ge (tgt := 29) hx hb dX14_opens_4 (by decide) (fun c_2 => ?_) (fun c_2 => ?_)
  · skip
    have c_2' : z_1.toInt ≥ a2.toInt := jb_ge (rfl) (rfl) c_2
    refine lv_iconst (v := 0) hx hb dX14_opens_29 (by decide) ?_
    rw [hQ]
    exact W.zret (v := 0) hx hb hr (jb_nz (Or.inl rfl)) (fun t ht hW => ⟨⟨0, (), rfl, ⟨(Or.inl rfl), by first | exact Or.inl ⟨by decide, by unfold jOp; refine ⟨by omega, by omega, by omega⟩⟩ | exact Or.inr ⟨by decide, by unfold jOp; omega⟩⟩, hh.rt (M1 := []) [] rfl ht⟩, by rw [ht]; try exact hh.1.1, fun q h9 hq => by rw [ht]; try exact hh.1.2.1 q h9 hq⟩) hh.1.2.2 dX14_opens_30
  · skip
    have c_2' : z_1.toInt < a2.toInt := jb_ge_n (rfl) (rfl) c_2
    refine lv_aload_n hx hb dX14_opens_7 rfl (lv_at hl 0 rfl) ?_
    refine lv_iload_n hx hb dX14_opens_8 rfl (lv_at hl 1 rfl) ?_
    refine j7_ialdM hx hb hK hh hB101 1 rfl (by decide) hg_r0 (rfl) (by omega) (j := 0) rfl dX14_opens_9 (fun z_3 ez_3 (hz_3 : True) => ?_)
    have hqz_3 : z_3.toInt = (f0 (a1.toInt).toNat).toInt := by rw [ez_3]
    refine lv_bipush (v := 40) hx hb dX14_opens_10 (by decide) ?_
    refine lv_icmp_ne (tgt := 29) hx hb dX14_opens_12 (by decide) (fun c_4 => ?_) (fun c_4 => ?_)
    · skip
      have c_4' : z_3.toInt ≠ 40 := jb_ne (rfl) ((by decide)) c_4
      refine lv_iconst (v := 0) hx hb dX14_opens_29 (by decide) ?_
      rw [hQ]
      exact W.zret (v := 0) hx hb hr (jb_nz (Or.inl rfl)) (fun t ht hW => ⟨⟨0, (), rfl, ⟨(Or.inl rfl), by first | exact Or.inl ⟨by decide, by unfold jOp; refine ⟨by omega, by omega, by omega⟩⟩ | exact Or.inr ⟨by decide, by unfold jOp; omega⟩⟩, hh.rt (M1 := []) [] rfl ht⟩, by rw [ht]; try exact hh.1.1, fun q h9 hq => by rw [ht]; try exact hh.1.2.1 q h9 hq⟩) hh.1.2.2 dX14_opens_30
    · skip
      have c_4' : z_3.toInt = 40 := jb_ne_n (rfl) ((by decide)) c_4
      refine lv_aload_n hx hb dX14_opens_15 rfl (lv_at hl 0 rfl) ?_
      refine lv_iload_n hx hb dX14_opens_16 rfl (lv_at hl 1 rfl) ?_
      refine lv_iconst (v := 1) hx hb dX14_opens_17 (by decide) ?_
      refine lv_iadd hx hb dX14_opens_18 ?_
      refine lv_topi (fun z_5 ez_5 => ?_)
      have hz_5 : z_5.toInt = a1.toInt + 1 := by rw [ez_5]; exact jb_iadd2 (rfl) ((by decide)) (by omega)
      refine j7_ialdM hx hb hK hh hB101 1 rfl (by decide) hg_r0 (rfl) (by omega) (j := 0) rfl dX14_opens_19 (fun z_6 ez_6 (hz_6 : True) => ?_)
      have hqz_6 : z_6.toInt = (f0 ((a1.toInt + 1)).toNat).toInt := by rw [ez_6, show z_5.toInt = (a1.toInt + 1) by omega]
      refine lv_bipush (v := 42) hx hb dX14_opens_20 (by decide) ?_
      refine lv_icmp_ne (tgt := 29) hx hb dX14_opens_22 (by decide) (fun c_7 => ?_) (fun c_7 => ?_)
      · skip
        have c_7' : z_6.toInt ≠ 42 := jb_ne (rfl) ((by decide)) c_7
        refine lv_iconst (v := 0) hx hb dX14_opens_29 (by decide) ?_
        rw [hQ]
        exact W.zret (v := 0) hx hb hr (jb_nz (Or.inl rfl)) (fun t ht hW => ⟨⟨0, (), rfl, ⟨(Or.inl rfl), by first | exact Or.inl ⟨by decide, by unfold jOp; refine ⟨by omega, by omega, by omega⟩⟩ | exact Or.inr ⟨by decide, by unfold jOp; omega⟩⟩, hh.rt (M1 := []) [] rfl ht⟩, by rw [ht]; try exact hh.1.1, fun q h9 hq => by rw [ht]; try exact hh.1.2.1 q h9 hq⟩) hh.1.2.2 dX14_opens_30
      · skip
        have c_7' : z_6.toInt = 42 := jb_ne_n (rfl) ((by decide)) c_7
        refine lv_iconst (v := 1) hx hb dX14_opens_25 (by decide) ?_
        refine lv_goto (tgt := 30) hx hb dX14_opens_26 (by decide) ?_
        rw [hQ]
        exact W.zret (v := 1) hx hb hr (jb_nz (Or.inr rfl)) (fun t ht hW => ⟨⟨1, (), rfl, ⟨(Or.inr rfl), by first | exact Or.inl ⟨by decide, by unfold jOp; refine ⟨by omega, by omega, by omega⟩⟩ | exact Or.inr ⟨by decide, by unfold jOp; omega⟩⟩, hh.rt (M1 := []) [] rfl ht⟩, by rw [ht]; try exact hh.1.1, fun q h9 hq => by rw [ht]; try exact hh.1.2.1 q h9 hq⟩) hh.1.2.2 dX14_opens_30
set_option maxHeartbeats 4000000 in
set_option maxRecDepth 20000 in
theorem uX14_closes (l : Launch) (dC : Nat → ClassId) (dI : Nat → Nat → Nat) (ca : Nat → ClassId) (base : Nat) (B : jF) (hB : jBok B) (hAp : jAp (dC, dI)) (hB101 : ∀ n G a H, B 101 n G a H ↔ jAr (dC, dI) (ca 1) (fun j z => True) n a H) (G0 : jT) (H0 : Heap) (r0 : Nat) (a1 : Int32) (a2 : Int32) (n0 : Nat) (f0 : Nat → Int32) : Met l yX14_closes wsX14_closes ({ frames := 0, cells := 0, slots := 0, locals := 0 }) (va_Pc [.ref r0, .int a1, .int a2] (fun U => U.heap = H0 ∧ jX B base G0 [] H0 ∧ jG dC dI ca base U ∧ G0 r0 = some (101, n0) ∧ jP (dC, dI) G0 H0 [] ∧ jMc (dC, dI) G0 H0 [(r0, 101, n0, ca 1, f0)] ∧ 0 ≤ a1.toInt ∧ a1.toInt ≤ 1000000 ∧ a2.toInt ≤ n0 ∧ n0 ≤ 200000)) (va_Qi (S := Unit) (fun r u => (r = 0 ∨ r = 1) ∧ ((r.toInt = 1 ∧ jCl f0 a1.toInt a2.toInt) ∨ (r.toInt = 0 ∧ ¬ jCl f0 a1.toInt a2.toInt))) (fun u t => jRt (dC, dI) B base G0 EX14_closes H0 [] t.heap) (jA base)) 0 0 (jA base) := by
  refine Met.ofW (cc := cX14_closes) (maxL := 3) (ret := (some .boolean)) (by decide) rfl ?_
  intro p e s m args below meth c s₁ Bd hml hv
  obtain ⟨rfl, hH0, hX, hG, hg_r0, hP0, hM0, hp0, hp1, hp2, hp3⟩ := hv
  have hK := hG.1
  have hx := Bd.exec
  have hb := Bd.bytes
  have hr := Bd.returns
  have hts := atoms_spec (ws := wsX14_closes) Bd.pre
  have hown : s.vm.findClass RX14 = some m.cls := findClass_of_methodNamed Bd.named
  have hlocks := Bd.notSynchronized
  obtain ⟨Q, hQ⟩ : ∃ Q, Q = MQ below (va_Qi (S := Unit) (fun r u => (r = 0 ∨ r = 1) ∧ ((r.toInt = 1 ∧ jCl f0 a1.toInt a2.toInt) ∨ (r.toInt = 0 ∧ ¬ jCl f0 a1.toInt a2.toInt))) (fun u t => jRt (dC, dI) B base G0 EX14_closes H0 [] t.heap) (jA base)) ([.ref r0, .int a1, .int a2] : List Value).toArray s 0 0 (jA base) := ⟨_, rfl⟩
  rw [← hQ]
  have hl := lv_entry ([.ref r0, .int a1, .int a2]) (n := 3) (Nat.le_of_ble_eq_true rfl)
  rw [lg_entry_eq]
  generalize (lg_sl ([.ref r0, .int a1, .int a2]) ++ List.replicate (3 - (lg_sl ([.ref r0, .int a1, .int a2])).length) Slot.unset).toArray = ls at hl ⊢
  have hl : lv_has ls 3 [(0, .ref r0), (1, .int a1), (2, .int a2)] := hl
  generalize hR : (headSpec wsX14_closes ({ frames := 0, cells := 0, slots := 0, locals := 0 })).room = R
  subst hH0
  have hh : jSt (dC, dI) B base G0 G0 EX14_closes s.heap 0 0 [] [(r0, 101, n0, ca 1, f0)] [] s.heap [] := jSt.start hX hP0 hM0 jIs.nil
  clear hX hP0
  have hk0 : (0 : Int32).toInt = 0 := by decide
  have hk1 : (1 : Int32).toInt = 1 := by decide
  have hk41 : (41 : Int32).toInt = 41 := by decide
  have hk42 : (42 : Int32).toInt = 42 := by decide
  have hrg_a1 := jb_rng a1
  have hrg_a2 := jb_rng a2
  refine lv_iload_n hx hb dX14_closes_0 rfl (lv_at hl 1 rfl) ?_
  refine lv_iconst (v := 1) hx hb dX14_closes_1 (by decide) ?_
  refine lv_iadd hx hb dX14_closes_2 ?_
  refine lv_topi (fun z_1 ez_1 => ?_)
  have hz_1 : z_1.toInt = a1.toInt + 1 := by rw [ez_1]; exact jb_iadd2 (rfl) ((by decide)) (by omega)
  refine lv_iload_n hx hb dX14_closes_3 rfl (lv_at hl 2 rfl) ?_
  refine lv_icmp_ge (tgt := 29) hx hb dX14_closes_4 (by decide) (fun c_2 => ?_) (fun c_2 => ?_)
  · skip
    have c_2' : z_1.toInt ≥ a2.toInt := jb_ge (rfl) (rfl) c_2
    refine lv_iconst (v := 0) hx hb dX14_closes_29 (by decide) ?_
    rw [hQ]
    exact W.zret (v := 0) hx hb hr (jb_nz (Or.inl rfl)) (fun t ht hW => ⟨⟨0, (), rfl, ⟨(Or.inl rfl), by first | exact Or.inl ⟨by decide, by unfold jCl; refine ⟨by omega, by omega, by omega⟩⟩ | exact Or.inr ⟨by decide, by unfold jCl; omega⟩⟩, hh.rt (M1 := []) [] rfl ht⟩, by rw [ht]; try exact hh.1.1, fun q h9 hq => by rw [ht]; try exact hh.1.2.1 q h9 hq⟩) hh.1.2.2 dX14_closes_30
  · skip
    have c_2' : z_1.toInt < a2.toInt := jb_ge_n (rfl) (rfl) c_2
    refine lv_aload_n hx hb dX14_closes_7 rfl (lv_at hl 0 rfl) ?_
    refine lv_iload_n hx hb dX14_closes_8 rfl (lv_at hl 1 rfl) ?_
    refine j7_ialdM hx hb hK hh hB101 1 rfl (by decide) hg_r0 (rfl) (by omega) (j := 0) rfl dX14_closes_9 (fun z_3 ez_3 (hz_3 : True) => ?_)
    have hqz_3 : z_3.toInt = (f0 (a1.toInt).toNat).toInt := by rw [ez_3]
    refine lv_bipush (v := 42) hx hb dX14_closes_10 (by decide) ?_
    refine lv_icmp_ne (tgt := 29) hx hb dX14_closes_12 (by decide) (fun c_4 => ?_) (fun c_4 => ?_)
    · skip
      have c_4' : z_3.toInt ≠ 42 := jb_ne (rfl) ((by decide)) c_4
      refine lv_iconst (v := 0) hx hb dX14_closes_29 (by decide) ?_
      rw [hQ]
      exact W.zret (v := 0) hx hb hr (jb_nz (Or.inl rfl)) (fun t ht hW => ⟨⟨0, (), rfl, ⟨(Or.inl rfl), by first | exact Or.inl ⟨by decide, by unfold jCl; refine ⟨by omega, by omega, by omega⟩⟩ | exact Or.inr ⟨by decide, by unfold jCl; omega⟩⟩, hh.rt (M1 := []) [] rfl ht⟩, by rw [ht]; try exact hh.1.1, fun q h9 hq => by rw [ht]; try exact hh.1.2.1 q h9 hq⟩) hh.1.2.2 dX14_closes_30
    · skip
      have c_4' : z_3.toInt = 42 := jb_ne_n (rfl) ((by decide)) c_4
      refine lv_aload_n hx hb dX14_closes_15 rfl (lv_at hl 0 rfl) ?_
      refine lv_iload_n hx hb dX14_closes_16 rfl (lv_at hl 1 rfl) ?_
      refine lv_iconst (v := 1) hx hb dX14_closes_17 (by decide) ?_
      refine lv_iadd hx hb dX14_closes_18 ?_
      refine lv_topi (fun z_5 ez_5 => ?_)
      have hz_5 : z_5.toInt = a1.toInt + 1 := by rw [ez_5]; exact jb_iadd2 (rfl) ((by decide)) (by omega)
      refine j7_ialdM hx hb hK hh hB101 1 rfl (by decide) hg_r0 (rfl) (by omega) (j := 0) rfl dX14_closes_19 (fun z_6 ez_6 (hz_6 : True) => ?_)
      have hqz_6 : z_6.toInt = (f0 ((a1.toInt + 1)).toNat).toInt := by rw [ez_6, show z_5.toInt = (a1.toInt + 1) by omega]
      refine lv_bipush (v := 41) hx hb dX14_closes_20 (by decide) ?_
      refine lv_icmp_ne (tgt := 29) hx hb dX14_closes_22 (by decide) (fun c_7 => ?_) (fun c_7 => ?_)
      · skip
        have c_7' : z_6.toInt ≠ 41 := jb_ne (rfl) ((by decide)) c_7
        refine lv_iconst (v := 0) hx hb dX14_closes_29 (by decide) ?_
        rw [hQ]
        exact W.zret (v := 0) hx hb hr (jb_nz (Or.inl rfl)) (fun t ht hW => ⟨⟨0, (), rfl, ⟨(Or.inl rfl), by first | exact Or.inl ⟨by decide, by unfold jCl; refine ⟨by omega, by omega, by omega⟩⟩ | exact Or.inr ⟨by decide, by unfold jCl; omega⟩⟩, hh.rt (M1 := []) [] rfl ht⟩, by rw [ht]; try exact hh.1.1, fun q h9 hq => by rw [ht]; try exact hh.1.2.1 q h9 hq⟩) hh.1.2.2 dX14_closes_30
      · skip
        have c_7' : z_6.toInt = 41 := jb_ne_n (rfl) ((by decide)) c_7
        refine lv_iconst (v := 1) hx hb dX14_closes_25 (by decide) ?_
        refine lv_goto (tgt := 30) hx hb dX14_closes_26 (by decide) ?_
        rw [hQ]
        exact W.zret (v := 1) hx hb hr (jb_nz (Or.inr rfl)) (fun t ht hW => ⟨⟨1, (), rfl, ⟨(Or.inr rfl), by first | exact Or.inl ⟨by decide, by unfold jCl; refine ⟨by omega, by omega, by omega⟩⟩ | exact Or.inr ⟨by decide, by unfold jCl; omega⟩⟩, hh.rt (M1 := []) [] rfl ht⟩, by rw [ht]; try exact hh.1.1, fun q h9 hq => by rw [ht]; try exact hh.1.2.1 q h9 hq⟩) hh.1.2.2 dX14_closes_30
