section
def EX0_putF : List (Nat × Nat) := [(2, 1), (196, 0)]
def EX0_textF : List (Nat × Nat) := [(2, 1), (196, 0)]
def EX0_appendF : List (Nat × Nat) := [(2, 1), (196, 0)]
def EX0_numberF : List (Nat × Nat) := [(2, 1), (196, 0)]
set_option maxHeartbeats 4000000 in
set_option maxRecDepth 20000 in
theorem uX0_putF (l : Launch) (dC : Nat → ClassId) (dI : Nat → Nat → Nat) (ca : Nat → ClassId) (base : Nat) (B : jF) (hB : jBok B) (hAp : jAp (dC, dI)) (hB2 : ∀ n G a H, B 2 n G a H ↔ jOb (dC, dI) 2 2 (F2 n G) a H) (hB196 : ∀ n G a H, B 196 n G a H ↔ jAr (dC, dI) (ca 0) (fun j z => jBf j z) n a H) (G0 : jT) (H0 : Heap) (r0 : Nat) (a1 : Int32) (n0 : Nat) (pc : Int32) (pa : Nat) (n_pa : Nat) : Met l yX0_put (jw yX0_put cX0_put 2 none) ({ frames := 2, cells := 0, slots := 0, locals := 62 }) (va_Pc [.ref r0, .int a1] (fun U => U.heap = H0 ∧ jX B base G0 [] H0 ∧ jG dC dI ca base U ∧ G0 r0 = some (2, n0) ∧ G0 pa = some (196, n_pa) ∧ jP (dC, dI) G0 H0 [(r0, 2, 1, .int pc), (r0, 2, 0, .ref pa)] ∧ 1 ≤ n0 ∧ n0 ≤ 20000 ∧ 0 ≤ pc.toInt ∧ n_pa = n0 ∧ pc.toInt < n0)) (va_Qv (S := Int32) (fun u => u.toInt = pc.toInt + 1) (fun u t => (jRt (dC, dI) B base G0 EX0_putF H0 [(r0, 2, 1, .int u)] t.heap) ∧ jOw (dC, dI) G0 2 r0 H0 t.heap) (jA base)) 0 0 (jA base) := by
  refine Met.ofW (cc := cX0_put) (maxL := 2) (ret := none) (by decide) rfl ?_
  intro p e s m args below meth c s₁ Bd hml hv
  obtain ⟨rfl, hH0, hX, hG, hg_r0, hg_pa, hP0, hp0, hp1, hp2, hp3, hp4⟩ := hv
  have hK := hG.1
  have hx := Bd.exec
  have hb := Bd.bytes
  have hr := Bd.returns
  have hts := atoms_spec (ws := (jw yX0_put cX0_put 2 none)) Bd.pre
  have htw : ∀ w ∈ jWl, w.before _ s = true := fun w h => hts w (List.mem_cons_of_mem _ h)
  have hown : s.vm.findClass RX0 = some m.cls := findClass_of_methodNamed Bd.named
  have hlocks := Bd.notSynchronized
  obtain ⟨Q, hQ⟩ : ∃ Q, Q = MQ below (va_Qv (S := Int32) (fun u => u.toInt = pc.toInt + 1) (fun u t => (jRt (dC, dI) B base G0 EX0_putF H0 [(r0, 2, 1, .int u)] t.heap) ∧ jOw (dC, dI) G0 2 r0 H0 t.heap) (jA base)) ([.ref r0, .int a1] : List Value).toArray s 0 0 (jA base) := ⟨_, rfl⟩
  rw [← hQ]
  have hl := lv_entry ([.ref r0, .int a1]) (n := 2) (Nat.le_of_ble_eq_true rfl)
  rw [lg_entry_eq]
  generalize (lg_sl ([.ref r0, .int a1]) ++ List.replicate (2 - (lg_sl ([.ref r0, .int a1])).length) Slot.unset).toArray = ls at hl ⊢
  have hl : lv_has ls 2 [(0, .ref r0), (1, .int a1)] := hl
  generalize hR : (headSpec (jw yX0_put cX0_put 2 none) ({ frames := 2, cells := 0, slots := 0, locals := 62 })).room = R
  subst hH0
  have hh : jSt (dC, dI) B base G0 G0 EX0_putF s.heap 0 0 [(r0, 2, 1, .int pc), (r0, 2, 0, .ref pa)] [] [] s.heap [] := jSt.start hX hP0 jMc.nil jIs.nil
  clear hX hP0
  have hk0 : (0 : Int32).toInt = 0 := by decide
  have hk1 : (1 : Int32).toInt = 1 := by decide
  have hk2 : (2 : Int32).toInt = 2 := by decide
  have hk1000000 : (1000000 : Int32).toInt = 1000000 := by decide
  have hly_2_0 := htw (u_lay RX0 TX0 0) (jWc_wsX00 _ (u_in_lay (by decide)))
  have hly_2_1 := htw (u_lay RX0 TX0 1) (jWc_wsX00 _ (u_in_lay (by decide)))
  have hlk_19 := (htw (.fieldLink RX0 19 "ProofServer$Bytes" "count" "I") (jWr_16 _ (List.mem_of_getElem? (i := 3) rfl)))
  have hlk_13 := (htw (.fieldLink RX0 13 "ProofServer$Bytes" "row" "[B") (jWr_3 _ (List.mem_of_getElem? (i := 10) rfl)))
  have hcs_23 := htw (.constant RX0 23 1000000) (jWr_16 _ (List.mem_of_getElem? (i := 4) rfl))
  have hrg_a1 := jb_rng a1
  have hh_1 := hh.addI (jOw.ie (dC := dC) (dI := dI) (G0 := G0) (k := 2) (r := r0) (H0 := s.heap) (F := [(2, 0), (2, 1)]) (C := RX0) (T := TX0) (N := 2) rfl (by decide) hh.2.2.2.2.1 (jOw.rf))
  clear hh
  refine lv_aload_n hx hb dX0_put_0 rfl (lv_at hl 0 rfl) ?_
  refine j7_read hx hb hown hK (C := RX0) (T := TX0) (N := 2) rfl hly_2_1 hlk_19 (hh_1.at 0 rfl) dX0_put_1 ?_
  refine lv_aload_n hx hb dX0_put_4 rfl (lv_at hl 0 rfl) ?_
  refine j7_read hx hb hown hK (C := RX0) (T := TX0) (N := 2) rfl hly_2_0 hlk_13 (hh_1.at 1 rfl) dX0_put_5 ?_
  refine j7_len hx hb hK hh_1 hB196 0 rfl (by decide) hg_pa (by omega) dX0_put_8 (fun z_2 hz_2 => ?_)
  refine lv_icmp_lt (tgt := 39) hx hb dX0_put_9 (by decide) (fun c_3 => ?_) (fun c_3 => ?_)
  · skip
    have c_3' : pc.toInt < z_2.toInt := jb_lt (rfl) (rfl) c_3
    refine lv_aload_n hx hb dX0_put_39 rfl (lv_at hl 0 rfl) ?_
    refine j7_read hx hb hown hK (C := RX0) (T := TX0) (N := 2) rfl hly_2_1 hlk_19 (hh_1.at 0 rfl) dX0_put_40 ?_
    refine lv_if_lt (tgt := 79) hx hb dX0_put_43 (by decide) (fun c_4 => ?_) (fun c_4 => ?_)
    · skip
      have c_4' : pc.toInt < 0 := jb_lt (rfl) ((by decide)) c_4
      exact absurd c_4' (by omega)
    · skip
      have c_4' : pc.toInt ≥ 0 := jb_lt_n (rfl) ((by decide)) c_4
      refine lv_aload_n hx hb dX0_put_46 rfl (lv_at hl 0 rfl) ?_
      refine j7_read hx hb hown hK (C := RX0) (T := TX0) (N := 2) rfl hly_2_1 hlk_19 (hh_1.at 0 rfl) dX0_put_47 ?_
      refine lv_aload_n hx hb dX0_put_50 rfl (lv_at hl 0 rfl) ?_
      refine j7_read hx hb hown hK (C := RX0) (T := TX0) (N := 2) rfl hly_2_0 hlk_13 (hh_1.at 1 rfl) dX0_put_51 ?_
      refine j7_len hx hb hK hh_1 hB196 0 rfl (by decide) hg_pa (by omega) dX0_put_54 (fun z_5 hz_5 => ?_)
      refine lv_icmp_ge (tgt := 79) hx hb dX0_put_55 (by decide) (fun c_6 => ?_) (fun c_6 => ?_)
      · skip
        have c_6' : pc.toInt ≥ z_5.toInt := jb_ge (rfl) (rfl) c_6
        exact absurd c_6' (by omega)
      · skip
        have c_6' : pc.toInt < z_5.toInt := jb_ge_n (rfl) (rfl) c_6
        refine lv_aload_n hx hb dX0_put_58 rfl (lv_at hl 0 rfl) ?_
        refine j7_read hx hb hown hK (C := RX0) (T := TX0) (N := 2) rfl hly_2_0 hlk_13 (hh_1.at 1 rfl) dX0_put_59 ?_
        refine lv_aload_n hx hb dX0_put_62 rfl (lv_at hl 0 rfl) ?_
        refine j7_read hx hb hown hK (C := RX0) (T := TX0) (N := 2) rfl hly_2_1 hlk_19 (hh_1.at 0 rfl) dX0_put_63 ?_
        refine lv_iload_n hx hb dX0_put_66 rfl (lv_at hl 1 rfl) ?_
        refine lv_i2b hx hb dX0_put_67 rfl ?_
        refine lv_topi (fun z_7 ez_7 => ?_)
        refine j7_bastF hx hb hK hh_1 hB hB196 0 rfl (by decide) (by decide) rfl rfl rfl hg_pa (x := pc.toInt) (rfl) (by omega) dX0_put_68 (fun H_8 locs_8 hh_8 => ?_)
        clear hh_1
        refine lv_aload_n hx hb dX0_put_69 rfl (lv_at hl 0 rfl) ?_
        refine lv_dup hx hb dX0_put_70 rfl ?_
        refine j7_read hx hb hown hK (C := RX0) (T := TX0) (N := 2) rfl hly_2_1 hlk_19 (hh_8.at 0 rfl) dX0_put_71 ?_
        refine lv_iconst (v := 1) hx hb dX0_put_74 (by decide) ?_
        refine lv_iadd hx hb dX0_put_75 ?_
        refine lv_topi (fun z_9 ez_9 => ?_)
        have hz_9 : z_9.toInt = pc.toInt + 1 := by rw [ez_9]; exact jb_iadd2 (rfl) ((by decide)) (by omega)
        have hd_11 := hh_8.iv 0 rfl
        have hh_12 := hh_8.sub (L1 := [(r0, 2, 1, .int pc), (r0, 2, 0, .ref pa)]) [0, 1] rfl (M1 := []) [] rfl (I1 := []) [] rfl
        clear hh_8
        refine j7_putX hx hb hown hK hh_12 hB hAp hB2 (C := RX0) (T := TX0) (N := 2) rfl (by decide) hg_r0 (i := 1) (by decide) hly_2_1 rfl hlk_19 rfl (ty := .int) (v := .int z_9) (by decide +kernel) rfl rfl (⟨_, rfl, by omega, by omega, by omega⟩) rfl (L1 := [(r0, 2, 0, .ref pa)]) [1] rfl rfl rfl dX0_put_76 (fun H_10 locs_10 hr_10 hh_10 => ?_)
        clear hh_12
        have hd_11n := jOw.put hd_11 hr_10
        have hh_13 := hh_10.addI (jOw.ie (dC := dC) (dI := dI) (G0 := G0) (k := 2) (r := r0) (H0 := s.heap) (F := [(2, 0), (2, 1)]) (C := RX0) (T := TX0) (N := 2) rfl (by decide) hh_10.2.2.2.2.1 (hd_11n))
        clear hh_10
        clear hd_11 hd_11n hr_10
        rw [hQ]
        exact W.vret hx hb hr (fun t ht hW => ⟨⟨z_9, rfl, by first | omega | rfl | assumption | decide | exact Or.inl rfl | exact Or.inr rfl | (simp only; omega), ⟨hh_13.rt (M1 := [(r0, 2, 1, .int z_9)]) [0] rfl ht, by rw [ht]; exact hh_13.iv 0 rfl⟩⟩, by rw [ht]; try exact hh_13.1.1, fun q h9 hq => by rw [ht]; try exact hh_13.1.2.1 q h9 hq⟩) hh_13.1.2.2 dX0_put_79
  · skip
    have c_3' : pc.toInt ≥ z_2.toInt := jb_lt_n (rfl) (rfl) c_3
    exact absurd c_3' (by omega)
set_option maxHeartbeats 4000000 in
set_option maxRecDepth 20000 in
theorem uX0_textF (l : Launch) (dC : Nat → ClassId) (dI : Nat → Nat → Nat) (ca : Nat → ClassId) (base : Nat) (B : jF) (hB : jBok B) (hAp : jAp (dC, dI)) (hB2 : ∀ n G a H, B 2 n G a H ↔ jOb (dC, dI) 2 2 (F2 n G) a H) (hB196 : ∀ n G a H, B 196 n G a H ↔ jAr (dC, dI) (ca 0) (fun j z => jBf j z) n a H) (G0 : jT) (H0 : Heap) (r0 : Nat) (r1 : Nat) (n1 : Nat) (n0 : Nat) (pc : Int32) (pa : Nat) (n_pa : Nat) : Met l yX0_text (jw yX0_text cX0_text 3 none) ({ frames := 4, cells := 0, slots := 0, locals := 141 }) (va_Pc [.ref r0, .ref r1] (fun U => U.heap = H0 ∧ jX B base G0 [] H0 ∧ jG dC dI ca base U ∧ jStr base r1 n1 U H0 ∧ G0 r0 = some (2, n0) ∧ G0 pa = some (196, n_pa) ∧ jP (dC, dI) G0 H0 [(r0, 2, 1, .int pc), (r0, 2, 0, .ref pa)] ∧ 1 ≤ n0 ∧ n0 ≤ 20000 ∧ 0 ≤ pc.toInt ∧ n_pa = n0 ∧ pc.toInt + n1 ≤ n0)) (va_Qv (S := Int32) (fun u => u.toInt = pc.toInt + n1) (fun u t => (jRt (dC, dI) B base G0 EX0_textF H0 [(r0, 2, 1, .int u)] t.heap) ∧ jOw (dC, dI) G0 2 r0 H0 t.heap) (jA base)) 0 0 (jA base) := by
  refine Met.ofW (cc := cX0_text) (maxL := 3) (ret := none) (by decide) rfl ?_
  intro p e s m args below meth c s₁ Bd hml hv
  obtain ⟨rfl, hH0, hX, hG, hstr_r1, hg_r0, hg_pa, hP0, hp0, hp1, hp2, hp3, hp4⟩ := hv
  have hK := hG.1
  have hx := Bd.exec
  have hb := Bd.bytes
  have hr := Bd.returns
  have hts := atoms_spec (ws := (jw yX0_text cX0_text 3 none)) Bd.pre
  have htw : ∀ w ∈ jWl, w.before _ s = true := fun w h => hts w (List.mem_cons_of_mem _ h)
  have hown : s.vm.findClass RX0 = some m.cls := findClass_of_methodNamed Bd.named
  have hlocks := Bd.notSynchronized
  obtain ⟨Q, hQ⟩ : ∃ Q, Q = MQ below (va_Qv (S := Int32) (fun u => u.toInt = pc.toInt + n1) (fun u t => (jRt (dC, dI) B base G0 EX0_textF H0 [(r0, 2, 1, .int u)] t.heap) ∧ jOw (dC, dI) G0 2 r0 H0 t.heap) (jA base)) ([.ref r0, .ref r1] : List Value).toArray s 0 0 (jA base) := ⟨_, rfl⟩
  rw [← hQ]
  have hl := lv_entry ([.ref r0, .ref r1]) (n := 3) (Nat.le_of_ble_eq_true rfl)
  rw [lg_entry_eq]
  generalize (lg_sl ([.ref r0, .ref r1]) ++ List.replicate (3 - (lg_sl ([.ref r0, .ref r1])).length) Slot.unset).toArray = ls at hl ⊢
  have hl : lv_has ls 3 [(0, .ref r0), (1, .ref r1)] := hl
  generalize hR : (headSpec (jw yX0_text cX0_text 3 none) ({ frames := 4, cells := 0, slots := 0, locals := 141 })).room = R
  subst hH0
  have hh : jSt (dC, dI) B base G0 G0 EX0_textF s.heap 0 0 [(r0, 2, 1, .int pc), (r0, 2, 0, .ref pa)] [] [] s.heap [] := jSt.start hX hP0 jMc.nil jIs.nil
  clear hX hP0
  have hk0 : (0 : Int32).toInt = 0 := by decide
  have hk1 : (1 : Int32).toInt = 1 := by decide
  have hh_1 := hh.addI (jOw.ie (dC := dC) (dI := dI) (G0 := G0) (k := 2) (r := r0) (H0 := s.heap) (F := [(2, 0), (2, 1)]) (C := RX0) (T := TX0) (N := 2) rfl (by decide) hh.2.2.2.2.1 (jOw.rf))
  clear hh
  refine lv_iconst (v := 0) hx hb dX0_text_0 (by decide) ?_
  refine lv_istore_n (lv' := [(2, .int 0), (0, .ref r0), (1, .ref r1)]) hx hb dX0_text_1 rfl hl (by decide) rfl (fun ls hl => ?_)
  have L2 : ∀ (N : Nat) (v2_2 : Int32) (wc_2 : Int32) (H_2 : Heap) (locs_2 : List Loc), jSt (dC, dI) B base G0 G0 EX0_textF s.heap 0 0 [(r0, 2, 1, .int wc_2), (r0, 2, 0, .ref pa)] [] [([(2, 0), (2, 1)], jOw (dC, dI) G0 2 r0 s.heap)] H_2 locs_2 → (0 ≤ v2_2.toInt ∧ v2_2.toInt ≤ n1 ∧ wc_2.toInt = pc.toInt + v2_2.toInt) → (n1 - v2_2.toInt : Int) < N → ∀ ls : Array Slot, lv_has ls 3 [(0, .ref r0), (1, .ref r1), (2, .int v2_2)] → W p l e R s m ([.ref r0, .ref r1] : List Value).toArray below meth c H_2 locs_2 0 0 Q (F0 m 2 ls []) := by
    intro N
    induction N with
    | zero => intro v2_2 wc_2 H_2 locs_2 hh_2  hi_2 hm; exact absurd hm (by omega)
    | succ N L2 =>
      intro v2_2 wc_2 H_2 locs_2 hh_2  hi_2 hm_2 ls hl
      obtain ⟨hi_2_0, hi_2_1, hi_2_2⟩ := hi_2
      refine lv_iload_n hx hb dX0_text_2 rfl (lv_at hl 2 rfl) ?_
      refine lv_aload_n hx hb dX0_text_3 rfl (lv_at hl 1 rfl) ?_
      refine vp_callSi (W.runV (As := []) (rest := [.int v2_2]) ⟨hx, hb, hml, hown, hts⟩ (wJ0_length_8abf5 l dC dI ca base H_2 r1 n1) (cwV 0 hts (jgV (jWr_26 _ (List.mem_of_getElem? (i := 1) rfl)) (jWr_5 _ (List.mem_of_getElem? (i := 13) rfl)) (jWr_5 _ (List.mem_of_getElem? (i := 14) rfl)) (jWr_5 _ (List.mem_of_getElem? (i := 15) rfl)) (jWr_5 _ (List.mem_of_getElem? (i := 16) rfl))) rfl rfl rfl (by decide +kernel) ⟨by rw [← hR]; exact Nat.le_of_ble_eq_true rfl, by rw [← hR]; exact Nat.le_of_ble_eq_true rfl⟩) ⟨fun a U g mk q => by obtain ⟨q0, q1, q2, qK, q9⟩ := q; exact ⟨q0, q1, (q2.moved (Vm.Alike.refl U.vm)), jG.calling g mk a qK, q9⟩, jStr_recv hstr_r1 hh_2.1, fun U hU hW => ⟨rfl, hU, (hstr_r1.moved hW.alike).kept hh_2.1.2.1, hG.step hW hU hh_2.1, by omega⟩⟩ rfl rfl hl.1 rfl (lv_room (Nat.le_of_ble_eq_true rfl)) dX0_text_4 ⟨Nat.zero_le _, Nat.zero_le _⟩) (fun r_3 hr_3 => ?_)
      refine lv_icmp_ge (tgt := 25) hx hb dX0_text_7 (by decide) (fun c_4 => ?_) (fun c_4 => ?_)
      · skip
        have c_4' : v2_2.toInt ≥ r_3.toInt := jb_ge (rfl) (rfl) c_4
        rw [hQ]
        exact W.vret hx hb hr (fun t ht hW => ⟨⟨wc_2, rfl, by first | omega | rfl | assumption | decide | exact Or.inl rfl | exact Or.inr rfl | (simp only; omega), ⟨hh_2.rt (M1 := [(r0, 2, 1, .int wc_2)]) [0] rfl ht, by rw [ht]; exact hh_2.iv 0 rfl⟩⟩, by rw [ht]; try exact hh_2.1.1, fun q h9 hq => by rw [ht]; try exact hh_2.1.2.1 q h9 hq⟩) hh_2.1.2.2 dX0_text_25
      · skip
        have c_4' : v2_2.toInt < r_3.toInt := jb_ge_n (rfl) (rfl) c_4
        refine lv_aload_n hx hb dX0_text_10 rfl (lv_at hl 0 rfl) ?_
        refine lv_aload_n hx hb dX0_text_11 rfl (lv_at hl 1 rfl) ?_
        refine lv_iload_n hx hb dX0_text_12 rfl (lv_at hl 2 rfl) ?_
        refine vp_callSi (W.runV (As := [.int v2_2]) (rest := [.ref r0]) ⟨hx, hb, hml, hown, hts⟩ (wJ0_charAt_5068e l dC dI ca base H_2 r1 n1 v2_2) (cwV 1 hts (jgV (jWr_26 _ (List.mem_of_getElem? (i := 2) rfl)) (jWr_6 _ (List.mem_of_getElem? (i := 1) rfl)) (jWr_6 _ (List.mem_of_getElem? (i := 2) rfl)) (jWr_5 _ (List.mem_of_getElem? (i := 15) rfl)) (jWr_6 _ (List.mem_of_getElem? (i := 3) rfl))) rfl rfl rfl (by decide +kernel) ⟨by rw [← hR]; exact Nat.le_of_ble_eq_true rfl, by rw [← hR]; exact Nat.le_of_ble_eq_true rfl⟩) ⟨fun a U g mk q => by obtain ⟨q0, q1, q2, qK, q9⟩ := q; exact ⟨q0, q1, (q2.moved (Vm.Alike.refl U.vm)), jG.calling g mk a qK, q9⟩, jStr_recv hstr_r1 hh_2.1, fun U hU hW => ⟨rfl, hU, (hstr_r1.moved hW.alike).kept hh_2.1.2.1, hG.step hW hU hh_2.1, ⟨by omega, by omega, by omega⟩⟩⟩ rfl rfl hl.1 rfl (lv_room (Nat.le_of_ble_eq_true rfl)) dX0_text_13 ⟨Nat.zero_le _, Nat.zero_le _⟩) (fun r_5 hr_5 => ?_)
        refine va_callv (A0 := jA base) (H0 := s.heap) (va_runV (As := [.int r_5]) (rest := []) ⟨hx, hb, hml, hown, hts⟩ (uX0_putF l dC dI ca base B hB hAp hB2 hB196 G0 H_2 r0 r_5 n0 wc_2 pa n_pa) (cwV 1 hts (jgV (jWr_24 _ (List.mem_of_getElem? (i := 22) rfl)) (jWr_16 _ (List.mem_of_getElem? (i := 0) rfl)) (jWr_16 _ (List.mem_of_getElem? (i := 1) rfl)) (jWr_1 _ (List.mem_of_getElem? (i := 14) rfl)) (jWr_16 _ (List.mem_of_getElem? (i := 2) rfl))) rfl rfl rfl (by decide +kernel) ⟨by rw [← hR]; exact Nat.le_of_ble_eq_true rfl, by rw [← hR]; exact Nat.le_of_ble_eq_true rfl⟩) ⟨fun a U g mk q => by obtain ⟨q0, q1, q2, qK, q10, q11, q12, q13⟩ := q; exact ⟨q0, q1, q2, jG.calling g mk a qK, q10, q11, q12, q13⟩, hh_2.recv (C := RX0) (T := TX0) (N := 2) hB2 rfl (by decide) hg_r0 hK, fun U hU hW => ⟨rfl, hU, hh_2.2.1, hG.step hW hU hh_2.1, hg_r0, hg_pa, (hh_2.2.2.1.sub (L1 := [(r0, 2, 1, .int wc_2), (r0, 2, 0, .ref pa)]) [0, 1] rfl), by first | omega | (refine ⟨?_, ?_, ?_, ?_, ?_⟩ <;> (first | omega | rfl | assumption | decide | exact Or.inl rfl | exact Or.inr rfl | (simp only; omega)))⟩⟩ rfl rfl hl.1 rfl (lv_room (Nat.le_of_ble_eq_true rfl)) dX0_text_16 ⟨Nat.zero_le _, Nat.zero_le _⟩) hh_2.1 (fun q _ h => h) (fun q h => h) (fun u_6 t_6 H_6 locs_6 ht_6 hvm_6 hr_7 hb_6 hz_6 hk_6 hS_6 => ?_)
        obtain ⟨qc_6, rfl⟩ : ∃ z, z = u_6 := ⟨_, rfl⟩
        rw [ht_6] at hb_6
        obtain ⟨hb_6, hbO_6⟩ := hb_6
        obtain ⟨hb_61, hb_62, hb_63, hb_64, hb_65⟩ := hb_6
        have hh_6 : jSt (dC, dI) B base G0 G0 EX0_textF s.heap 0 0 [(r0, 2, 1, .int qc_6), (r0, 2, 0, .ref pa)] [] [] H_6 locs_6 := ((hh_2.call hb_61 hb_62 hb_63 hb_64 hS_6 rfl (L1 := [(r0, 2, 0, .ref pa)]) [1] rfl rfl (M1 := []) [] rfl rfl (I1 := []) [] rfl rfl).more hb_65)
        have hd_8 := jOw.tr (hh_2.iv 0 rfl) hh_2.2.2.2.2.1 hbO_6
        have hh_9 := hh_6.addI (jOw.ie (dC := dC) (dI := dI) (G0 := G0) (k := 2) (r := r0) (H0 := s.heap) (F := [(2, 0), (2, 1)]) (C := RX0) (T := TX0) (N := 2) rfl (by decide) hh_6.2.2.2.2.1 (hd_8))
        clear hh_6
        clear hh_2 ht_6 hvm_6 hz_6 hk_6 hS_6 hb_61 hb_62 hb_63 hb_64 hb_65
        obtain ⟨z_10, ez_10⟩ : ∃ y : Int32, y = v2_2 + 1 := ⟨_, rfl⟩
        refine lv_iinc (v := z_10) (lv' := [(2, .int z_10), (0, .ref r0), (1, .ref r1)]) hx hb dX0_text_19 hl (k := 2) rfl (by rw [ez_10]; rfl) (by decide) rfl (fun ls hl => ?_)
        have hz_10 : z_10.toInt = v2_2.toInt + 1 := by rw [ez_10]; exact jb_iadd2 (rfl) (by decide) (by omega)
        refine lv_goto (tgt := 2) hx hb dX0_text_22 (by decide) ?_
        exact L2 z_10 qc_6 _ _ hh_9 (by first | omega | (refine ⟨?_, ?_, ?_⟩ <;> (first | omega | rfl | assumption | decide | exact Or.inl rfl | exact Or.inr rfl | (simp only; omega)))) (by omega) _ (lv_sub hl [1, 2, 0] rfl)
  exact L2 (n1 - (0 : Int32).toInt : Int).toNat.succ 0 pc _ _ hh_1 (by first | omega | (refine ⟨?_, ?_, ?_⟩ <;> (first | omega | rfl | assumption | decide | exact Or.inl rfl | exact Or.inr rfl | (simp only; omega)))) (by omega) _ (lv_sub hl [1, 2, 0] rfl)
set_option maxHeartbeats 4000000 in
set_option maxRecDepth 20000 in
theorem uX0_appendF (l : Launch) (dC : Nat → ClassId) (dI : Nat → Nat → Nat) (ca : Nat → ClassId) (base : Nat) (B : jF) (hB : jBok B) (hAp : jAp (dC, dI)) (hB2 : ∀ n G a H, B 2 n G a H ↔ jOb (dC, dI) 2 2 (F2 n G) a H) (hB196 : ∀ n G a H, B 196 n G a H ↔ jAr (dC, dI) (ca 0) (fun j z => jBf j z) n a H) (G0 : jT) (H0 : Heap) (r0 : Nat) (r1 : Nat) (n0 : Nat) (pc : Int32) (pa : Nat) (n_pa : Nat) (pd : Int32) (pr : Nat) (n_pr : Nat) : Met l yX0_append (jw yX0_append cX0_append 3 none) ({ frames := 3, cells := 0, slots := 0, locals := 83 }) (va_Pc [.ref r0, .ref r1] (fun U => U.heap = H0 ∧ jX B base G0 [] H0 ∧ jG dC dI ca base U ∧ G0 r0 = some (2, n0) ∧ G0 r1 = some (2, 0) ∧ G0 pa = some (196, n_pa) ∧ G0 pr = some (196, n_pr) ∧ jP (dC, dI) G0 H0 [(r0, 2, 1, .int pc), (r0, 2, 0, .ref pa), (r1, 2, 1, .int pd), (r1, 2, 0, .ref pr)] ∧ 1 ≤ n0 ∧ n0 ≤ 20000 ∧ 0 ≤ pc.toInt ∧ n_pa = n0 ∧ 0 ≤ pd.toInt ∧ pd.toInt ≤ n_pr ∧ n_pr ≤ 1048576 ∧ pc.toInt + pd.toInt ≤ n0)) (va_Qv (S := Int32) (fun u => u.toInt = pc.toInt + pd.toInt) (fun u t => (jRt (dC, dI) B base G0 EX0_appendF H0 [(r0, 2, 1, .int u)] t.heap) ∧ jOw (dC, dI) G0 2 r0 H0 t.heap) (jA base)) 0 0 (jA base) := by
  refine Met.ofW (cc := cX0_append) (maxL := 3) (ret := none) (by decide) rfl ?_
  intro p e s m args below meth c s₁ Bd hml hv
  obtain ⟨rfl, hH0, hX, hG, hg_r0, hg_r1, hg_pa, hg_pr, hP0, hp0, hp1, hp2, hp3, hp4, hp5, hp6, hp7⟩ := hv
  have hK := hG.1
  have hx := Bd.exec
  have hb := Bd.bytes
  have hr := Bd.returns
  have hts := atoms_spec (ws := (jw yX0_append cX0_append 3 none)) Bd.pre
  have htw : ∀ w ∈ jWl, w.before _ s = true := fun w h => hts w (List.mem_cons_of_mem _ h)
  have hown : s.vm.findClass RX0 = some m.cls := findClass_of_methodNamed Bd.named
  have hlocks := Bd.notSynchronized
  obtain ⟨Q, hQ⟩ : ∃ Q, Q = MQ below (va_Qv (S := Int32) (fun u => u.toInt = pc.toInt + pd.toInt) (fun u t => (jRt (dC, dI) B base G0 EX0_appendF H0 [(r0, 2, 1, .int u)] t.heap) ∧ jOw (dC, dI) G0 2 r0 H0 t.heap) (jA base)) ([.ref r0, .ref r1] : List Value).toArray s 0 0 (jA base) := ⟨_, rfl⟩
  rw [← hQ]
  have hl := lv_entry ([.ref r0, .ref r1]) (n := 3) (Nat.le_of_ble_eq_true rfl)
  rw [lg_entry_eq]
  generalize (lg_sl ([.ref r0, .ref r1]) ++ List.replicate (3 - (lg_sl ([.ref r0, .ref r1])).length) Slot.unset).toArray = ls at hl ⊢
  have hl : lv_has ls 3 [(0, .ref r0), (1, .ref r1)] := hl
  generalize hR : (headSpec (jw yX0_append cX0_append 3 none) ({ frames := 3, cells := 0, slots := 0, locals := 83 })).room = R
  subst hH0
  have hh : jSt (dC, dI) B base G0 G0 EX0_appendF s.heap 0 0 [(r0, 2, 1, .int pc), (r0, 2, 0, .ref pa), (r1, 2, 1, .int pd), (r1, 2, 0, .ref pr)] [] [] s.heap [] := jSt.start hX hP0 jMc.nil jIs.nil
  clear hX hP0
  have hk0 : (0 : Int32).toInt = 0 := by decide
  have hk1 : (1 : Int32).toInt = 1 := by decide
  have hly_2_0 := htw (u_lay RX0 TX0 0) (jWc_wsX00 _ (u_in_lay (by decide)))
  have hly_2_1 := htw (u_lay RX0 TX0 1) (jWc_wsX00 _ (u_in_lay (by decide)))
  have hlk_19 := (htw (.fieldLink RX0 19 "ProofServer$Bytes" "count" "I") (jWr_16 _ (List.mem_of_getElem? (i := 3) rfl)))
  have hlk_13 := (htw (.fieldLink RX0 13 "ProofServer$Bytes" "row" "[B") (jWr_3 _ (List.mem_of_getElem? (i := 10) rfl)))
  have hh_1 := hh.addI (jOw.ie (dC := dC) (dI := dI) (G0 := G0) (k := 2) (r := r0) (H0 := s.heap) (F := [(2, 0), (2, 1)]) (C := RX0) (T := TX0) (N := 2) rfl (by decide) hh.2.2.2.2.1 (jOw.rf))
  clear hh
  refine lv_iconst (v := 0) hx hb dX0_append_0 (by decide) ?_
  refine lv_istore_n (lv' := [(2, .int 0), (0, .ref r0), (1, .ref r1)]) hx hb dX0_append_1 rfl hl (by decide) rfl (fun ls hl => ?_)
  have L2 : ∀ (N : Nat) (v2_2 : Int32) (wc_2 : Int32) (H_2 : Heap) (locs_2 : List Loc), jSt (dC, dI) B base G0 G0 EX0_appendF s.heap 0 0 [(r0, 2, 1, .int wc_2), (r0, 2, 0, .ref pa), (r1, 2, 1, .int pd), (r1, 2, 0, .ref pr)] [] [([(2, 0), (2, 1)], jOw (dC, dI) G0 2 r0 s.heap)] H_2 locs_2 → (0 ≤ v2_2.toInt ∧ v2_2.toInt ≤ pd.toInt ∧ wc_2.toInt = pc.toInt + v2_2.toInt) → (pd.toInt - v2_2.toInt : Int) < N → ∀ ls : Array Slot, lv_has ls 3 [(0, .ref r0), (1, .ref r1), (2, .int v2_2)] → W p l e R s m ([.ref r0, .ref r1] : List Value).toArray below meth c H_2 locs_2 0 0 Q (F0 m 2 ls []) := by
    intro N
    induction N with
    | zero => intro v2_2 wc_2 H_2 locs_2 hh_2  hi_2 hm; exact absurd hm (by omega)
    | succ N L2 =>
      intro v2_2 wc_2 H_2 locs_2 hh_2  hi_2 hm_2 ls hl
      obtain ⟨hi_2_0, hi_2_1, hi_2_2⟩ := hi_2
      refine lv_iload_n hx hb dX0_append_2 rfl (lv_at hl 2 rfl) ?_
      refine lv_aload_n hx hb dX0_append_3 rfl (lv_at hl 1 rfl) ?_
      refine j7_read hx hb hown hK (C := RX0) (T := TX0) (N := 2) rfl hly_2_1 hlk_19 (hh_2.at 2 rfl) dX0_append_4 ?_
      refine lv_icmp_ge (tgt := 35) hx hb dX0_append_7 (by decide) (fun c_3 => ?_) (fun c_3 => ?_)
      · skip
        have c_3' : v2_2.toInt ≥ pd.toInt := jb_ge (rfl) (rfl) c_3
        rw [hQ]
        exact W.vret hx hb hr (fun t ht hW => ⟨⟨wc_2, rfl, by first | omega | rfl | assumption | decide | exact Or.inl rfl | exact Or.inr rfl | (simp only; omega), ⟨hh_2.rt (M1 := [(r0, 2, 1, .int wc_2)]) [0] rfl ht, by rw [ht]; exact hh_2.iv 0 rfl⟩⟩, by rw [ht]; try exact hh_2.1.1, fun q h9 hq => by rw [ht]; try exact hh_2.1.2.1 q h9 hq⟩) hh_2.1.2.2 dX0_append_35
      · skip
        have c_3' : v2_2.toInt < pd.toInt := jb_ge_n (rfl) (rfl) c_3
        refine lv_iload_n hx hb dX0_append_10 rfl (lv_at hl 2 rfl) ?_
        refine lv_aload_n hx hb dX0_append_11 rfl (lv_at hl 1 rfl) ?_
        refine j7_read hx hb hown hK (C := RX0) (T := TX0) (N := 2) rfl hly_2_0 hlk_13 (hh_2.at 3 rfl) dX0_append_12 ?_
        refine j7_len hx hb hK hh_2 hB196 0 rfl (by decide) hg_pr (by omega) dX0_append_15 (fun z_4 hz_4 => ?_)
        refine lv_icmp_ge (tgt := 35) hx hb dX0_append_16 (by decide) (fun c_5 => ?_) (fun c_5 => ?_)
        · skip
          have c_5' : v2_2.toInt ≥ z_4.toInt := jb_ge (rfl) (rfl) c_5
          rw [hQ]
          exact W.vret hx hb hr (fun t ht hW => ⟨⟨wc_2, rfl, by first | omega | rfl | assumption | decide | exact Or.inl rfl | exact Or.inr rfl | (simp only; omega), ⟨hh_2.rt (M1 := [(r0, 2, 1, .int wc_2)]) [0] rfl ht, by rw [ht]; exact hh_2.iv 0 rfl⟩⟩, by rw [ht]; try exact hh_2.1.1, fun q h9 hq => by rw [ht]; try exact hh_2.1.2.1 q h9 hq⟩) hh_2.1.2.2 dX0_append_35
        · skip
          have c_5' : v2_2.toInt < z_4.toInt := jb_ge_n (rfl) (rfl) c_5
          refine lv_aload_n hx hb dX0_append_19 rfl (lv_at hl 0 rfl) ?_
          refine lv_aload_n hx hb dX0_append_20 rfl (lv_at hl 1 rfl) ?_
          refine j7_read hx hb hown hK (C := RX0) (T := TX0) (N := 2) rfl hly_2_0 hlk_13 (hh_2.at 3 rfl) dX0_append_21 ?_
          refine lv_iload_n hx hb dX0_append_24 rfl (lv_at hl 2 rfl) ?_
          refine j7_bald hx hb hK hh_2 hB196 0 rfl (by decide) hg_pr (x := v2_2.toInt) (rfl) (by omega) dX0_append_25 (fun z_6 (hz_6 : jBf (v2_2.toInt).toNat z_6) => ?_)
          refine va_callv (A0 := jA base) (H0 := s.heap) (va_runV (As := [.int z_6]) (rest := []) ⟨hx, hb, hml, hown, hts⟩ (uX0_putF l dC dI ca base B hB hAp hB2 hB196 G0 H_2 r0 z_6 n0 wc_2 pa n_pa) (cwV 1 hts (jgV (jWr_24 _ (List.mem_of_getElem? (i := 22) rfl)) (jWr_16 _ (List.mem_of_getElem? (i := 0) rfl)) (jWr_16 _ (List.mem_of_getElem? (i := 1) rfl)) (jWr_1 _ (List.mem_of_getElem? (i := 14) rfl)) (jWr_16 _ (List.mem_of_getElem? (i := 2) rfl))) rfl rfl rfl (by decide +kernel) ⟨by rw [← hR]; exact Nat.le_of_ble_eq_true rfl, by rw [← hR]; exact Nat.le_of_ble_eq_true rfl⟩) ⟨fun a U g mk q => by obtain ⟨q0, q1, q2, qK, q10, q11, q12, q13⟩ := q; exact ⟨q0, q1, q2, jG.calling g mk a qK, q10, q11, q12, q13⟩, hh_2.recv (C := RX0) (T := TX0) (N := 2) hB2 rfl (by decide) hg_r0 hK, fun U hU hW => ⟨rfl, hU, hh_2.2.1, hG.step hW hU hh_2.1, hg_r0, hg_pa, (hh_2.2.2.1.sub (L1 := [(r0, 2, 1, .int wc_2), (r0, 2, 0, .ref pa)]) [0, 1] rfl), by first | omega | (refine ⟨?_, ?_, ?_, ?_, ?_⟩ <;> (first | omega | rfl | assumption | decide | exact Or.inl rfl | exact Or.inr rfl | (simp only; omega)))⟩⟩ rfl rfl hl.1 rfl (lv_room (Nat.le_of_ble_eq_true rfl)) dX0_append_26 ⟨Nat.zero_le _, Nat.zero_le _⟩) hh_2.1 (fun q _ h => h) (fun q h => h) (fun u_7 t_7 H_7 locs_7 ht_7 hvm_7 hr_8 hb_7 hz_7 hk_7 hS_7 => ?_)
          obtain ⟨qc_7, rfl⟩ : ∃ z, z = u_7 := ⟨_, rfl⟩
          rw [ht_7] at hb_7
          obtain ⟨hb_7, hbO_7⟩ := hb_7
          obtain ⟨hb_71, hb_72, hb_73, hb_74, hb_75⟩ := hb_7
          have hh_7 : jSt (dC, dI) B base G0 G0 EX0_appendF s.heap 0 0 [(r0, 2, 1, .int qc_7), (r0, 2, 0, .ref pa), (r1, 2, 0, .ref pr)] [] [] H_7 locs_7 := ((hh_2.call hb_71 hb_72 hb_73 hb_74 hS_7 rfl (L1 := [(r0, 2, 0, .ref pa), (r1, 2, 0, .ref pr)]) [1, 3] rfl rfl (M1 := []) [] rfl rfl (I1 := []) [] rfl rfl).more hb_75)
          have hh_9 := hh_7.more (P1 := [(r1, 2, 1, .int pd)]) (jP.cons hg_r1 (hbO_7 _ _ _ _ (by first | assumption | exact Ne.symm (by assumption) | exact jnek2 hg_r1 hg_r0 (by omega)) hg_r1 (hh_2.at 2 rfl)) jP.nil)
          have hd_10 := jOw.tr (hh_2.iv 0 rfl) hh_2.2.2.2.2.1 hbO_7
          have hh_11 := hh_9.addI (jOw.ie (dC := dC) (dI := dI) (G0 := G0) (k := 2) (r := r0) (H0 := s.heap) (F := [(2, 0), (2, 1)]) (C := RX0) (T := TX0) (N := 2) rfl (by decide) hh_9.2.2.2.2.1 (hd_10))
          clear hh_9
          clear hh_2 ht_7 hvm_7 hz_7 hk_7 hS_7 hb_71 hb_72 hb_73 hb_74 hb_75
          obtain ⟨z_12, ez_12⟩ : ∃ y : Int32, y = v2_2 + 1 := ⟨_, rfl⟩
          refine lv_iinc (v := z_12) (lv' := [(2, .int z_12), (0, .ref r0), (1, .ref r1)]) hx hb dX0_append_29 hl (k := 2) rfl (by rw [ez_12]; rfl) (by decide) rfl (fun ls hl => ?_)
          have hz_12 : z_12.toInt = v2_2.toInt + 1 := by rw [ez_12]; exact jb_iadd2 (rfl) (by decide) (by omega)
          refine lv_goto (tgt := 2) hx hb dX0_append_32 (by decide) ?_
          exact L2 z_12 qc_7 _ _ (hh_11.sub (L1 := [(r0, 2, 1, .int qc_7), (r0, 2, 0, .ref pa), (r1, 2, 1, .int pd), (r1, 2, 0, .ref pr)]) [1, 2, 0, 3] rfl (M1 := []) [] rfl (I1 := [([(2, 0), (2, 1)], jOw (dC, dI) G0 2 r0 s.heap)]) [0] rfl) (by first | omega | (refine ⟨?_, ?_, ?_⟩ <;> (first | omega | rfl | assumption | decide | exact Or.inl rfl | exact Or.inr rfl | (simp only; omega)))) (by omega) _ (lv_sub hl [1, 2, 0] rfl)
  exact L2 (pd.toInt - (0 : Int32).toInt : Int).toNat.succ 0 pc _ _ hh_1 (by first | omega | (refine ⟨?_, ?_, ?_⟩ <;> (first | omega | rfl | assumption | decide | exact Or.inl rfl | exact Or.inr rfl | (simp only; omega)))) (by omega) _ (lv_sub hl [1, 2, 0] rfl)
set_option maxHeartbeats 4000000 in
set_option maxRecDepth 20000 in
theorem uX0_numberF (l : Launch) (dC : Nat → ClassId) (dI : Nat → Nat → Nat) (ca : Nat → ClassId) (base : Nat) (B : jF) (hB : jBok B) (hAp : jAp (dC, dI)) (hB2 : ∀ n G a H, B 2 n G a H ↔ jOb (dC, dI) 2 2 (F2 n G) a H) (hB196 : ∀ n G a H, B 196 n G a H ↔ jAr (dC, dI) (ca 0) (fun j z => jBf j z) n a H) (G0 : jT) (H0 : Heap) (r0 : Nat) (a1 : Int32) (n0 : Nat) (pc : Int32) (pa : Nat) (n_pa : Nat) : Met l yX0_number (jw yX0_number cX0_number 9 none) ({ frames := 3, cells := 0, slots := 0, locals := 83 }) (va_Pc [.ref r0, .int a1] (fun U => U.heap = H0 ∧ jX B base G0 [] H0 ∧ jG dC dI ca base U ∧ G0 r0 = some (2, n0) ∧ G0 pa = some (196, n_pa) ∧ jP (dC, dI) G0 H0 [(r0, 2, 1, .int pc), (r0, 2, 0, .ref pa)] ∧ 1 ≤ n0 ∧ n0 ≤ 20000 ∧ 0 ≤ pc.toInt ∧ n_pa = n0 ∧ 0 ≤ a1.toInt ∧ jNp a1.toInt pc.toInt n0)) (va_Qv (S := Int32) (fun u => pc.toInt ≤ u.toInt ∧ (10 ≤ a1.toInt ∨ u.toInt ≤ pc.toInt + 1) ∧ (100 ≤ a1.toInt ∨ u.toInt ≤ pc.toInt + 2) ∧ (1000 ≤ a1.toInt ∨ u.toInt ≤ pc.toInt + 3) ∧ (10000 ≤ a1.toInt ∨ u.toInt ≤ pc.toInt + 4) ∧ (100000 ≤ a1.toInt ∨ u.toInt ≤ pc.toInt + 5) ∧ (1000000 ≤ a1.toInt ∨ u.toInt ≤ pc.toInt + 6) ∧ (10000000 ≤ a1.toInt ∨ u.toInt ≤ pc.toInt + 7)) (fun u t => (jRt (dC, dI) B base G0 EX0_numberF H0 [(r0, 2, 1, .int u)] t.heap) ∧ jOw (dC, dI) G0 2 r0 H0 t.heap) (jA base)) 0 0 (jA base) := by
  refine Met.ofW (cc := cX0_number) (maxL := 9) (ret := none) (by decide) rfl ?_
  intro p e s m args below meth c s₁ Bd hml hv
  obtain ⟨rfl, hH0, hX, hG, hg_r0, hg_pa, hP0, hp0, hp1, hp2, hp3, hp4, hp5⟩ := hv
  have hK := hG.1
  have hx := Bd.exec
  have hb := Bd.bytes
  have hr := Bd.returns
  have hts := atoms_spec (ws := (jw yX0_number cX0_number 9 none)) Bd.pre
  have htw : ∀ w ∈ jWl, w.before _ s = true := fun w h => hts w (List.mem_cons_of_mem _ h)
  have hown : s.vm.findClass RX0 = some m.cls := findClass_of_methodNamed Bd.named
  have hlocks := Bd.notSynchronized
  obtain ⟨Q, hQ⟩ : ∃ Q, Q = MQ below (va_Qv (S := Int32) (fun u => pc.toInt ≤ u.toInt ∧ (10 ≤ a1.toInt ∨ u.toInt ≤ pc.toInt + 1) ∧ (100 ≤ a1.toInt ∨ u.toInt ≤ pc.toInt + 2) ∧ (1000 ≤ a1.toInt ∨ u.toInt ≤ pc.toInt + 3) ∧ (10000 ≤ a1.toInt ∨ u.toInt ≤ pc.toInt + 4) ∧ (100000 ≤ a1.toInt ∨ u.toInt ≤ pc.toInt + 5) ∧ (1000000 ≤ a1.toInt ∨ u.toInt ≤ pc.toInt + 6) ∧ (10000000 ≤ a1.toInt ∨ u.toInt ≤ pc.toInt + 7)) (fun u t => (jRt (dC, dI) B base G0 EX0_numberF H0 [(r0, 2, 1, .int u)] t.heap) ∧ jOw (dC, dI) G0 2 r0 H0 t.heap) (jA base)) ([.ref r0, .int a1] : List Value).toArray s 0 0 (jA base) := ⟨_, rfl⟩
  rw [← hQ]
  have hl := lv_entry ([.ref r0, .int a1]) (n := 9) (Nat.le_of_ble_eq_true rfl)
  rw [lg_entry_eq]
  generalize (lg_sl ([.ref r0, .int a1]) ++ List.replicate (9 - (lg_sl ([.ref r0, .int a1])).length) Slot.unset).toArray = ls at hl ⊢
  have hl : lv_has ls 9 [(0, .ref r0), (1, .int a1)] := hl
  generalize hR : (headSpec (jw yX0_number cX0_number 9 none) ({ frames := 3, cells := 0, slots := 0, locals := 83 })).room = R
  subst hH0
  have hh : jSt (dC, dI) B base G0 G0 EX0_numberF s.heap 0 0 [(r0, 2, 1, .int pc), (r0, 2, 0, .ref pa)] [] [] s.heap [] := jSt.start hX hP0 jMc.nil jIs.nil
  clear hX hP0
  have hk0 : (0 : Int32).toInt = 0 := by decide
  have hk1 : (1 : Int32).toInt = 1 := by decide
  have hk45 : (45 : Int32).toInt = 45 := by decide
  have hrg_a1 := jb_rng a1
  have hh_1 := hh.addI (jOw.ie (dC := dC) (dI := dI) (G0 := G0) (k := 2) (r := r0) (H0 := s.heap) (F := [(2, 0), (2, 1)]) (C := RX0) (T := TX0) (N := 2) rfl (by decide) hh.2.2.2.2.1 (jOw.rf))
  clear hh
  refine lv_iload_n hx hb dX0_number_0 rfl (lv_at hl 1 rfl) ?_
  refine lv_i2l hx hb dX0_number_1 rfl ?_
  refine lv_topl (fun z_2 ez_2 => ?_)
  have hz_2 : z_2.toInt = a1.toInt := by rw [ez_2]; exact Int32.toInt_toInt64 _
  refine lv_lstore_n (lv' := [(2, .long z_2), (0, .ref r0), (1, .int a1)]) hx hb dX0_number_2 rfl hl (by decide) rfl (fun ls hl => ?_)
  refine lv_lload_n hx hb dX0_number_3 rfl (lv_at hl 0 rfl) ?_
  refine lv_lconst (v := 0) hx hb dX0_number_4 (by decide) ?_
  refine W.lcmp hx hb dX0_number_5 ?_
  refine lv_topi (fun z_3 ez_3 => ?_)
  have hz_3 := jb_lcmp ez_3
  have hqz_3_0 : (0 : Int64).toInt = 0 := by decide
  refine lv_if_ge (tgt := 18) hx hb dX0_number_6 (by decide) (fun c_4 => ?_) (fun c_4 => ?_)
  · skip
    have c_4' : z_3.toInt ≥ 0 := jb_ge (rfl) ((by decide)) c_4
    refine lv_iconst (v := 0) hx hb dX0_number_18 (by decide) ?_
    refine lv_istore (lv' := [(4, .int 0), (2, .long z_2), (0, .ref r0), (1, .int a1)]) hx hb dX0_number_19 hl (by decide) rfl (fun ls hl => ?_)
    refine lv_ldc2 hx hb hown (htw (.constantLong RX0 44 1000000000) (jWr_24 _ (List.mem_of_getElem? (i := 19) rfl))) dX0_number_21 ?_
    refine lv_lstore (lv' := [(5, .long 1000000000), (4, .int 0), (2, .long z_2), (0, .ref r0), (1, .int a1)]) hx hb dX0_number_24 hl (by decide) rfl (fun ls hl => ?_)
    have L26 : ∀ (N : Nat) (v4_5 : Int32) (v5_5 : Int64) (wc_5 : Int32) (gk : Int) (H_5 : Heap) (locs_5 : List Loc), jSt (dC, dI) B base G0 G0 EX0_numberF s.heap 0 0 [(r0, 2, 1, .int wc_5), (r0, 2, 0, .ref pa)] [] [([(2, 0), (2, 1)], jOw (dC, dI) G0 2 r0 s.heap)] H_5 locs_5 → (v4_5 = 0 ∨ v4_5 = 1) → (pc.toInt ≤ wc_5.toInt ∧ 0 ≤ v5_5.toInt ∧ jNdg z_2.toInt v5_5.toInt gk (wc_5.toInt - pc.toInt) v4_5.toInt) → (v5_5.toInt : Int) < N → ∀ ls : Array Slot, lv_has ls 9 [(0, .ref r0), (1, .int a1), (2, .long z_2), (4, .int v4_5), (5, .long v5_5)] → W p l e R s m ([.ref r0, .int a1] : List Value).toArray below meth c H_5 locs_5 0 0 Q (F0 m 26 ls []) := by
      intro N
      induction N with
      | zero => intro v4_5 v5_5 wc_5 gk H_5 locs_5 hh_5 hb_v4_5 hi_5 hm; exact absurd hm (by omega)
      | succ N L26 =>
        intro v4_5 v5_5 wc_5 gk H_5 locs_5 hh_5 hb_v4_5 hi_5 hm_5 ls hl
        obtain ⟨hi_5_0, hi_5_1, hi_5_2⟩ := hi_5
        have hb_v4_5' := jb_01 hb_v4_5
        refine lv_lload hx hb dX0_number_26 (lv_at hl 4 rfl) ?_
        refine lv_lconst (v := 0) hx hb dX0_number_28 (by decide) ?_
        refine W.lcmp hx hb dX0_number_29 ?_
        refine lv_topi (fun z_6 ez_6 => ?_)
        have hz_6 := jb_lcmp ez_6
        have hqz_6_0 : (0 : Int64).toInt = 0 := by decide
        refine lv_if_le (tgt := 96) hx hb dX0_number_30 (by decide) (fun c_7 => ?_) (fun c_7 => ?_)
        · skip
          have c_7' : z_6.toInt ≤ 0 := jb_le (rfl) ((by decide)) c_7
          rw [hQ]
          exact W.vret hx hb hr (fun t ht hW => ⟨⟨wc_5, rfl, by obtain ⟨h1, h2, h3, h4, h5, h6, h7⟩ := hi_5_2.end (by omega); rw [show z_2.toInt = a1.toInt by omega] at h1 h2 h3 h4 h5 h6 h7; refine ⟨by omega, ?_, ?_, ?_, ?_, ?_, ?_, ?_⟩; (clear h2 h3 h4 h5 h6 h7; omega); (clear h1 h3 h4 h5 h6 h7; omega); (clear h1 h2 h4 h5 h6 h7; omega); (clear h1 h2 h3 h5 h6 h7; omega); (clear h1 h2 h3 h4 h6 h7; omega); (clear h1 h2 h3 h4 h5 h7; omega); (clear h1 h2 h3 h4 h5 h6; omega), ⟨hh_5.rt (M1 := [(r0, 2, 1, .int wc_5)]) [0] rfl ht, by rw [ht]; exact hh_5.iv 0 rfl⟩⟩, by rw [ht]; try exact hh_5.1.1, fun q h9 hq => by rw [ht]; try exact hh_5.1.2.1 q h9 hq⟩) hh_5.1.2.2 dX0_number_96
        · skip
          have c_7' : z_6.toInt > 0 := jb_le_n (rfl) ((by decide)) c_7
          refine lv_lload_n hx hb dX0_number_33 rfl (lv_at hl 2 rfl) ?_
          refine lv_lload hx hb dX0_number_34 (lv_at hl 4 rfl) ?_
          refine lv_ldiv hx hb dX0_number_36 (jb_lne (by omega)) ?_
          refine lv_topl (fun z_8 ez_8 => ?_)
          have hz_8 : z_8.toInt = z_2.toInt / v5_5.toInt := by rw [ez_8]; exact jb_ldiv (rfl) (rfl) (by omega) (by omega)
          have hbz_8 : 0 ≤ z_8.toInt := by rw [hz_8]; exact Int.ediv_nonneg (by omega) (by omega)
          refine lv_ldc2 hx hb hown (htw (.constantLong RX0 46 10) (jWr_24 _ (List.mem_of_getElem? (i := 20) rfl))) dX0_number_37 ?_
          refine lv_lrem hx hb dX0_number_40 (by decide) ?_
          refine lv_topl (fun z_9 ez_9 => ?_)
          have hbz_9 := jb_lremz ez_9
          refine lv_lstore (lv' := [(7, .long z_9), (0, .ref r0), (1, .int a1), (2, .long z_2), (4, .int v4_5), (5, .long v5_5)]) hx hb dX0_number_41 hl (by decide) rfl (fun ls hl => ?_)
          refine lv_iload hx hb dX0_number_43 (lv_at hl 4 rfl) ?_
          refine lv_if_ne (tgt := 62) hx hb dX0_number_45 (by decide) (fun c_10 => ?_) (fun c_10 => ?_)
          · skip
            have c_10' : v4_5.toInt ≠ 0 := jb_ne (rfl) ((by decide)) c_10
            refine lv_iconst (v := 1) hx hb dX0_number_62 (by decide) ?_
            refine lv_goto (tgt := 67) hx hb dX0_number_63 (by decide) ?_
            refine lv_istore (lv' := [(4, .int 1), (7, .long z_9), (0, .ref r0), (1, .int a1), (2, .long z_2), (5, .long v5_5)]) hx hb dX0_number_67 hl (by decide) rfl (fun ls hl => ?_)
            refine lv_iload hx hb dX0_number_69 (lv_at hl 0 rfl) ?_
            refine lv_if_eq (tgt := 85) hx hb dX0_number_71 (by decide) (fun c_11 => ?_) (fun c_11 => ?_)
            · skip
              exact absurd c_11 (by decide)
            · skip
              have hnp : jNp (z_2.toInt) pc.toInt n0 := by rw [show z_2.toInt = a1.toInt by omega]; assumption
              have hlt := jNdg.lt hi_5_2 (by omega) (by first | (left; omega) | (right; left; omega) | (right; right; omega)) hnp
              refine lv_aload_n hx hb dX0_number_74 rfl (lv_at hl 2 rfl) ?_
              refine lv_ldc2 hx hb hown (htw (.constantLong RX0 48 48) (jWr_24 _ (List.mem_of_getElem? (i := 21) rfl))) dX0_number_75 ?_
              refine lv_lload hx hb dX0_number_78 (lv_at hl 1 rfl) ?_
              refine lv_ladd hx hb dX0_number_80 ?_
              refine lv_topl (fun z_12 ez_12 => ?_)
              refine lv_l2i hx hb dX0_number_81 rfl ?_
              refine lv_topi (fun z_13 ez_13 => ?_)
              refine va_callv (A0 := jA base) (H0 := s.heap) (va_runV (As := [.int z_13]) (rest := []) ⟨hx, hb, hml, hown, hts⟩ (uX0_putF l dC dI ca base B hB hAp hB2 hB196 G0 H_5 r0 z_13 n0 wc_5 pa n_pa) (cwV 1 hts (jgV (jWr_24 _ (List.mem_of_getElem? (i := 22) rfl)) (jWr_16 _ (List.mem_of_getElem? (i := 0) rfl)) (jWr_16 _ (List.mem_of_getElem? (i := 1) rfl)) (jWr_1 _ (List.mem_of_getElem? (i := 14) rfl)) (jWr_16 _ (List.mem_of_getElem? (i := 2) rfl))) rfl rfl rfl (by decide +kernel) ⟨by rw [← hR]; exact Nat.le_of_ble_eq_true rfl, by rw [← hR]; exact Nat.le_of_ble_eq_true rfl⟩) ⟨fun a U g mk q => by obtain ⟨q0, q1, q2, qK, q10, q11, q12, q13⟩ := q; exact ⟨q0, q1, q2, jG.calling g mk a qK, q10, q11, q12, q13⟩, hh_5.recv (C := RX0) (T := TX0) (N := 2) hB2 rfl (by decide) hg_r0 hK, fun U hU hW => ⟨rfl, hU, hh_5.2.1, hG.step hW hU hh_5.1, hg_r0, hg_pa, (hh_5.2.2.1.sub (L1 := [(r0, 2, 1, .int wc_5), (r0, 2, 0, .ref pa)]) [0, 1] rfl), by first | omega | (refine ⟨?_, ?_, ?_, ?_, ?_⟩ <;> (first | omega | rfl | assumption | decide | exact Or.inl rfl | exact Or.inr rfl | (simp only; omega)))⟩⟩ rfl rfl hl.1 rfl (lv_room (Nat.le_of_ble_eq_true rfl)) dX0_number_82 ⟨Nat.zero_le _, Nat.zero_le _⟩) hh_5.1 (fun q _ h => h) (fun q h => h) (fun u_14 t_14 H_14 locs_14 ht_14 hvm_14 hr_15 hb_14 hz_14 hk_14 hS_14 => ?_)
              obtain ⟨qc_14, rfl⟩ : ∃ z, z = u_14 := ⟨_, rfl⟩
              rw [ht_14] at hb_14
              obtain ⟨hb_14, hbO_14⟩ := hb_14
              obtain ⟨hb_141, hb_142, hb_143, hb_144, hb_145⟩ := hb_14
              have hh_14 : jSt (dC, dI) B base G0 G0 EX0_numberF s.heap 0 0 [(r0, 2, 1, .int qc_14), (r0, 2, 0, .ref pa)] [] [] H_14 locs_14 := ((hh_5.call hb_141 hb_142 hb_143 hb_144 hS_14 rfl (L1 := [(r0, 2, 0, .ref pa)]) [1] rfl rfl (M1 := []) [] rfl rfl (I1 := []) [] rfl rfl).more hb_145)
              have hd_16 := jOw.tr (hh_5.iv 0 rfl) hh_5.2.2.2.2.1 hbO_14
              have hh_17 := hh_14.addI (jOw.ie (dC := dC) (dI := dI) (G0 := G0) (k := 2) (r := r0) (H0 := s.heap) (F := [(2, 0), (2, 1)]) (C := RX0) (T := TX0) (N := 2) rfl (by decide) hh_14.2.2.2.2.1 (hd_16))
              clear hh_14
              clear hh_5 ht_14 hvm_14 hz_14 hk_14 hS_14 hb_141 hb_142 hb_143 hb_144 hb_145
              refine lv_lload hx hb dX0_number_85 (lv_at hl 5 rfl) ?_
              refine lv_ldc2 hx hb hown (htw (.constantLong RX0 46 10) (jWr_24 _ (List.mem_of_getElem? (i := 20) rfl))) dX0_number_87 ?_
              refine lv_ldiv hx hb dX0_number_90 (by decide) ?_
              refine lv_topl (fun z_18 ez_18 => ?_)
              have hz_18 : z_18.toInt = v5_5.toInt / 10 := by rw [ez_18]; exact jb_ldiv (rfl) ((by decide)) (by omega) (by omega)
              refine lv_lstore (lv' := [(5, .long z_18), (4, .int 1), (7, .long z_9), (0, .ref r0), (1, .int a1), (2, .long z_2)]) hx hb dX0_number_91 hl (by decide) rfl (fun ls hl => ?_)
              refine lv_goto (tgt := 26) hx hb dX0_number_93 (by decide) ?_
              exact L26 1 z_18 qc_14 (gk - 1) _ _ hh_17 (Or.inr rfl) (by refine ⟨by omega, by omega, ?_⟩; first | exact hi_5_2.put (by omega) (by first | (left; omega) | (right; left; omega) | (right; right; omega)) (by omega) (by first | omega | decide) (by omega) | exact hi_5_2.no (by omega) (by omega) (by omega) (by first | omega | decide) (by omega)) (by omega) _ (lv_sub hl [3, 4, 5, 1, 0] rfl)
          · skip
            have c_10' : v4_5.toInt = 0 := jb_ne_n (rfl) ((by decide)) c_10
            refine lv_lload hx hb dX0_number_48 (lv_at hl 0 rfl) ?_
            refine lv_lconst (v := 0) hx hb dX0_number_50 (by decide) ?_
            refine W.lcmp hx hb dX0_number_51 ?_
            refine lv_topi (fun z_19 ez_19 => ?_)
            have hz_19 := jb_lcmp ez_19
            have hqz_19_0 : (0 : Int64).toInt = 0 := by decide
            refine lv_if_gt (tgt := 62) hx hb dX0_number_52 (by decide) (fun c_20 => ?_) (fun c_20 => ?_)
            · skip
              have c_20' : z_19.toInt > 0 := jb_gt (rfl) ((by decide)) c_20
              refine lv_iconst (v := 1) hx hb dX0_number_62 (by decide) ?_
              refine lv_goto (tgt := 67) hx hb dX0_number_63 (by decide) ?_
              refine lv_istore (lv' := [(4, .int 1), (7, .long z_9), (0, .ref r0), (1, .int a1), (2, .long z_2), (5, .long v5_5)]) hx hb dX0_number_67 hl (by decide) rfl (fun ls hl => ?_)
              refine lv_iload hx hb dX0_number_69 (lv_at hl 0 rfl) ?_
              refine lv_if_eq (tgt := 85) hx hb dX0_number_71 (by decide) (fun c_21 => ?_) (fun c_21 => ?_)
              · skip
                exact absurd c_21 (by decide)
              · skip
                have hnp : jNp (z_2.toInt) pc.toInt n0 := by rw [show z_2.toInt = a1.toInt by omega]; assumption
                have hlt := jNdg.lt hi_5_2 (by omega) (by first | (left; omega) | (right; left; omega) | (right; right; omega)) hnp
                refine lv_aload_n hx hb dX0_number_74 rfl (lv_at hl 2 rfl) ?_
                refine lv_ldc2 hx hb hown (htw (.constantLong RX0 48 48) (jWr_24 _ (List.mem_of_getElem? (i := 21) rfl))) dX0_number_75 ?_
                refine lv_lload hx hb dX0_number_78 (lv_at hl 1 rfl) ?_
                refine lv_ladd hx hb dX0_number_80 ?_
                refine lv_topl (fun z_22 ez_22 => ?_)
                refine lv_l2i hx hb dX0_number_81 rfl ?_
                refine lv_topi (fun z_23 ez_23 => ?_)
                refine va_callv (A0 := jA base) (H0 := s.heap) (va_runV (As := [.int z_23]) (rest := []) ⟨hx, hb, hml, hown, hts⟩ (uX0_putF l dC dI ca base B hB hAp hB2 hB196 G0 H_5 r0 z_23 n0 wc_5 pa n_pa) (cwV 1 hts (jgV (jWr_24 _ (List.mem_of_getElem? (i := 22) rfl)) (jWr_16 _ (List.mem_of_getElem? (i := 0) rfl)) (jWr_16 _ (List.mem_of_getElem? (i := 1) rfl)) (jWr_1 _ (List.mem_of_getElem? (i := 14) rfl)) (jWr_16 _ (List.mem_of_getElem? (i := 2) rfl))) rfl rfl rfl (by decide +kernel) ⟨by rw [← hR]; exact Nat.le_of_ble_eq_true rfl, by rw [← hR]; exact Nat.le_of_ble_eq_true rfl⟩) ⟨fun a U g mk q => by obtain ⟨q0, q1, q2, qK, q10, q11, q12, q13⟩ := q; exact ⟨q0, q1, q2, jG.calling g mk a qK, q10, q11, q12, q13⟩, hh_5.recv (C := RX0) (T := TX0) (N := 2) hB2 rfl (by decide) hg_r0 hK, fun U hU hW => ⟨rfl, hU, hh_5.2.1, hG.step hW hU hh_5.1, hg_r0, hg_pa, (hh_5.2.2.1.sub (L1 := [(r0, 2, 1, .int wc_5), (r0, 2, 0, .ref pa)]) [0, 1] rfl), by first | omega | (refine ⟨?_, ?_, ?_, ?_, ?_⟩ <;> (first | omega | rfl | assumption | decide | exact Or.inl rfl | exact Or.inr rfl | (simp only; omega)))⟩⟩ rfl rfl hl.1 rfl (lv_room (Nat.le_of_ble_eq_true rfl)) dX0_number_82 ⟨Nat.zero_le _, Nat.zero_le _⟩) hh_5.1 (fun q _ h => h) (fun q h => h) (fun u_24 t_24 H_24 locs_24 ht_24 hvm_24 hr_25 hb_24 hz_24 hk_24 hS_24 => ?_)
                obtain ⟨qc_24, rfl⟩ : ∃ z, z = u_24 := ⟨_, rfl⟩
                rw [ht_24] at hb_24
                obtain ⟨hb_24, hbO_24⟩ := hb_24
                obtain ⟨hb_241, hb_242, hb_243, hb_244, hb_245⟩ := hb_24
                have hh_24 : jSt (dC, dI) B base G0 G0 EX0_numberF s.heap 0 0 [(r0, 2, 1, .int qc_24), (r0, 2, 0, .ref pa)] [] [] H_24 locs_24 := ((hh_5.call hb_241 hb_242 hb_243 hb_244 hS_24 rfl (L1 := [(r0, 2, 0, .ref pa)]) [1] rfl rfl (M1 := []) [] rfl rfl (I1 := []) [] rfl rfl).more hb_245)
                have hd_26 := jOw.tr (hh_5.iv 0 rfl) hh_5.2.2.2.2.1 hbO_24
                have hh_27 := hh_24.addI (jOw.ie (dC := dC) (dI := dI) (G0 := G0) (k := 2) (r := r0) (H0 := s.heap) (F := [(2, 0), (2, 1)]) (C := RX0) (T := TX0) (N := 2) rfl (by decide) hh_24.2.2.2.2.1 (hd_26))
                clear hh_24
                clear hh_5 ht_24 hvm_24 hz_24 hk_24 hS_24 hb_241 hb_242 hb_243 hb_244 hb_245
                refine lv_lload hx hb dX0_number_85 (lv_at hl 5 rfl) ?_
                refine lv_ldc2 hx hb hown (htw (.constantLong RX0 46 10) (jWr_24 _ (List.mem_of_getElem? (i := 20) rfl))) dX0_number_87 ?_
                refine lv_ldiv hx hb dX0_number_90 (by decide) ?_
                refine lv_topl (fun z_28 ez_28 => ?_)
                have hz_28 : z_28.toInt = v5_5.toInt / 10 := by rw [ez_28]; exact jb_ldiv (rfl) ((by decide)) (by omega) (by omega)
                refine lv_lstore (lv' := [(5, .long z_28), (4, .int 1), (7, .long z_9), (0, .ref r0), (1, .int a1), (2, .long z_2)]) hx hb dX0_number_91 hl (by decide) rfl (fun ls hl => ?_)
                refine lv_goto (tgt := 26) hx hb dX0_number_93 (by decide) ?_
                exact L26 1 z_28 qc_24 (gk - 1) _ _ hh_27 (Or.inr rfl) (by refine ⟨by omega, by omega, ?_⟩; first | exact hi_5_2.put (by omega) (by first | (left; omega) | (right; left; omega) | (right; right; omega)) (by omega) (by first | omega | decide) (by omega) | exact hi_5_2.no (by omega) (by omega) (by omega) (by first | omega | decide) (by omega)) (by omega) _ (lv_sub hl [3, 4, 5, 1, 0] rfl)
            · skip
              have c_20' : z_19.toInt ≤ 0 := jb_gt_n (rfl) ((by decide)) c_20
              refine lv_lload hx hb dX0_number_55 (lv_at hl 5 rfl) ?_
              refine lv_lconst (v := 1) hx hb dX0_number_57 (by decide) ?_
              refine W.lcmp hx hb dX0_number_58 ?_
              refine lv_topi (fun z_29 ez_29 => ?_)
              have hz_29 := jb_lcmp ez_29
              have hqz_29_1 : (1 : Int64).toInt = 1 := by decide
              refine lv_if_ne (tgt := 66) hx hb dX0_number_59 (by decide) (fun c_30 => ?_) (fun c_30 => ?_)
              · skip
                have c_30' : z_29.toInt ≠ 0 := jb_ne (rfl) ((by decide)) c_30
                refine lv_iconst (v := 0) hx hb dX0_number_66 (by decide) ?_
                refine lv_istore (lv' := [(4, .int 0), (7, .long z_9), (0, .ref r0), (1, .int a1), (2, .long z_2), (5, .long v5_5)]) hx hb dX0_number_67 hl (by decide) rfl (fun ls hl => ?_)
                refine lv_iload hx hb dX0_number_69 (lv_at hl 0 rfl) ?_
                refine lv_if_eq (tgt := 85) hx hb dX0_number_71 (by decide) (fun c_31 => ?_) (fun c_31 => ?_)
                · skip
                  refine lv_lload hx hb dX0_number_85 (lv_at hl 5 rfl) ?_
                  refine lv_ldc2 hx hb hown (htw (.constantLong RX0 46 10) (jWr_24 _ (List.mem_of_getElem? (i := 20) rfl))) dX0_number_87 ?_
                  refine lv_ldiv hx hb dX0_number_90 (by decide) ?_
                  refine lv_topl (fun z_32 ez_32 => ?_)
                  have hz_32 : z_32.toInt = v5_5.toInt / 10 := by rw [ez_32]; exact jb_ldiv (rfl) ((by decide)) (by omega) (by omega)
                  refine lv_lstore (lv' := [(5, .long z_32), (4, .int 0), (7, .long z_9), (0, .ref r0), (1, .int a1), (2, .long z_2)]) hx hb dX0_number_91 hl (by decide) rfl (fun ls hl => ?_)
                  refine lv_goto (tgt := 26) hx hb dX0_number_93 (by decide) ?_
                  exact L26 0 z_32 wc_5 (gk - 1) _ _ hh_5 (Or.inl rfl) (by refine ⟨by omega, by omega, ?_⟩; first | exact hi_5_2.put (by omega) (by first | (left; omega) | (right; left; omega) | (right; right; omega)) (by omega) (by first | omega | decide) (by omega) | exact hi_5_2.no (by omega) (by omega) (by omega) (by first | omega | decide) (by omega)) (by omega) _ (lv_sub hl [3, 4, 5, 1, 0] rfl)
                · skip
                  exact absurd c_31 (by decide)
              · skip
                have c_30' : z_29.toInt = 0 := jb_ne_n (rfl) ((by decide)) c_30
                refine lv_iconst (v := 1) hx hb dX0_number_62 (by decide) ?_
                refine lv_goto (tgt := 67) hx hb dX0_number_63 (by decide) ?_
                refine lv_istore (lv' := [(4, .int 1), (7, .long z_9), (0, .ref r0), (1, .int a1), (2, .long z_2), (5, .long v5_5)]) hx hb dX0_number_67 hl (by decide) rfl (fun ls hl => ?_)
                refine lv_iload hx hb dX0_number_69 (lv_at hl 0 rfl) ?_
                refine lv_if_eq (tgt := 85) hx hb dX0_number_71 (by decide) (fun c_33 => ?_) (fun c_33 => ?_)
                · skip
                  exact absurd c_33 (by decide)
                · skip
                  have hnp : jNp (z_2.toInt) pc.toInt n0 := by rw [show z_2.toInt = a1.toInt by omega]; assumption
                  have hlt := jNdg.lt hi_5_2 (by omega) (by first | (left; omega) | (right; left; omega) | (right; right; omega)) hnp
                  refine lv_aload_n hx hb dX0_number_74 rfl (lv_at hl 2 rfl) ?_
                  refine lv_ldc2 hx hb hown (htw (.constantLong RX0 48 48) (jWr_24 _ (List.mem_of_getElem? (i := 21) rfl))) dX0_number_75 ?_
                  refine lv_lload hx hb dX0_number_78 (lv_at hl 1 rfl) ?_
                  refine lv_ladd hx hb dX0_number_80 ?_
                  refine lv_topl (fun z_34 ez_34 => ?_)
                  refine lv_l2i hx hb dX0_number_81 rfl ?_
                  refine lv_topi (fun z_35 ez_35 => ?_)
                  refine va_callv (A0 := jA base) (H0 := s.heap) (va_runV (As := [.int z_35]) (rest := []) ⟨hx, hb, hml, hown, hts⟩ (uX0_putF l dC dI ca base B hB hAp hB2 hB196 G0 H_5 r0 z_35 n0 wc_5 pa n_pa) (cwV 1 hts (jgV (jWr_24 _ (List.mem_of_getElem? (i := 22) rfl)) (jWr_16 _ (List.mem_of_getElem? (i := 0) rfl)) (jWr_16 _ (List.mem_of_getElem? (i := 1) rfl)) (jWr_1 _ (List.mem_of_getElem? (i := 14) rfl)) (jWr_16 _ (List.mem_of_getElem? (i := 2) rfl))) rfl rfl rfl (by decide +kernel) ⟨by rw [← hR]; exact Nat.le_of_ble_eq_true rfl, by rw [← hR]; exact Nat.le_of_ble_eq_true rfl⟩) ⟨fun a U g mk q => by obtain ⟨q0, q1, q2, qK, q10, q11, q12, q13⟩ := q; exact ⟨q0, q1, q2, jG.calling g mk a qK, q10, q11, q12, q13⟩, hh_5.recv (C := RX0) (T := TX0) (N := 2) hB2 rfl (by decide) hg_r0 hK, fun U hU hW => ⟨rfl, hU, hh_5.2.1, hG.step hW hU hh_5.1, hg_r0, hg_pa, (hh_5.2.2.1.sub (L1 := [(r0, 2, 1, .int wc_5), (r0, 2, 0, .ref pa)]) [0, 1] rfl), by first | omega | (refine ⟨?_, ?_, ?_, ?_, ?_⟩ <;> (first | omega | rfl | assumption | decide | exact Or.inl rfl | exact Or.inr rfl | (simp only; omega)))⟩⟩ rfl rfl hl.1 rfl (lv_room (Nat.le_of_ble_eq_true rfl)) dX0_number_82 ⟨Nat.zero_le _, Nat.zero_le _⟩) hh_5.1 (fun q _ h => h) (fun q h => h) (fun u_36 t_36 H_36 locs_36 ht_36 hvm_36 hr_37 hb_36 hz_36 hk_36 hS_36 => ?_)
                  obtain ⟨qc_36, rfl⟩ : ∃ z, z = u_36 := ⟨_, rfl⟩
                  rw [ht_36] at hb_36
                  obtain ⟨hb_36, hbO_36⟩ := hb_36
                  obtain ⟨hb_361, hb_362, hb_363, hb_364, hb_365⟩ := hb_36
                  have hh_36 : jSt (dC, dI) B base G0 G0 EX0_numberF s.heap 0 0 [(r0, 2, 1, .int qc_36), (r0, 2, 0, .ref pa)] [] [] H_36 locs_36 := ((hh_5.call hb_361 hb_362 hb_363 hb_364 hS_36 rfl (L1 := [(r0, 2, 0, .ref pa)]) [1] rfl rfl (M1 := []) [] rfl rfl (I1 := []) [] rfl rfl).more hb_365)
                  have hd_38 := jOw.tr (hh_5.iv 0 rfl) hh_5.2.2.2.2.1 hbO_36
                  have hh_39 := hh_36.addI (jOw.ie (dC := dC) (dI := dI) (G0 := G0) (k := 2) (r := r0) (H0 := s.heap) (F := [(2, 0), (2, 1)]) (C := RX0) (T := TX0) (N := 2) rfl (by decide) hh_36.2.2.2.2.1 (hd_38))
                  clear hh_36
                  clear hh_5 ht_36 hvm_36 hz_36 hk_36 hS_36 hb_361 hb_362 hb_363 hb_364 hb_365
                  refine lv_lload hx hb dX0_number_85 (lv_at hl 5 rfl) ?_
                  refine lv_ldc2 hx hb hown (htw (.constantLong RX0 46 10) (jWr_24 _ (List.mem_of_getElem? (i := 20) rfl))) dX0_number_87 ?_
                  refine lv_ldiv hx hb dX0_number_90 (by decide) ?_
                  refine lv_topl (fun z_40 ez_40 => ?_)
                  have hz_40 : z_40.toInt = v5_5.toInt / 10 := by rw [ez_40]; exact jb_ldiv (rfl) ((by decide)) (by omega) (by omega)
                  refine lv_lstore (lv' := [(5, .long z_40), (4, .int 1), (7, .long z_9), (0, .ref r0), (1, .int a1), (2, .long z_2)]) hx hb dX0_number_91 hl (by decide) rfl (fun ls hl => ?_)
                  refine lv_goto (tgt := 26) hx hb dX0_number_93 (by decide) ?_
                  exact L26 1 z_40 qc_36 (gk - 1) _ _ hh_39 (Or.inr rfl) (by refine ⟨by omega, by omega, ?_⟩; first | exact hi_5_2.put (by omega) (by first | (left; omega) | (right; left; omega) | (right; right; omega)) (by omega) (by first | omega | decide) (by omega) | exact hi_5_2.no (by omega) (by omega) (by omega) (by first | omega | decide) (by omega)) (by omega) _ (lv_sub hl [3, 4, 5, 1, 0] rfl)
    exact L26 ((1000000000 : Int64).toInt : Int).toNat.succ 0 1000000000 pc (10) _ _ hh_1 (Or.inl rfl) (by refine ⟨by omega, by decide, ?_⟩; rw [show (1000000000 : Int64).toInt = 1000000000 by decide, hk0, Int.sub_self]; exact jNdg.start) (by omega) _ (lv_sub hl [3, 4, 2, 1, 0] rfl)
  · skip
    have c_4' : z_3.toInt < 0 := jb_ge_n (rfl) ((by decide)) c_4
    exact absurd c_4' (by omega)
end
section
-- the digits of a number are counted
theorem jDi.bd {c v d : Int} (h : jDi c v d) : 1 ≤ d ∧ d ≤ 7 := by unfold jDi at h; omega
end
section
theorem dX11_send_0 : decode cX11_send 0 = .ok (.aload_n 0, 1) := by decide +kernel
theorem dX11_send_1 : decode cX11_send 1 = .ok (.getfield 21, 3) := by decide +kernel
theorem dX11_send_4 : decode cX11_send 4 = .ok (.getfield 102, 3) := by decide +kernel
theorem dX11_send_7 : decode cX11_send 7 = .ok (.ifCond .eq 4, 3) := by decide +kernel
theorem dX11_send_10 : decode cX11_send 10 = .ok (.return_, 1) := by decide +kernel
theorem dX11_send_11 : decode cX11_send 11 = .ok (.iconst 1, 1) := by decide +kernel
theorem dX11_send_12 : decode cX11_send 12 = .ok (.istore_n 1, 1) := by decide +kernel
theorem dX11_send_13 : decode cX11_send 13 = .ok (.aload_n 0, 1) := by decide +kernel
theorem dX11_send_14 : decode cX11_send 14 = .ok (.getfield 35, 3) := by decide +kernel
theorem dX11_send_17 : decode cX11_send 17 = .ok (.getfield 92, 3) := by decide +kernel
theorem dX11_send_20 : decode cX11_send 20 = .ok (.istore_n 2, 1) := by decide +kernel
theorem dX11_send_21 : decode cX11_send 21 = .ok (.iload_n 2, 1) := by decide +kernel
theorem dX11_send_22 : decode cX11_send 22 = .ok (.bipush 10, 2) := by decide +kernel
theorem dX11_send_24 : decode cX11_send 24 = .ok (.if_icmp .lt 14, 3) := by decide +kernel
theorem dX11_send_27 : decode cX11_send 27 = .ok (.iinc 1 1, 3) := by decide +kernel
theorem dX11_send_30 : decode cX11_send 30 = .ok (.iload_n 2, 1) := by decide +kernel
theorem dX11_send_31 : decode cX11_send 31 = .ok (.bipush 10, 2) := by decide +kernel
theorem dX11_send_33 : decode cX11_send 33 = .ok (.idiv, 1) := by decide +kernel
theorem dX11_send_34 : decode cX11_send 34 = .ok (.istore_n 2, 1) := by decide +kernel
theorem dX11_send_35 : decode cX11_send 35 = .ok (.goto (-14), 3) := by decide +kernel
theorem dX11_send_38 : decode cX11_send 38 = .ok (.aload_n 0, 1) := by decide +kernel
theorem dX11_send_39 : decode cX11_send 39 = .ok (.getfield 32, 3) := by decide +kernel
theorem dX11_send_42 : decode cX11_send 42 = .ok (.getfield 92, 3) := by decide +kernel
theorem dX11_send_45 : decode cX11_send 45 = .ok (.bipush 20, 2) := by decide +kernel
theorem dX11_send_47 : decode cX11_send 47 = .ok (.iadd, 1) := by decide +kernel
theorem dX11_send_48 : decode cX11_send 48 = .ok (.iload_n 1, 1) := by decide +kernel
theorem dX11_send_49 : decode cX11_send 49 = .ok (.iadd, 1) := by decide +kernel
theorem dX11_send_50 : decode cX11_send 50 = .ok (.aload_n 0, 1) := by decide +kernel
theorem dX11_send_51 : decode cX11_send 51 = .ok (.getfield 35, 3) := by decide +kernel
theorem dX11_send_54 : decode cX11_send 54 = .ok (.getfield 92, 3) := by decide +kernel
theorem dX11_send_57 : decode cX11_send 57 = .ok (.iadd, 1) := by decide +kernel
theorem dX11_send_58 : decode cX11_send 58 = .ok (.sipush 20000, 3) := by decide +kernel
theorem dX11_send_61 : decode cX11_send 61 = .ok (.if_icmp .le 14, 3) := by decide +kernel
theorem dX11_send_64 : decode cX11_send 64 = .ok (.aload_n 0, 1) := by decide +kernel
theorem dX11_send_65 : decode cX11_send 65 = .ok (.dup, 1) := by decide +kernel
theorem dX11_send_66 : decode cX11_send 66 = .ok (.getfield 151, 3) := by decide +kernel
theorem dX11_send_69 : decode cX11_send 69 = .ok (.iconst 1, 1) := by decide +kernel
theorem dX11_send_70 : decode cX11_send 70 = .ok (.iadd, 1) := by decide +kernel
theorem dX11_send_71 : decode cX11_send 71 = .ok (.putfield 151, 3) := by decide +kernel
theorem dX11_send_74 : decode cX11_send 74 = .ok (.return_, 1) := by decide +kernel
theorem dX11_send_75 : decode cX11_send 75 = .ok (.aload_n 0, 1) := by decide +kernel
theorem dX11_send_76 : decode cX11_send 76 = .ok (.getfield 32, 3) := by decide +kernel
theorem dX11_send_79 : decode cX11_send 79 = .ok (.ldc_w 560, 3) := by decide +kernel
theorem dX11_send_82 : decode cX11_send 82 = .ok (.invokevirtual 297, 3) := by decide +kernel
theorem dX11_send_85 : decode cX11_send 85 = .ok (.aload_n 0, 1) := by decide +kernel
theorem dX11_send_86 : decode cX11_send 86 = .ok (.getfield 32, 3) := by decide +kernel
theorem dX11_send_89 : decode cX11_send 89 = .ok (.aload_n 0, 1) := by decide +kernel
theorem dX11_send_90 : decode cX11_send 90 = .ok (.getfield 35, 3) := by decide +kernel
theorem dX11_send_93 : decode cX11_send 93 = .ok (.getfield 92, 3) := by decide +kernel
theorem dX11_send_96 : decode cX11_send 96 = .ok (.invokevirtual 466, 3) := by decide +kernel
theorem dX11_send_99 : decode cX11_send 99 = .ok (.aload_n 0, 1) := by decide +kernel
theorem dX11_send_100 : decode cX11_send 100 = .ok (.getfield 32, 3) := by decide +kernel
theorem dX11_send_103 : decode cX11_send 103 = .ok (.ldc_w 562, 3) := by decide +kernel
theorem dX11_send_106 : decode cX11_send 106 = .ok (.invokevirtual 297, 3) := by decide +kernel
theorem dX11_send_109 : decode cX11_send 109 = .ok (.aload_n 0, 1) := by decide +kernel
theorem dX11_send_110 : decode cX11_send 110 = .ok (.getfield 32, 3) := by decide +kernel
theorem dX11_send_113 : decode cX11_send 113 = .ok (.aload_n 0, 1) := by decide +kernel
theorem dX11_send_114 : decode cX11_send 114 = .ok (.getfield 35, 3) := by decide +kernel
theorem dX11_send_117 : decode cX11_send 117 = .ok (.invokevirtual 495, 3) := by decide +kernel
theorem dX11_send_120 : decode cX11_send 120 = .ok (.return_, 1) := by decide +kernel
def EX11_send : List (Nat × Nat) := [(2, 0), (2, 1), (13, 14), (196, 0)]
set_option maxHeartbeats 4000000 in
set_option maxRecDepth 20000 in
theorem uX11_send (l : Launch) (dC : Nat → ClassId) (dI : Nat → Nat → Nat) (ca : Nat → ClassId) (base : Nat) (B : jF) (hB : jBok B) (hAp : jAp (dC, dI)) (hB2 : ∀ n G a H, B 2 n G a H ↔ jOb (dC, dI) 2 2 (F2 n G) a H) (hB4 : ∀ n G a H, B 4 n G a H ↔ jOb (dC, dI) 4 12 (F4 n G) a H) (hB13 : ∀ n G a H, B 13 n G a H ↔ jOb (dC, dI) 13 19 (F13 n G) a H) (hB196 : ∀ n G a H, B 196 n G a H ↔ jAr (dC, dI) (ca 0) (fun j z => jBf j z) n a H) (G0 : jT) (H0 : Heap) (r0 : Nat) (bo : Nat) (pc : Int32) (pa : Nat) (n_pa : Nat) (ou : Nat) (po : Int32) (px : Nat) (n_px : Nat) : Met l yX11_send (jw yX11_send cX11_send 3 none) ({ frames := 5, cells := 0, slots := 0, locals := 163 }) (va_Pc [.ref r0] (fun U => U.heap = H0 ∧ jX B base G0 [] H0 ∧ jG dC dI ca base U ∧ G0 r0 = some (13, 0) ∧ G0 bo = some (2, 0) ∧ G0 pa = some (196, n_pa) ∧ G0 ou = some (2, 20000) ∧ G0 px = some (196, n_px) ∧ jP (dC, dI) G0 H0 [(r0, 13, 4, .ref bo), (bo, 2, 1, .int pc), (bo, 2, 0, .ref pa), (r0, 13, 3, .ref ou), (ou, 2, 1, .int po), (ou, 2, 0, .ref px)] ∧ jIs (dC, dI) G0 H0 [(jFy, jYb dC dI G0)] ∧ 0 ≤ pc.toInt ∧ pc.toInt ≤ n_pa ∧ n_pa ≤ 1048576 ∧ 0 ≤ po.toInt ∧ po.toInt ≤ 20000 ∧ n_px = 20000)) (va_Qv (S := Unit) (fun u => True) (fun u t => ((jRt (dC, dI) B base G0 EX11_send H0 [] t.heap) ∧ jOl (dC, dI) G0 2 [ou] H0 t.heap) ∧ jIs (dC, dI) G0 t.heap [(jFy, jYb dC dI G0)]) (jA base)) 0 0 (jA base) := by
  refine Met.ofW (cc := cX11_send) (maxL := 3) (ret := none) (by decide) rfl ?_
  intro p e s m args below meth c s₁ Bd hml hv
  obtain ⟨rfl, hH0, hX, hG, hg_r0, hg_bo, hg_pa, hg_ou, hg_px, hP0, hI0, hp0, hp1, hp2, hp3, hp4, hp5⟩ := hv
  have hK := hG.1
  have hx := Bd.exec
  have hb := Bd.bytes
  have hr := Bd.returns
  have hts := atoms_spec (ws := (jw yX11_send cX11_send 3 none)) Bd.pre
  have htw : ∀ w ∈ jWl, w.before _ s = true := fun w h => hts w (List.mem_cons_of_mem _ h)
  have hown : s.vm.findClass RX11 = some m.cls := findClass_of_methodNamed Bd.named
  have hlocks := Bd.notSynchronized
  obtain ⟨Q, hQ⟩ : ∃ Q, Q = MQ below (va_Qv (S := Unit) (fun u => True) (fun u t => ((jRt (dC, dI) B base G0 EX11_send H0 [] t.heap) ∧ jOl (dC, dI) G0 2 [ou] H0 t.heap) ∧ jIs (dC, dI) G0 t.heap [(jFy, jYb dC dI G0)]) (jA base)) ([.ref r0] : List Value).toArray s 0 0 (jA base) := ⟨_, rfl⟩
  rw [← hQ]
  have hl := lv_entry ([.ref r0]) (n := 3) (Nat.le_of_ble_eq_true rfl)
  rw [lg_entry_eq]
  generalize (lg_sl ([.ref r0]) ++ List.replicate (3 - (lg_sl ([.ref r0])).length) Slot.unset).toArray = ls at hl ⊢
  have hl : lv_has ls 3 [(0, .ref r0)] := hl
  generalize hR : (headSpec (jw yX11_send cX11_send 3 none) ({ frames := 5, cells := 0, slots := 0, locals := 163 })).room = R
  subst hH0
  have hh : jSt (dC, dI) B base G0 G0 EX11_send s.heap 0 0 [(r0, 13, 4, .ref bo), (bo, 2, 1, .int pc), (bo, 2, 0, .ref pa), (r0, 13, 3, .ref ou), (ou, 2, 1, .int po), (ou, 2, 0, .ref px)] [] [(jFy, jYb dC dI G0)] s.heap [] := jSt.start hX hP0 jMc.nil hI0
  clear hX hP0
  have hk0 : (0 : Int32).toInt = 0 := by decide
  have hk1 : (1 : Int32).toInt = 1 := by decide
  have hk10 : (10 : Int32).toInt = 10 := by decide
  have hk20 : (20 : Int32).toInt = 20 := by decide
  have hk20000 : (20000 : Int32).toInt = 20000 := by decide
  have hly_2_1 := htw (u_lay RX0 TX0 1) (jWc_wsX00 _ (u_in_lay (by decide)))
  have hly_4_4 := htw (u_lay RX2 TX2 4) (jWc_wsX20 _ (u_in_lay (by decide)))
  have hly_13_1 := htw (u_lay RX11 TX11 1) (jWc_wsX110 _ (u_in_lay (by decide)))
  have hly_13_3 := htw (u_lay RX11 TX11 3) (jWc_wsX110 _ (u_in_lay (by decide)))
  have hly_13_4 := htw (u_lay RX11 TX11 4) (jWc_wsX110 _ (u_in_lay (by decide)))
  have hly_13_14 := htw (u_lay RX11 TX11 14) (jWc_wsX110 _ (u_in_lay (by decide)))
  have hlk_21 := (htw (.fieldLink RX11 21 "ProofServer" "frames" "LProofServer$Frames;") (jWr_1 _ (List.mem_of_getElem? (i := 19) rfl)))
  have hlk_102 := (htw (.fieldLink RX11 102 "ProofServer$Frames" "broken" "Z") (jWr_17 _ (List.mem_of_getElem? (i := 8) rfl)))
  have hlk_35 := (htw (.fieldLink RX11 35 "ProofServer" "body" "LProofServer$Bytes;") (jWr_2 _ (List.mem_of_getElem? (i := 1) rfl)))
  have hlk_92 := (htw (.fieldLink RX11 92 "ProofServer$Bytes" "count" "I") (jWr_15 _ (List.mem_of_getElem? (i := 18) rfl)))
  have hlk_32 := (htw (.fieldLink RX11 32 "ProofServer" "output" "LProofServer$Bytes;") (jWr_2 _ (List.mem_of_getElem? (i := 0) rfl)))
  have hlk_151 := (htw (.fieldLink RX11 151 "ProofServer" "lost" "I") (jWr_27 _ (List.mem_of_getElem? (i := 0) rfl)))
  obtain ⟨str560, rstr560, hstr5600⟩ := hG.str (o := RX11) (k := 560) (tx := "Content-Length: ") (List.mem_of_getElem? (i := 850) (by decide +kernel))
  have hstr560 : jStr base str560 16 s s.heap := hstr5600
  obtain ⟨str562, rstr562, hstr5620⟩ := hG.str (o := RX11) (k := 562) (tx := "\r\n\r\n") (List.mem_of_getElem? (i := 851) (by decide +kernel))
  have hstr562 : jStr base str562 4 s s.heap := hstr5620
  have hh_1 := hh.addI (jOl.ie (dC := dC) (dI := dI) (G0 := G0) (k := 2) (rs := [ou]) (H0 := s.heap) (F := [(2, 0), (2, 1)]) (C := RX0) (T := TX0) (N := 2) rfl (by decide) hh.2.2.2.2.1 (jOl.rf))
  clear hh
  refine lv_aload_n hx hb dX11_send_0 rfl (lv_at hl 0 rfl) ?_
  obtain ⟨v_2, hv_2, hh_3⟩ := hh_1.pin (C := RX11) (T := TX11) (N := 19) hB13 rfl (by decide) hg_r0 (i := 1) (by decide) rfl
  clear hh_1
  obtain ⟨frames_4, rfl, hg_frames_4⟩ := hv_2
  refine j7_read hx hb hown hK (C := RX11) (T := TX11) (N := 19) rfl hly_13_1 hlk_21 (hh_3.at 0 rfl) dX11_send_1 ?_
  obtain ⟨v_5, hv_5, hh_6⟩ := hh_3.pin (C := RX2) (T := TX2) (N := 12) hB4 rfl (by decide) hg_frames_4 (i := 4) (by decide) rfl
  clear hh_3
  obtain ⟨broken_7, rfl, hzbroken_7⟩ := hv_5
  have hzbroken_7' := jb_01 hzbroken_7
  refine j7_read hx hb hown hK (C := RX2) (T := TX2) (N := 12) rfl hly_4_4 hlk_102 (hh_6.at 0 rfl) dX11_send_4 ?_
  refine lv_if_eq (tgt := 11) hx hb dX11_send_7 (by decide) (fun c_8 => ?_) (fun c_8 => ?_)
  · skip
    have c_8' : broken_7.toInt = 0 := jb_eq (rfl) ((by decide)) c_8
    refine lv_iconst (v := 1) hx hb dX11_send_11 (by decide) ?_
    refine lv_istore_n (lv' := [(1, .int 1), (0, .ref r0)]) hx hb dX11_send_12 rfl hl (by decide) rfl (fun ls hl => ?_)
    refine lv_aload_n hx hb dX11_send_13 rfl (lv_at hl 1 rfl) ?_
    refine j7_read hx hb hown hK (C := RX11) (T := TX11) (N := 19) rfl hly_13_4 hlk_35 (hh_6.at 2 rfl) dX11_send_14 ?_
    refine j7_read hx hb hown hK (C := RX0) (T := TX0) (N := 2) rfl hly_2_1 hlk_92 (hh_6.at 3 rfl) dX11_send_17 ?_
    refine lv_istore_n (lv' := [(2, .int pc), (1, .int 1), (0, .ref r0)]) hx hb dX11_send_20 rfl hl (by decide) rfl (fun ls hl => ?_)
    have L21 : ∀ (N : Nat) (v1_9 : Int32) (v2_9 : Int32) (H_9 : Heap) (locs_9 : List Loc), jSt (dC, dI) B base G0 G0 EX11_send s.heap 0 0 [(frames_4, 4, 4, .int broken_7), (r0, 13, 1, .ref frames_4), (r0, 13, 4, .ref bo), (bo, 2, 1, .int pc), (bo, 2, 0, .ref pa), (r0, 13, 3, .ref ou), (ou, 2, 1, .int po), (ou, 2, 0, .ref px)] [] [([(2, 0), (2, 1)], jOl (dC, dI) G0 2 [ou] s.heap), (jFy, jYb dC dI G0)] H_9 locs_9 → (0 ≤ v2_9.toInt ∧ jDi pc.toInt v2_9.toInt v1_9.toInt) → (v2_9.toInt : Int) < N → ∀ ls : Array Slot, lv_has ls 3 [(0, .ref r0), (1, .int v1_9), (2, .int v2_9)] → W p l e R s m ([.ref r0] : List Value).toArray below meth c H_9 locs_9 0 0 Q (F0 m 21 ls []) := by
      intro N
      induction N with
      | zero => intro v1_9 v2_9 H_9 locs_9 hh_9  hi_9 hm; exact absurd hm (by omega)
      | succ N L21 =>
        intro v1_9 v2_9 H_9 locs_9 hh_9  hi_9 hm_9 ls hl
        obtain ⟨hi_9_0, hi_9_1⟩ := hi_9
        have hd1 := hi_9_1.bd
        refine lv_iload_n hx hb dX11_send_21 rfl (lv_at hl 2 rfl) ?_
        refine lv_bipush (v := 10) hx hb dX11_send_22 (by decide) ?_
        refine lv_icmp_lt (tgt := 38) hx hb dX11_send_24 (by decide) (fun c_10 => ?_) (fun c_10 => ?_)
        · skip
          have c_10' : v2_9.toInt < 10 := jb_lt (rfl) ((by decide)) c_10
          have hdc := hi_9_1.end (by omega)
          refine lv_aload_n hx hb dX11_send_38 rfl (lv_at hl 0 rfl) ?_
          refine j7_read hx hb hown hK (C := RX11) (T := TX11) (N := 19) rfl hly_13_3 hlk_32 (hh_9.at 5 rfl) dX11_send_39 ?_
          refine j7_read hx hb hown hK (C := RX0) (T := TX0) (N := 2) rfl hly_2_1 hlk_92 (hh_9.at 6 rfl) dX11_send_42 ?_
          refine lv_bipush (v := 20) hx hb dX11_send_45 (by decide) ?_
          refine lv_iadd hx hb dX11_send_47 ?_
          refine lv_topi (fun z_11 ez_11 => ?_)
          have hz_11 : z_11.toInt = po.toInt + 20 := by rw [ez_11]; exact jb_iadd2 (rfl) ((by decide)) (by omega)
          refine lv_iload_n hx hb dX11_send_48 rfl (lv_at hl 1 rfl) ?_
          refine lv_iadd hx hb dX11_send_49 ?_
          refine lv_topi (fun z_12 ez_12 => ?_)
          have hz_12 : z_12.toInt = z_11.toInt + v1_9.toInt := by rw [ez_12]; exact jb_iadd2 (rfl) (rfl) (by omega)
          refine lv_aload_n hx hb dX11_send_50 rfl (lv_at hl 0 rfl) ?_
          refine j7_read hx hb hown hK (C := RX11) (T := TX11) (N := 19) rfl hly_13_4 hlk_35 (hh_9.at 2 rfl) dX11_send_51 ?_
          refine j7_read hx hb hown hK (C := RX0) (T := TX0) (N := 2) rfl hly_2_1 hlk_92 (hh_9.at 3 rfl) dX11_send_54 ?_
          refine lv_iadd hx hb dX11_send_57 ?_
          refine lv_topi (fun z_13 ez_13 => ?_)
          have hz_13 : z_13.toInt = z_12.toInt + pc.toInt := by rw [ez_13]; exact jb_iadd2 (rfl) (rfl) (by omega)
          refine lv_sipush (v := 20000) hx hb dX11_send_58 (by decide) ?_
          refine lv_icmp_le (tgt := 75) hx hb dX11_send_61 (by decide) (fun c_14 => ?_) (fun c_14 => ?_)
          · skip
            have c_14' : z_13.toInt ≤ 20000 := jb_le (rfl) ((by decide)) c_14
            refine lv_aload_n hx hb dX11_send_75 rfl (lv_at hl 0 rfl) ?_
            refine j7_read hx hb hown hK (C := RX11) (T := TX11) (N := 19) rfl hly_13_3 hlk_32 (hh_9.at 5 rfl) dX11_send_76 ?_
            refine j_ldcSw hx hb hown rstr560 dX11_send_79 ?_
            refine va_callv (A0 := jA base) (H0 := s.heap) (va_runV (As := [.ref str560]) (rest := []) ⟨hx, hb, hml, hown, hts⟩ (uX0_textF l dC dI ca base B hB hAp hB2 hB196 G0 H_9 ou str560 16 20000 po px n_px) (cwV 1 hts (jgV (jWr_26 _ (List.mem_of_getElem? (i := 11) rfl)) (jWr_25 _ (List.mem_of_getElem? (i := 22) rfl)) (jWr_25 _ (List.mem_of_getElem? (i := 23) rfl)) (jWr_1 _ (List.mem_of_getElem? (i := 14) rfl)) (jWr_26 _ (List.mem_of_getElem? (i := 0) rfl))) rfl rfl rfl (by decide +kernel) ⟨by rw [← hR]; exact Nat.le_of_ble_eq_true rfl, by rw [← hR]; exact Nat.le_of_ble_eq_true rfl⟩) ⟨fun a U g mk q => by obtain ⟨q0, q1, q2, qK, q10, q11, q12, q13, q14⟩ := q; exact ⟨q0, q1, q2, jG.calling g mk a qK, (q10.moved (Vm.Alike.refl U.vm)), q11, q12, q13, q14⟩, hh_9.recv (C := RX0) (T := TX0) (N := 2) hB2 rfl (by decide) hg_ou hK, fun U hU hW => ⟨rfl, hU, hh_9.2.1, hG.step hW hU hh_9.1, (hstr560.moved hW.alike).kept hh_9.1.2.1, hg_ou, hg_px, (hh_9.2.2.1.sub (L1 := [(ou, 2, 1, .int po), (ou, 2, 0, .ref px)]) [6, 7] rfl), by first | omega | (refine ⟨?_, ?_, ?_, ?_, ?_⟩ <;> (first | omega | rfl | assumption | decide | exact Or.inl rfl | exact Or.inr rfl | (simp only; omega)))⟩⟩ rfl rfl hl.1 rfl (lv_room (Nat.le_of_ble_eq_true rfl)) dX11_send_82 ⟨Nat.zero_le _, Nat.zero_le _⟩) hh_9.1 (fun q _ h => h) (fun q h => h) (fun u_15 t_15 H_15 locs_15 ht_15 hvm_15 hr_16 hb_15 hz_15 hk_15 hS_15 => ?_)
            obtain ⟨qc_15, rfl⟩ : ∃ z, z = u_15 := ⟨_, rfl⟩
            rw [ht_15] at hb_15
            have hy_17 := hh_9.iv 1 rfl
            obtain ⟨hb_15, hbO_15⟩ := hb_15
            obtain ⟨hb_151, hb_152, hb_153, hb_154, hb_155⟩ := hb_15
            have hh_15 : jSt (dC, dI) B base G0 G0 EX11_send s.heap 0 0 [(ou, 2, 1, .int qc_15), (frames_4, 4, 4, .int broken_7), (r0, 13, 1, .ref frames_4), (r0, 13, 4, .ref bo), (bo, 2, 0, .ref pa), (r0, 13, 3, .ref ou), (ou, 2, 0, .ref px)] [] [] H_15 locs_15 := ((hh_9.call hb_151 hb_152 hb_153 hb_154 hS_15 rfl (L1 := [(frames_4, 4, 4, .int broken_7), (r0, 13, 1, .ref frames_4), (r0, 13, 4, .ref bo), (bo, 2, 0, .ref pa), (r0, 13, 3, .ref ou), (ou, 2, 0, .ref px)]) [0, 1, 2, 4, 5, 7] rfl rfl (M1 := []) [] rfl rfl (I1 := []) [] rfl rfl).more hb_155)
            have hh_18 := hh_15.more (P1 := [(bo, 2, 1, .int pc)]) (jP.cons hg_bo (hbO_15 _ _ _ _ (by first | assumption | exact Ne.symm (by assumption) | exact jnek hg_bo hg_ou (by decide)) hg_bo (hh_9.at 3 rfl)) jP.nil)
            have hd_19 := jOl.trO (hh_9.iv 0 rfl) hh_9.2.2.2.2.1 hbO_15 (by simp)
            have hh_20 := hh_18.addI (jOl.ie (dC := dC) (dI := dI) (G0 := G0) (k := 2) (rs := [ou]) (H0 := s.heap) (F := [(2, 0), (2, 1)]) (C := RX0) (T := TX0) (N := 2) rfl (by decide) hh_18.2.2.2.2.1 (hd_19))
            clear hh_18
            clear hh_9 ht_15 hvm_15 hz_15 hk_15 hS_15 hb_151 hb_152 hb_153 hb_154 hb_155
            have hy_21 := jYb.own hy_17 hbO_15 jLe.rf (ks := [2]) jNk.rf (by decide) (fun h => absurd (hg_ou.symm.trans h) (by decide))
            have hh_22 := hh_20.addI (jYb.ie hy_21)
            clear hh_20
            refine lv_aload_n hx hb dX11_send_85 rfl (lv_at hl 0 rfl) ?_
            refine j7_read hx hb hown hK (C := RX11) (T := TX11) (N := 19) rfl hly_13_3 hlk_32 (hh_22.at 6 rfl) dX11_send_86 ?_
            refine lv_aload_n hx hb dX11_send_89 rfl (lv_at hl 0 rfl) ?_
            refine j7_read hx hb hown hK (C := RX11) (T := TX11) (N := 19) rfl hly_13_4 hlk_35 (hh_22.at 4 rfl) dX11_send_90 ?_
            refine j7_read hx hb hown hK (C := RX0) (T := TX0) (N := 2) rfl hly_2_1 hlk_92 (hh_22.at 0 rfl) dX11_send_93 ?_
            refine va_callv (A0 := jA base) (H0 := s.heap) (va_runV (As := [.int pc]) (rest := []) ⟨hx, hb, hml, hown, hts⟩ (uX0_numberF l dC dI ca base B hB hAp hB2 hB196 G0 H_15 ou pc 20000 qc_15 px n_px) (cwV 1 hts (jgV (jWr_26 _ (List.mem_of_getElem? (i := 16) rfl)) (jWr_24 _ (List.mem_of_getElem? (i := 16) rfl)) (jWr_24 _ (List.mem_of_getElem? (i := 17) rfl)) (jWr_1 _ (List.mem_of_getElem? (i := 14) rfl)) (jWr_24 _ (List.mem_of_getElem? (i := 18) rfl))) rfl rfl rfl (by decide +kernel) ⟨by rw [← hR]; exact Nat.le_of_ble_eq_true rfl, by rw [← hR]; exact Nat.le_of_ble_eq_true rfl⟩) ⟨fun a U g mk q => by obtain ⟨q0, q1, q2, qK, q10, q11, q12, q13⟩ := q; exact ⟨q0, q1, q2, jG.calling g mk a qK, q10, q11, q12, q13⟩, hh_22.recv (C := RX0) (T := TX0) (N := 2) hB2 rfl (by decide) hg_ou hK, fun U hU hW => ⟨rfl, hU, hh_22.2.1, hG.step hW hU hh_22.1, hg_ou, hg_px, (hh_22.2.2.1.sub (L1 := [(ou, 2, 1, .int qc_15), (ou, 2, 0, .ref px)]) [1, 7] rfl), ⟨(by first | omega | rfl | assumption | exact hdc.np (by omega)), (by first | omega | rfl | assumption | exact hdc.np (by omega)), (by first | omega | rfl | assumption | exact hdc.np (by omega)), (by first | omega | rfl | assumption | exact hdc.np (by omega)), (by first | omega | rfl | assumption | exact hdc.np (by omega)), (by first | assumption | exact hdc.np (by omega) | omega)⟩⟩⟩ rfl rfl hl.1 rfl (lv_room (Nat.le_of_ble_eq_true rfl)) dX11_send_96 ⟨Nat.zero_le _, Nat.zero_le _⟩) hh_22.1 (fun q _ h => h) (fun q h => h) (fun u_23 t_23 H_23 locs_23 ht_23 hvm_23 hr_24 hb_23 hz_23 hk_23 hS_23 => ?_)
            obtain ⟨qc_23, rfl⟩ : ∃ z, z = u_23 := ⟨_, rfl⟩
            rw [ht_23] at hb_23
            have hy_25 := hh_22.iv 0 rfl
            obtain ⟨hb_23, hbO_23⟩ := hb_23
            obtain ⟨hb_231, hb_232, hb_233, hb_234, hb_235⟩ := hb_23
            have hh_23 : jSt (dC, dI) B base G0 G0 EX11_send s.heap 0 0 [(ou, 2, 1, .int qc_23), (frames_4, 4, 4, .int broken_7), (r0, 13, 1, .ref frames_4), (r0, 13, 4, .ref bo), (bo, 2, 0, .ref pa), (r0, 13, 3, .ref ou), (ou, 2, 0, .ref px)] [] [] H_23 locs_23 := ((hh_22.call hb_231 hb_232 hb_233 hb_234 hS_23 rfl (L1 := [(frames_4, 4, 4, .int broken_7), (r0, 13, 1, .ref frames_4), (r0, 13, 4, .ref bo), (bo, 2, 0, .ref pa), (r0, 13, 3, .ref ou), (ou, 2, 0, .ref px)]) [2, 3, 4, 5, 6, 7] rfl rfl (M1 := []) [] rfl rfl (I1 := []) [] rfl rfl).more hb_235)
            have hh_26 := hh_23.more (P1 := [(bo, 2, 1, .int pc)]) (jP.cons hg_bo (hbO_23 _ _ _ _ (by first | assumption | exact Ne.symm (by assumption) | exact jnek hg_bo hg_ou (by decide)) hg_bo (hh_22.at 0 rfl)) jP.nil)
            have hd_27 := jOl.trO (hh_22.iv 1 rfl) hh_22.2.2.2.2.1 hbO_23 (by simp)
            have hh_28 := hh_26.addI (jOl.ie (dC := dC) (dI := dI) (G0 := G0) (k := 2) (rs := [ou]) (H0 := s.heap) (F := [(2, 0), (2, 1)]) (C := RX0) (T := TX0) (N := 2) rfl (by decide) hh_26.2.2.2.2.1 (hd_27))
            clear hh_26
            clear hh_22 ht_23 hvm_23 hz_23 hk_23 hS_23 hb_231 hb_232 hb_233 hb_234 hb_235
            have hy_29 := jYb.own hy_25 hbO_23 jLe.rf (ks := [2]) jNk.rf (by decide) (fun h => absurd (hg_ou.symm.trans h) (by decide))
            have hh_30 := hh_28.addI (jYb.ie hy_29)
            clear hh_28
            obtain ⟨hr_24_0, hr_24_1, hr_24_2, hr_24_3, hr_24_4, hr_24_5, hr_24_6, hr_24_7⟩ := hr_24
            have hq9 := hdc.end hr_24_1 hr_24_2 hr_24_3 hr_24_4 hr_24_5 hr_24_6 hr_24_7
            clear hr_24_1 hr_24_2 hr_24_3 hr_24_4 hr_24_5 hr_24_6 hr_24_7
            refine lv_aload_n hx hb dX11_send_99 rfl (lv_at hl 0 rfl) ?_
            refine j7_read hx hb hown hK (C := RX11) (T := TX11) (N := 19) rfl hly_13_3 hlk_32 (hh_30.at 6 rfl) dX11_send_100 ?_
            refine j_ldcSw hx hb hown rstr562 dX11_send_103 ?_
            refine va_callv (A0 := jA base) (H0 := s.heap) (va_runV (As := [.ref str562]) (rest := []) ⟨hx, hb, hml, hown, hts⟩ (uX0_textF l dC dI ca base B hB hAp hB2 hB196 G0 H_23 ou str562 4 20000 qc_23 px n_px) (cwV 1 hts (jgV (jWr_26 _ (List.mem_of_getElem? (i := 11) rfl)) (jWr_25 _ (List.mem_of_getElem? (i := 22) rfl)) (jWr_25 _ (List.mem_of_getElem? (i := 23) rfl)) (jWr_1 _ (List.mem_of_getElem? (i := 14) rfl)) (jWr_26 _ (List.mem_of_getElem? (i := 0) rfl))) rfl rfl rfl (by decide +kernel) ⟨by rw [← hR]; exact Nat.le_of_ble_eq_true rfl, by rw [← hR]; exact Nat.le_of_ble_eq_true rfl⟩) ⟨fun a U g mk q => by obtain ⟨q0, q1, q2, qK, q10, q11, q12, q13, q14⟩ := q; exact ⟨q0, q1, q2, jG.calling g mk a qK, (q10.moved (Vm.Alike.refl U.vm)), q11, q12, q13, q14⟩, hh_30.recv (C := RX0) (T := TX0) (N := 2) hB2 rfl (by decide) hg_ou hK, fun U hU hW => ⟨rfl, hU, hh_30.2.1, hG.step hW hU hh_30.1, (hstr562.moved hW.alike).kept hh_30.1.2.1, hg_ou, hg_px, (hh_30.2.2.1.sub (L1 := [(ou, 2, 1, .int qc_23), (ou, 2, 0, .ref px)]) [1, 7] rfl), by first | omega | (refine ⟨?_, ?_, ?_, ?_, ?_⟩ <;> (first | omega | rfl | assumption | decide | exact Or.inl rfl | exact Or.inr rfl | (simp only; omega)))⟩⟩ rfl rfl hl.1 rfl (lv_room (Nat.le_of_ble_eq_true rfl)) dX11_send_106 ⟨Nat.zero_le _, Nat.zero_le _⟩) hh_30.1 (fun q _ h => h) (fun q h => h) (fun u_31 t_31 H_31 locs_31 ht_31 hvm_31 hr_32 hb_31 hz_31 hk_31 hS_31 => ?_)
            obtain ⟨qc_31, rfl⟩ : ∃ z, z = u_31 := ⟨_, rfl⟩
            rw [ht_31] at hb_31
            have hy_33 := hh_30.iv 0 rfl
            obtain ⟨hb_31, hbO_31⟩ := hb_31
            obtain ⟨hb_311, hb_312, hb_313, hb_314, hb_315⟩ := hb_31
            have hh_31 : jSt (dC, dI) B base G0 G0 EX11_send s.heap 0 0 [(ou, 2, 1, .int qc_31), (frames_4, 4, 4, .int broken_7), (r0, 13, 1, .ref frames_4), (r0, 13, 4, .ref bo), (bo, 2, 0, .ref pa), (r0, 13, 3, .ref ou), (ou, 2, 0, .ref px)] [] [] H_31 locs_31 := ((hh_30.call hb_311 hb_312 hb_313 hb_314 hS_31 rfl (L1 := [(frames_4, 4, 4, .int broken_7), (r0, 13, 1, .ref frames_4), (r0, 13, 4, .ref bo), (bo, 2, 0, .ref pa), (r0, 13, 3, .ref ou), (ou, 2, 0, .ref px)]) [2, 3, 4, 5, 6, 7] rfl rfl (M1 := []) [] rfl rfl (I1 := []) [] rfl rfl).more hb_315)
            have hh_34 := hh_31.more (P1 := [(bo, 2, 1, .int pc)]) (jP.cons hg_bo (hbO_31 _ _ _ _ (by first | assumption | exact Ne.symm (by assumption) | exact jnek hg_bo hg_ou (by decide)) hg_bo (hh_30.at 0 rfl)) jP.nil)
            have hd_35 := jOl.trO (hh_30.iv 1 rfl) hh_30.2.2.2.2.1 hbO_31 (by simp)
            have hh_36 := hh_34.addI (jOl.ie (dC := dC) (dI := dI) (G0 := G0) (k := 2) (rs := [ou]) (H0 := s.heap) (F := [(2, 0), (2, 1)]) (C := RX0) (T := TX0) (N := 2) rfl (by decide) hh_34.2.2.2.2.1 (hd_35))
            clear hh_34
            clear hh_30 ht_31 hvm_31 hz_31 hk_31 hS_31 hb_311 hb_312 hb_313 hb_314 hb_315
            have hy_37 := jYb.own hy_33 hbO_31 jLe.rf (ks := [2]) jNk.rf (by decide) (fun h => absurd (hg_ou.symm.trans h) (by decide))
            have hh_38 := hh_36.addI (jYb.ie hy_37)
            clear hh_36
            refine lv_aload_n hx hb dX11_send_109 rfl (lv_at hl 0 rfl) ?_
            refine j7_read hx hb hown hK (C := RX11) (T := TX11) (N := 19) rfl hly_13_3 hlk_32 (hh_38.at 6 rfl) dX11_send_110 ?_
            refine lv_aload_n hx hb dX11_send_113 rfl (lv_at hl 0 rfl) ?_
            refine j7_read hx hb hown hK (C := RX11) (T := TX11) (N := 19) rfl hly_13_4 hlk_35 (hh_38.at 4 rfl) dX11_send_114 ?_
            refine va_callv (A0 := jA base) (H0 := s.heap) (va_runV (As := [.ref bo]) (rest := []) ⟨hx, hb, hml, hown, hts⟩ (uX0_appendF l dC dI ca base B hB hAp hB2 hB196 G0 H_31 ou bo 20000 qc_31 px n_px pc pa n_pa) (cwV 1 hts (jgV (jWr_26 _ (List.mem_of_getElem? (i := 12) rfl)) (jWr_26 _ (List.mem_of_getElem? (i := 13) rfl)) (jWr_26 _ (List.mem_of_getElem? (i := 14) rfl)) (jWr_1 _ (List.mem_of_getElem? (i := 14) rfl)) (jWr_26 _ (List.mem_of_getElem? (i := 15) rfl))) rfl rfl rfl (by decide +kernel) ⟨by rw [← hR]; exact Nat.le_of_ble_eq_true rfl, by rw [← hR]; exact Nat.le_of_ble_eq_true rfl⟩) ⟨fun a U g mk q => by obtain ⟨q0, q1, q2, qK, q10, q11, q12, q13, q14, q15⟩ := q; exact ⟨q0, q1, q2, jG.calling g mk a qK, q10, q11, q12, q13, q14, q15⟩, hh_38.recv (C := RX0) (T := TX0) (N := 2) hB2 rfl (by decide) hg_ou hK, fun U hU hW => ⟨rfl, hU, hh_38.2.1, hG.step hW hU hh_38.1, hg_ou, hg_bo, hg_px, hg_pa, (hh_38.2.2.1.sub (L1 := [(ou, 2, 1, .int qc_31), (ou, 2, 0, .ref px), (bo, 2, 1, .int pc), (bo, 2, 0, .ref pa)]) [1, 7, 0, 5] rfl), by first | omega | (refine ⟨?_, ?_, ?_, ?_, ?_, ?_, ?_, ?_⟩ <;> (first | omega | rfl | assumption | decide | exact Or.inl rfl | exact Or.inr rfl | (simp only; omega)))⟩⟩ rfl rfl hl.1 rfl (lv_room (Nat.le_of_ble_eq_true rfl)) dX11_send_117 ⟨Nat.zero_le _, Nat.zero_le _⟩) hh_38.1 (fun q _ h => h) (fun q h => h) (fun u_39 t_39 H_39 locs_39 ht_39 hvm_39 hr_40 hb_39 hz_39 hk_39 hS_39 => ?_)
            obtain ⟨qc_39, rfl⟩ : ∃ z, z = u_39 := ⟨_, rfl⟩
            rw [ht_39] at hb_39
            have hy_41 := hh_38.iv 0 rfl
            obtain ⟨hb_39, hbO_39⟩ := hb_39
            obtain ⟨hb_391, hb_392, hb_393, hb_394, hb_395⟩ := hb_39
            have hh_39 : jSt (dC, dI) B base G0 G0 EX11_send s.heap 0 0 [(ou, 2, 1, .int qc_39), (frames_4, 4, 4, .int broken_7), (r0, 13, 1, .ref frames_4), (r0, 13, 4, .ref bo), (bo, 2, 0, .ref pa), (r0, 13, 3, .ref ou), (ou, 2, 0, .ref px)] [] [] H_39 locs_39 := ((hh_38.call hb_391 hb_392 hb_393 hb_394 hS_39 rfl (L1 := [(frames_4, 4, 4, .int broken_7), (r0, 13, 1, .ref frames_4), (r0, 13, 4, .ref bo), (bo, 2, 0, .ref pa), (r0, 13, 3, .ref ou), (ou, 2, 0, .ref px)]) [2, 3, 4, 5, 6, 7] rfl rfl (M1 := []) [] rfl rfl (I1 := []) [] rfl rfl).more hb_395)
            have hh_42 := hh_39.more (P1 := [(bo, 2, 1, .int pc)]) (jP.cons hg_bo (hbO_39 _ _ _ _ (by first | assumption | exact Ne.symm (by assumption) | exact jnek hg_bo hg_ou (by decide)) hg_bo (hh_38.at 0 rfl)) jP.nil)
            have hd_43 := jOl.trO (hh_38.iv 1 rfl) hh_38.2.2.2.2.1 hbO_39 (by simp)
            have hh_44 := hh_42.addI (jOl.ie (dC := dC) (dI := dI) (G0 := G0) (k := 2) (rs := [ou]) (H0 := s.heap) (F := [(2, 0), (2, 1)]) (C := RX0) (T := TX0) (N := 2) rfl (by decide) hh_42.2.2.2.2.1 (hd_43))
            clear hh_42
            clear hh_38 ht_39 hvm_39 hz_39 hk_39 hS_39 hb_391 hb_392 hb_393 hb_394 hb_395
            have hy_45 := jYb.own hy_41 hbO_39 jLe.rf (ks := [2]) jNk.rf (by decide) (fun h => absurd (hg_ou.symm.trans h) (by decide))
            have hh_46 := hh_44.addI (jYb.ie hy_45)
            clear hh_44
            rw [hQ]
            exact W.vret hx hb hr (fun t ht hW => ⟨⟨(), rfl, trivial, ⟨⟨hh_46.rt (M1 := []) [] rfl ht, by rw [ht]; exact hh_46.iv 1 rfl⟩, by rw [ht]; exact hh_46.2.2.2.2.2.2.2.2.sub (L1 := [(jFy, jYb dC dI G0)]) [0] rfl⟩⟩, by rw [ht]; try exact hh_46.1.1, fun q h9 hq => by rw [ht]; try exact hh_46.1.2.1 q h9 hq⟩) hh_46.1.2.2 dX11_send_120
          · skip
            have c_14' : z_13.toInt > 20000 := jb_le_n (rfl) ((by decide)) c_14
            refine lv_aload_n hx hb dX11_send_64 rfl (lv_at hl 0 rfl) ?_
            refine lv_dup hx hb dX11_send_65 rfl ?_
            obtain ⟨v_47, hv_47, hh_48⟩ := hh_9.pin (C := RX11) (T := TX11) (N := 19) hB13 rfl (by decide) hg_r0 (i := 14) (by decide) rfl
            clear hh_9
            obtain ⟨lost_49, rfl⟩ := hv_47
            refine j7_read hx hb hown hK (C := RX11) (T := TX11) (N := 19) rfl hly_13_14 hlk_151 (hh_48.at 0 rfl) dX11_send_66 ?_
            refine lv_iconst (v := 1) hx hb dX11_send_69 (by decide) ?_
            refine lv_iadd hx hb dX11_send_70 ?_
            refine lv_topi (fun z_50 ez_50 => ?_)
            refine j7_put hx hb hown hK hh_48 hB hAp hB13 (C := RX11) (T := TX11) (N := 19) rfl (by decide) hg_r0 (i := 14) (by decide) hly_13_14 rfl hlk_151 rfl (ty := .int) (v := .int z_50) (by decide +kernel) rfl rfl (⟨_, rfl⟩) rfl (L1 := [(frames_4, 4, 4, .int broken_7), (r0, 13, 1, .ref frames_4), (r0, 13, 4, .ref bo), (bo, 2, 1, .int pc), (bo, 2, 0, .ref pa), (r0, 13, 3, .ref ou), (ou, 2, 1, .int po), (ou, 2, 0, .ref px)]) [1, 2, 3, 4, 5, 6, 7, 8] rfl rfl rfl dX11_send_71 (fun H_51 locs_51 hh_51 => ?_)
            clear hh_48
            rw [hQ]
            exact W.vret hx hb hr (fun t ht hW => ⟨⟨(), rfl, trivial, ⟨⟨hh_51.rt (M1 := []) [] rfl ht, by rw [ht]; exact hh_51.iv 0 rfl⟩, by rw [ht]; exact hh_51.2.2.2.2.2.2.2.2.sub (L1 := [(jFy, jYb dC dI G0)]) [1] rfl⟩⟩, by rw [ht]; try exact hh_51.1.1, fun q h9 hq => by rw [ht]; try exact hh_51.1.2.1 q h9 hq⟩) hh_51.1.2.2 dX11_send_74
        · skip
          have c_10' : v2_9.toInt ≥ 10 := jb_lt_n (rfl) ((by decide)) c_10
          obtain ⟨z_52, ez_52⟩ : ∃ y : Int32, y = v1_9 + 1 := ⟨_, rfl⟩
          refine lv_iinc (v := z_52) (lv' := [(1, .int z_52), (0, .ref r0), (2, .int v2_9)]) hx hb dX11_send_27 hl (k := 1) rfl (by rw [ez_52]; rfl) (by decide) rfl (fun ls hl => ?_)
          have hz_52 : z_52.toInt = v1_9.toInt + 1 := by rw [ez_52]; exact jb_iadd2 (rfl) (by decide) (by omega)
          refine lv_iload_n hx hb dX11_send_30 rfl (lv_at hl 2 rfl) ?_
          refine lv_bipush (v := 10) hx hb dX11_send_31 (by decide) ?_
          refine lv_idiv hx hb dX11_send_33 (by decide) ?_
          refine lv_topi (fun z_53 ez_53 => ?_)
          have hz_53 := jb_idiv (n := 10) ez_53 (by decide) (by decide)
          refine lv_istore_n (lv' := [(2, .int z_53), (1, .int z_52), (0, .ref r0)]) hx hb dX11_send_34 rfl hl (by decide) rfl (fun ls hl => ?_)
          refine lv_goto (tgt := 21) hx hb dX11_send_35 (by decide) ?_
          exact L21 z_52 z_53 _ _ hh_9 (by refine ⟨by omega, ?_⟩; exact hi_9_1.step (by omega) (by omega) (by omega) (by omega)) (by omega) _ (lv_sub hl [2, 1, 0] rfl)
    exact L21 ((pc : Int32).toInt : Int).toNat.succ 1 pc _ _ hh_6 (by refine ⟨by omega, ?_⟩; rw [hk1]; exact jDi.start) (by omega) _ (lv_sub hl [2, 1, 0] rfl)
  · skip
    have c_8' : broken_7.toInt ≠ 0 := jb_eq_n (rfl) ((by decide)) c_8
    rw [hQ]
    exact W.vret hx hb hr (fun t ht hW => ⟨⟨(), rfl, trivial, ⟨⟨hh_6.rt (M1 := []) [] rfl ht, by rw [ht]; exact hh_6.iv 0 rfl⟩, by rw [ht]; exact hh_6.2.2.2.2.2.2.2.2.sub (L1 := [(jFy, jYb dC dI G0)]) [1] rfl⟩⟩, by rw [ht]; try exact hh_6.1.1, fun q h9 hq => by rw [ht]; try exact hh_6.1.2.1 q h9 hq⟩) hh_6.1.2.2 dX11_send_10
end
