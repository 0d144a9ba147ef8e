section
def EX0_putP : List (Nat × Nat) := [(2, 1), (197, 0)]
def EX11_putOnTapeP : List (Nat × Nat) := [(2, 1), (197, 0)]
def EX11_feedP : List (Nat × Nat) := [(2, 1), (197, 0)]
set_option maxHeartbeats 4000000 in
set_option maxRecDepth 20000 in
theorem uX0_putP (l : Launch) (dC : Nat → ClassId) (dI : Nat → Nat → Nat) (ca : Nat → ClassId) (base : Nat) (B : jF) (hB : jBok B) (hAp : jAp (dC, dI)) (hB2 : ∀ n G a H, B 2 n G a H ↔ jOb (dC, dI) 2 2 (F2 n G) a H) (hB196 : ∀ n G a H, B 196 n G a H ↔ jAr (dC, dI) (ca 0) (fun j z => jBf j z) n a H) (hB197 : ∀ n G a H, B 197 n G a H ↔ jAr (dC, dI) (ca 0) (fun j z => jBf j z) n a H) (G0 : jT) (H0 : Heap) (r0 : Nat) (a1 : Int32) (pc : Int32) (tr_ : Nat) (fa : Nat → Int32) : Met l yX0_put (jw yX0_put cX0_put 2 none) ({ frames := 2, cells := 0, slots := 0, locals := 62 }) (va_Pc [.ref r0, .int a1] (fun U => U.heap = H0 ∧ jX B base G0 [] H0 ∧ jG dC dI ca base U ∧ G0 r0 = some (2, 4000) ∧ G0 tr_ = some (197, 4000) ∧ jP (dC, dI) G0 H0 [(r0, 2, 1, .int pc), (r0, 2, 0, .ref tr_)] ∧ jMc (dC, dI) G0 H0 [(tr_, 197, 4000, ca 0, fa)] ∧ 0 ≤ pc.toInt ∧ pc.toInt < 4000)) (va_Qv (S := Int32 × (Nat → Int32)) (fun u => u.1.toInt = pc.toInt + 1 ∧ jSo u.2 pc.toInt % 256 = a1.toInt % 256 ∧ jOth 4000 fa u.2 pc.toInt) (fun u t => (jRt (dC, dI) B base G0 EX0_putP H0 [(r0, 2, 1, .int u.1)] t.heap ∧ jMc (dC, dI) G0 t.heap [(tr_, 197, 4000, ca 0, u.2)]) ∧ jOw (dC, dI) G0 2 r0 H0 t.heap) (jA base)) 0 0 (jA base) := by
  refine Met.ofW (cc := cX0_put) (maxL := 2) (ret := none) (by decide) rfl ?_
  intro p e s m args below meth c s₁ Bd hml hv
  obtain ⟨rfl, hH0, hX, hG, hg_r0, hg_tr_, hP0, hM0, hp0, hp1⟩ := hv
  have hK := hG.1
  have hx := Bd.exec
  have hb := Bd.bytes
  have hr := Bd.returns
  have hts := atoms_spec (ws := (jw yX0_put cX0_put 2 none)) Bd.pre
  have htw : ∀ w ∈ jWl, w.before _ s = true := fun w h => hts w (List.mem_cons_of_mem _ h)
  have hown : s.vm.findClass RX0 = some m.cls := findClass_of_methodNamed Bd.named
  have hlocks := Bd.notSynchronized
  obtain ⟨Q, hQ⟩ : ∃ Q, Q = MQ below (va_Qv (S := Int32 × (Nat → Int32)) (fun u => u.1.toInt = pc.toInt + 1 ∧ jSo u.2 pc.toInt % 256 = a1.toInt % 256 ∧ jOth 4000 fa u.2 pc.toInt) (fun u t => (jRt (dC, dI) B base G0 EX0_putP H0 [(r0, 2, 1, .int u.1)] t.heap ∧ jMc (dC, dI) G0 t.heap [(tr_, 197, 4000, ca 0, u.2)]) ∧ jOw (dC, dI) G0 2 r0 H0 t.heap) (jA base)) ([.ref r0, .int a1] : List Value).toArray s 0 0 (jA base) := ⟨_, rfl⟩
  rw [← hQ]
  have hl := lv_entry ([.ref r0, .int a1]) (n := 2) (Nat.le_of_ble_eq_true rfl)
  rw [lg_entry_eq]
  generalize (lg_sl ([.ref r0, .int a1]) ++ List.replicate (2 - (lg_sl ([.ref r0, .int a1])).length) Slot.unset).toArray = ls at hl ⊢
  have hl : lv_has ls 2 [(0, .ref r0), (1, .int a1)] := hl
  generalize hR : (headSpec (jw yX0_put cX0_put 2 none) ({ frames := 2, cells := 0, slots := 0, locals := 62 })).room = R
  subst hH0
  have hh : jSt (dC, dI) B base G0 G0 EX0_putP s.heap 0 0 [(r0, 2, 1, .int pc), (r0, 2, 0, .ref tr_)] [(tr_, 197, 4000, ca 0, fa)] [] s.heap [] := jSt.start hX hP0 hM0 jIs.nil
  clear hX hP0
  have hk0 : (0 : Int32).toInt = 0 := by decide
  have hk1 : (1 : Int32).toInt = 1 := by decide
  have hk2 : (2 : Int32).toInt = 2 := by decide
  have hk1000000 : (1000000 : Int32).toInt = 1000000 := by decide
  have hly_2_0 := htw (u_lay RX0 TX0 0) (jWc_wsX00 _ (u_in_lay (by decide)))
  have hly_2_1 := htw (u_lay RX0 TX0 1) (jWc_wsX00 _ (u_in_lay (by decide)))
  have hlk_19 := (htw (.fieldLink RX0 19 "ProofServer$Bytes" "count" "I") (jWr_16 _ (List.mem_of_getElem? (i := 3) rfl)))
  have hlk_13 := (htw (.fieldLink RX0 13 "ProofServer$Bytes" "row" "[B") (jWr_3 _ (List.mem_of_getElem? (i := 10) rfl)))
  have hcs_23 := htw (.constant RX0 23 1000000) (jWr_16 _ (List.mem_of_getElem? (i := 4) rfl))
  have hrg_a1 := jb_rng a1
  have hh_1 := hh.addI (jOw.ie (dC := dC) (dI := dI) (G0 := G0) (k := 2) (r := r0) (H0 := s.heap) (F := [(2, 0), (2, 1)]) (C := RX0) (T := TX0) (N := 2) rfl (by decide) hh.2.2.2.2.1 (jOw.rf))
  clear hh
  refine lv_aload_n hx hb dX0_put_0 rfl (lv_at hl 0 rfl) ?_
  refine j7_read hx hb hown hK (C := RX0) (T := TX0) (N := 2) rfl hly_2_1 hlk_19 (hh_1.at 0 rfl) dX0_put_1 ?_
  refine lv_aload_n hx hb dX0_put_4 rfl (lv_at hl 0 rfl) ?_
  refine j7_read hx hb hown hK (C := RX0) (T := TX0) (N := 2) rfl hly_2_0 hlk_13 (hh_1.at 1 rfl) dX0_put_5 ?_
  refine j7_len hx hb hK hh_1 hB197 0 rfl (by decide) hg_tr_ (by omega) dX0_put_8 (fun z_2 hz_2 => ?_)
  refine lv_icmp_lt (tgt := 39) hx hb dX0_put_9 (by decide) (fun c_3 => ?_) (fun c_3 => ?_)
  · skip
    have c_3' : pc.toInt < z_2.toInt := jb_lt (rfl) (rfl) c_3
    refine lv_aload_n hx hb dX0_put_39 rfl (lv_at hl 0 rfl) ?_
    refine j7_read hx hb hown hK (C := RX0) (T := TX0) (N := 2) rfl hly_2_1 hlk_19 (hh_1.at 0 rfl) dX0_put_40 ?_
    refine lv_if_lt (tgt := 79) hx hb dX0_put_43 (by decide) (fun c_4 => ?_) (fun c_4 => ?_)
    · skip
      have c_4' : pc.toInt < 0 := jb_lt (rfl) ((by decide)) c_4
      exact absurd c_4' (by omega)
    · skip
      have c_4' : pc.toInt ≥ 0 := jb_lt_n (rfl) ((by decide)) c_4
      refine lv_aload_n hx hb dX0_put_46 rfl (lv_at hl 0 rfl) ?_
      refine j7_read hx hb hown hK (C := RX0) (T := TX0) (N := 2) rfl hly_2_1 hlk_19 (hh_1.at 0 rfl) dX0_put_47 ?_
      refine lv_aload_n hx hb dX0_put_50 rfl (lv_at hl 0 rfl) ?_
      refine j7_read hx hb hown hK (C := RX0) (T := TX0) (N := 2) rfl hly_2_0 hlk_13 (hh_1.at 1 rfl) dX0_put_51 ?_
      refine j7_len hx hb hK hh_1 hB197 0 rfl (by decide) hg_tr_ (by omega) dX0_put_54 (fun z_5 hz_5 => ?_)
      refine lv_icmp_ge (tgt := 79) hx hb dX0_put_55 (by decide) (fun c_6 => ?_) (fun c_6 => ?_)
      · skip
        have c_6' : pc.toInt ≥ z_5.toInt := jb_ge (rfl) (rfl) c_6
        exact absurd c_6' (by omega)
      · skip
        have c_6' : pc.toInt < z_5.toInt := jb_ge_n (rfl) (rfl) c_6
        refine lv_aload_n hx hb dX0_put_58 rfl (lv_at hl 0 rfl) ?_
        refine j7_read hx hb hown hK (C := RX0) (T := TX0) (N := 2) rfl hly_2_0 hlk_13 (hh_1.at 1 rfl) dX0_put_59 ?_
        refine lv_aload_n hx hb dX0_put_62 rfl (lv_at hl 0 rfl) ?_
        refine j7_read hx hb hown hK (C := RX0) (T := TX0) (N := 2) rfl hly_2_1 hlk_19 (hh_1.at 0 rfl) dX0_put_63 ?_
        refine lv_iload_n hx hb dX0_put_66 rfl (lv_at hl 1 rfl) ?_
        refine lv_i2b hx hb dX0_put_67 rfl ?_
        refine lv_topi (fun z_7 ez_7 => ?_)
        refine j7_bastU hx hb hK hh_1 hB hB197 0 rfl (by decide) (by decide) rfl 0 rfl (M1 := []) [] rfl rfl rfl hg_tr_ (x := pc.toInt) (rfl) (by omega) dX0_put_68 (fun H_8 locs_8 fs_9 hv_8 ho_8 hh_8 => ?_)
        have hv_8 : jSo fs_9 (pc.toInt) = (vp_nar .byte z_7).toInt := by unfold jSo; rw [hv_8]
        clear hh_1
        refine lv_aload_n hx hb dX0_put_69 rfl (lv_at hl 0 rfl) ?_
        refine lv_dup hx hb dX0_put_70 rfl ?_
        refine j7_read hx hb hown hK (C := RX0) (T := TX0) (N := 2) rfl hly_2_1 hlk_19 (hh_8.at 0 rfl) dX0_put_71 ?_
        refine lv_iconst (v := 1) hx hb dX0_put_74 (by decide) ?_
        refine lv_iadd hx hb dX0_put_75 ?_
        refine lv_topi (fun z_10 ez_10 => ?_)
        have hz_10 : z_10.toInt = pc.toInt + 1 := by rw [ez_10]; exact jb_iadd2 (rfl) ((by decide)) (by omega)
        have hd_12 := hh_8.iv 0 rfl
        have hh_13 := hh_8.sub (L1 := [(r0, 2, 1, .int pc), (r0, 2, 0, .ref tr_)]) [0, 1] rfl (M1 := [(tr_, 197, 4000, ca 0, fs_9)]) [0] rfl (I1 := []) [] rfl
        clear hh_8
        refine j7_putX hx hb hown hK hh_13 hB hAp hB2 (C := RX0) (T := TX0) (N := 2) rfl (by decide) hg_r0 (i := 1) (by decide) hly_2_1 rfl hlk_19 rfl (ty := .int) (v := .int z_10) (by decide +kernel) rfl rfl (⟨_, rfl, by omega, by omega, by omega⟩) rfl (L1 := [(r0, 2, 0, .ref tr_)]) [1] rfl rfl rfl dX0_put_76 (fun H_11 locs_11 hr_11 hh_11 => ?_)
        clear hh_13
        have hd_12n := jOw.put hd_12 hr_11
        have hh_14 := hh_11.addI (jOw.ie (dC := dC) (dI := dI) (G0 := G0) (k := 2) (r := r0) (H0 := s.heap) (F := [(2, 0), (2, 1)]) (C := RX0) (T := TX0) (N := 2) rfl (by decide) hh_11.2.2.2.2.1 (hd_12n))
        clear hh_11
        clear hd_12 hd_12n hr_11
        rw [hQ]
        exact W.vret hx hb hr (fun t ht hW => ⟨⟨(z_10, fs_9), rfl, by (try dsimp only); refine ⟨by omega, ?_, ?_⟩; (rw [hv_8, ez_7]; exact jNb _); exact jOth.mk (n := 4000) ho_8 rfl (by omega), ⟨⟨hh_14.rt (M1 := [(r0, 2, 1, .int z_10)]) [0] rfl ht, by rw [ht]; exact hh_14.2.2.2.2.2.2.2.1.sub [0] rfl⟩, by rw [ht]; exact hh_14.iv 0 rfl⟩⟩, by rw [ht]; try exact hh_14.1.1, fun q h9 hq => by rw [ht]; try exact hh_14.1.2.1 q h9 hq⟩) hh_14.1.2.2 dX0_put_79
  · skip
    have c_3' : pc.toInt ≥ z_2.toInt := jb_lt_n (rfl) (rfl) c_3
    exact absurd c_3' (by omega)
set_option maxHeartbeats 4000000 in
set_option maxRecDepth 20000 in
theorem uX11_putOnTapeP (l : Launch) (dC : Nat → ClassId) (dI : Nat → Nat → Nat) (ca : Nat → ClassId) (base : Nat) (B : jF) (hB : jBok B) (hAp : jAp (dC, dI)) (hB2 : ∀ n G a H, B 2 n G a H ↔ jOb (dC, dI) 2 2 (F2 n G) a H) (hB13 : ∀ n G a H, B 13 n G a H ↔ jOb (dC, dI) 13 19 (F13 n G) a H) (hB196 : ∀ n G a H, B 196 n G a H ↔ jAr (dC, dI) (ca 0) (fun j z => jBf j z) n a H) (hB197 : ∀ n G a H, B 197 n G a H ↔ jAr (dC, dI) (ca 0) (fun j z => jBf j z) n a H) (G0 : jT) (H0 : Heap) (r0 : Nat) (a1 : Int32) (ta : Nat) (pt : Int32) (tr_ : Nat) (fa : Nat → Int32) : Met l yX11_putOnTape (jw yX11_putOnTape cX11_putOnTape 3 none) ({ frames := 3, cells := 0, slots := 0, locals := 83 }) (va_Pc [.ref r0, .int a1] (fun U => U.heap = H0 ∧ jX B base G0 [] H0 ∧ jG dC dI ca base U ∧ G0 r0 = some (13, 0) ∧ G0 ta = some (2, 4000) ∧ G0 tr_ = some (197, 4000) ∧ jP (dC, dI) G0 H0 [(r0, 13, 0, .ref ta), (ta, 2, 1, .int pt), (ta, 2, 0, .ref tr_)] ∧ jMc (dC, dI) G0 H0 [(tr_, 197, 4000, ca 0, fa)] ∧ jIs (dC, dI) G0 H0 [(jFy, jYb dC dI G0)] ∧ 0 ≤ pt.toInt ∧ pt.toInt + 4 ≤ 4000)) (va_Qv (S := Int32 × (Nat → Int32)) (fun u => u.1.toInt = pt.toInt + 4 ∧ jVpk fa u.2 pt.toInt a1.toInt 4) (fun u t => ((jRt (dC, dI) B base G0 EX11_putOnTapeP H0 [(ta, 2, 1, .int u.1)] t.heap ∧ jMc (dC, dI) G0 t.heap [(tr_, 197, 4000, ca 0, u.2)]) ∧ jOl (dC, dI) G0 2 [ta] H0 t.heap) ∧ jIs (dC, dI) G0 t.heap [(jFy, jYb dC dI G0)]) (jA base)) 0 0 (jA base) := by
  refine Met.ofW (cc := cX11_putOnTape) (maxL := 3) (ret := none) (by decide) rfl ?_
  intro p e s m args below meth c s₁ Bd hml hv
  obtain ⟨rfl, hH0, hX, hG, hg_r0, hg_ta, hg_tr_, hP0, hM0, hI0, hp0, hp1⟩ := hv
  have hK := hG.1
  have hx := Bd.exec
  have hb := Bd.bytes
  have hr := Bd.returns
  have hts := atoms_spec (ws := (jw yX11_putOnTape cX11_putOnTape 3 none)) Bd.pre
  have htw : ∀ w ∈ jWl, w.before _ s = true := fun w h => hts w (List.mem_cons_of_mem _ h)
  have hown : s.vm.findClass RX11 = some m.cls := findClass_of_methodNamed Bd.named
  have hlocks := Bd.notSynchronized
  obtain ⟨Q, hQ⟩ : ∃ Q, Q = MQ below (va_Qv (S := Int32 × (Nat → Int32)) (fun u => u.1.toInt = pt.toInt + 4 ∧ jVpk fa u.2 pt.toInt a1.toInt 4) (fun u t => ((jRt (dC, dI) B base G0 EX11_putOnTapeP H0 [(ta, 2, 1, .int u.1)] t.heap ∧ jMc (dC, dI) G0 t.heap [(tr_, 197, 4000, ca 0, u.2)]) ∧ jOl (dC, dI) G0 2 [ta] H0 t.heap) ∧ jIs (dC, dI) G0 t.heap [(jFy, jYb dC dI G0)]) (jA base)) ([.ref r0, .int a1] : List Value).toArray s 0 0 (jA base) := ⟨_, rfl⟩
  rw [← hQ]
  have hl := lv_entry ([.ref r0, .int a1]) (n := 3) (Nat.le_of_ble_eq_true rfl)
  rw [lg_entry_eq]
  generalize (lg_sl ([.ref r0, .int a1]) ++ List.replicate (3 - (lg_sl ([.ref r0, .int a1])).length) Slot.unset).toArray = ls at hl ⊢
  have hl : lv_has ls 3 [(0, .ref r0), (1, .int a1)] := hl
  generalize hR : (headSpec (jw yX11_putOnTape cX11_putOnTape 3 none) ({ frames := 3, cells := 0, slots := 0, locals := 83 })).room = R
  subst hH0
  have hh : jSt (dC, dI) B base G0 G0 EX11_putOnTapeP s.heap 0 0 [(r0, 13, 0, .ref ta), (ta, 2, 1, .int pt), (ta, 2, 0, .ref tr_)] [(tr_, 197, 4000, ca 0, fa)] [(jFy, jYb dC dI G0)] s.heap [] := jSt.start hX hP0 hM0 hI0
  clear hX hP0
  have hk0 : (0 : Int32).toInt = 0 := by decide
  have hk1 : (1 : Int32).toInt = 1 := by decide
  have hk24 : (24 : Int32).toInt = 24 := by decide
  have hly_13_0 := htw (u_lay RX11 TX11 0) (jWc_wsX110 _ (u_in_lay (by decide)))
  have hlk_14 := (htw (.fieldLink RX11 14 "ProofServer" "tape" "LProofServer$Bytes;") (jWr_1 _ (List.mem_of_getElem? (i := 15) rfl)))
  have hrg_a1 := jb_rng a1
  have hh_1 := hh.addI (jOl.ie (dC := dC) (dI := dI) (G0 := G0) (k := 2) (rs := [ta]) (H0 := s.heap) (F := [(2, 0), (2, 1)]) (C := RX0) (T := TX0) (N := 2) rfl (by decide) hh.2.2.2.2.1 (jOl.rf))
  clear hh
  obtain ⟨fz0, hfz0⟩ : ∃ q : Nat → Int32, q = fa := ⟨_, rfl⟩
  refine lv_bipush (v := 24) hx hb dX11_putOnTape_0 (by decide) ?_
  refine lv_istore_n (lv' := [(2, .int 24), (0, .ref r0), (1, .int a1)]) hx hb dX11_putOnTape_2 rfl hl (by decide) rfl (fun ls hl => ?_)
  have L3 : ∀ (N : Nat) (v2_2 : Int32) (wt_2 : Int32) (fa_2 : Nat → Int32) (H_2 : Heap) (locs_2 : List Loc), jSt (dC, dI) B base G0 G0 EX11_putOnTapeP s.heap 0 0 [(ta, 2, 1, .int wt_2), (r0, 13, 0, .ref ta), (ta, 2, 0, .ref tr_)] [(tr_, 197, 4000, ca 0, fa_2)] [([(2, 0), (2, 1)], jOl (dC, dI) G0 2 [ta] s.heap), (jFy, jYb dC dI G0)] H_2 locs_2 → (-8 ≤ v2_2.toInt ∧ v2_2.toInt ≤ 24 ∧ 8 * (wt_2.toInt - pt.toInt) = 24 - v2_2.toInt ∧ jVpk fz0 fa_2 pt.toInt a1.toInt (wt_2.toInt - pt.toInt)) → (v2_2.toInt + 8 : Int) < N → ∀ ls : Array Slot, lv_has ls 3 [(0, .ref r0), (1, .int a1), (2, .int v2_2)] → W p l e R s m ([.ref r0, .int a1] : List Value).toArray below meth c H_2 locs_2 0 0 Q (F0 m 3 ls []) := by
    intro N
    induction N with
    | zero => intro v2_2 wt_2 fa_2 H_2 locs_2 hh_2  hi_2 hm; exact absurd hm (by omega)
    | succ N L3 =>
      intro v2_2 wt_2 fa_2 H_2 locs_2 hh_2  hi_2 hm_2 ls hl
      obtain ⟨hi_2_0, hi_2_1, hi_2_2, hi_2_3⟩ := hi_2
      refine lv_iload_n hx hb dX11_putOnTape_3 rfl (lv_at hl 2 rfl) ?_
      refine lv_if_lt (tgt := 23) hx hb dX11_putOnTape_4 (by decide) (fun c_3 => ?_) (fun c_3 => ?_)
      · skip
        have c_3' : v2_2.toInt < 0 := jb_lt (rfl) ((by decide)) c_3
        rw [hQ]
        exact W.vret hx hb hr (fun t ht hW => ⟨⟨(wt_2, fa_2), rfl, by (try dsimp only); refine ⟨by omega, ?_⟩; have h9 := hi_2_3; rw [hfz0, show wt_2.toInt - pt.toInt = 4 by omega] at h9; exact h9, ⟨⟨⟨hh_2.rt (M1 := [(ta, 2, 1, .int wt_2)]) [0] rfl ht, by rw [ht]; exact hh_2.2.2.2.2.2.2.2.1.sub [0] rfl⟩, by rw [ht]; exact hh_2.iv 0 rfl⟩, by rw [ht]; exact hh_2.2.2.2.2.2.2.2.2.sub (L1 := [(jFy, jYb dC dI G0)]) [1] rfl⟩⟩, by rw [ht]; try exact hh_2.1.1, fun q h9 hq => by rw [ht]; try exact hh_2.1.2.1 q h9 hq⟩) hh_2.1.2.2 dX11_putOnTape_23
      · skip
        have c_3' : v2_2.toInt ≥ 0 := jb_lt_n (rfl) ((by decide)) c_3
        refine lv_aload_n hx hb dX11_putOnTape_7 rfl (lv_at hl 0 rfl) ?_
        refine j7_read hx hb hown hK (C := RX11) (T := TX11) (N := 19) rfl hly_13_0 hlk_14 (hh_2.at 1 rfl) dX11_putOnTape_8 ?_
        refine lv_iload_n hx hb dX11_putOnTape_11 rfl (lv_at hl 1 rfl) ?_
        refine lv_iload_n hx hb dX11_putOnTape_12 rfl (lv_at hl 2 rfl) ?_
        refine lv_ishr hx hb dX11_putOnTape_13 ?_
        refine lv_topi (fun z_4 ez_4 => ?_)
        refine va_callv (A0 := jA base) (H0 := s.heap) (va_runV (As := [.int z_4]) (rest := []) ⟨hx, hb, hml, hown, hts⟩ (uX0_putP l dC dI ca base B hB hAp hB2 hB196 hB197 G0 H_2 ta z_4 wt_2 tr_ fa_2) (cwV 1 hts (jgV (jWr_15 _ (List.mem_of_getElem? (i := 23) rfl)) (jWr_16 _ (List.mem_of_getElem? (i := 0) rfl)) (jWr_16 _ (List.mem_of_getElem? (i := 1) rfl)) (jWr_1 _ (List.mem_of_getElem? (i := 14) rfl)) (jWr_16 _ (List.mem_of_getElem? (i := 2) rfl))) rfl rfl rfl (by decide +kernel) ⟨by rw [← hR]; exact Nat.le_of_ble_eq_true rfl, by rw [← hR]; exact Nat.le_of_ble_eq_true rfl⟩) ⟨fun a U g mk q => by obtain ⟨q0, q1, q2, qK, q10, q11, q12, q13, q14⟩ := q; exact ⟨q0, q1, q2, jG.calling g mk a qK, q10, q11, q12, q13, q14⟩, hh_2.recv (C := RX0) (T := TX0) (N := 2) hB2 rfl (by decide) hg_ta hK, fun U hU hW => ⟨rfl, hU, hh_2.2.1, hG.step hW hU hh_2.1, hg_ta, hg_tr_, (hh_2.2.2.1.sub (L1 := [(ta, 2, 1, .int wt_2), (ta, 2, 0, .ref tr_)]) [0, 2] rfl), (hh_2.2.2.2.2.2.2.2.1.sub (L1 := [(tr_, 197, 4000, ca 0, fa_2)]) [0] rfl), by first | omega | (refine ⟨?_, ?_⟩ <;> (first | omega | rfl | assumption | decide | exact Or.inl rfl | exact Or.inr rfl | (simp only; omega)))⟩⟩ rfl rfl hl.1 rfl (lv_room (Nat.le_of_ble_eq_true rfl)) dX11_putOnTape_14 ⟨Nat.zero_le _, Nat.zero_le _⟩) hh_2.1 (fun q _ h => h) (fun q h => h) (fun u_5 t_5 H_5 locs_5 ht_5 hvm_5 hr_6 hb_5 hz_5 hk_5 hS_5 => ?_)
        obtain ⟨qc_5, ga_5⟩ := u_5
        rw [ht_5] at hb_5
        have hy_7 := hh_2.iv 1 rfl
        obtain ⟨hb_5, hbO_5⟩ := hb_5
        obtain ⟨⟨hb_51, hb_52, hb_53, hb_54, hb_55⟩, hb_56⟩ := hb_5
        have hh_5 : jSt (dC, dI) B base G0 G0 EX11_putOnTapeP s.heap 0 0 [(ta, 2, 1, .int qc_5), (r0, 13, 0, .ref ta), (ta, 2, 0, .ref tr_)] [(tr_, 197, 4000, ca 0, ga_5)] [] H_5 locs_5 := ((hh_2.call hb_51 hb_52 hb_53 hb_54 hS_5 rfl (L1 := [(r0, 13, 0, .ref ta), (ta, 2, 0, .ref tr_)]) [1, 2] rfl rfl (M1 := []) [] rfl rfl (I1 := []) [] rfl rfl).more hb_55).moreM hb_56
        have hd_8 := jOl.trO (hh_2.iv 0 rfl) hh_2.2.2.2.2.1 hbO_5 (by simp)
        have hh_9 := hh_5.addI (jOl.ie (dC := dC) (dI := dI) (G0 := G0) (k := 2) (rs := [ta]) (H0 := s.heap) (F := [(2, 0), (2, 1)]) (C := RX0) (T := TX0) (N := 2) rfl (by decide) hh_5.2.2.2.2.1 (hd_8))
        clear hh_5
        clear hh_2 ht_5 hvm_5 hz_5 hk_5 hS_5 hb_51 hb_52 hb_53 hb_54 hb_55
        clear hb_56
        have hy_10 := jYb.own hy_7 hbO_5 jLe.rf (ks := [2]) jNk.rf (by decide) (fun h => absurd (hg_ta.symm.trans h) (by decide))
        have hh_11 := hh_9.addI (jYb.ie hy_10)
        clear hh_9
        try simp only at hr_6
        obtain ⟨hr_6_0, hr_6_1, hr_6_2⟩ := hr_6
        obtain ⟨z_12, ez_12⟩ : ∃ y : Int32, y = v2_2 + (-8) := ⟨_, rfl⟩
        refine lv_iinc (v := z_12) (lv' := [(2, .int z_12), (0, .ref r0), (1, .int a1)]) hx hb dX11_putOnTape_17 hl (k := 2) rfl (by rw [ez_12]; rfl) (by decide) rfl (fun ls hl => ?_)
        have hz_12 : z_12.toInt = v2_2.toInt + (-8) := by rw [ez_12]; exact jb_iadd2 (rfl) (by decide) (by omega)
        refine lv_goto (tgt := 3) hx hb dX11_putOnTape_20 (by decide) ?_
        exact L3 z_12 qc_5 ga_5 _ _ (hh_11.sub (L1 := [(ta, 2, 1, .int qc_5), (r0, 13, 0, .ref ta), (ta, 2, 0, .ref tr_)]) [0, 1, 2] rfl (M1 := [(tr_, 197, 4000, ca 0, ga_5)]) [0] rfl (I1 := [([(2, 0), (2, 1)], jOl (dC, dI) G0 2 [ta] s.heap), (jFy, jYb dC dI G0)]) [1, 0] rfl) (by refine ⟨by omega, by omega, by omega, ?_⟩; exact hi_2_3.step (by omega) (by omega) (by omega) (by omega) hr_6_1 (jVby.of ez_4 rfl (by omega)) (by omega) hr_6_2 (by omega)) (by omega) _ (lv_sub hl [1, 2, 0] rfl)
  exact L3 ((24 : Int32).toInt + 8 : Int).toNat.succ 24 pt fa _ _ (hh_1.sub (L1 := [(ta, 2, 1, .int pt), (r0, 13, 0, .ref ta), (ta, 2, 0, .ref tr_)]) [1, 0, 2] rfl (M1 := [(tr_, 197, 4000, ca 0, fa)]) [0] rfl (I1 := [([(2, 0), (2, 1)], jOl (dC, dI) G0 2 [ta] s.heap), (jFy, jYb dC dI G0)]) [0, 1] rfl) (by refine ⟨by omega, by omega, by omega, ?_⟩; rw [Int.sub_self, hfz0]; exact jVpk.start _ _ _) (by omega) _ (lv_sub hl [1, 2, 0] rfl)
set_option maxHeartbeats 4000000 in
set_option maxRecDepth 20000 in
theorem uX11_feedP (l : Launch) (dC : Nat → ClassId) (dI : Nat → Nat → Nat) (ca : Nat → ClassId) (base : Nat) (B : jF) (hB : jBok B) (hAp : jAp (dC, dI)) (hB2 : ∀ n G a H, B 2 n G a H ↔ jOb (dC, dI) 2 2 (F2 n G) a H) (hB13 : ∀ n G a H, B 13 n G a H ↔ jOb (dC, dI) 13 19 (F13 n G) a H) (hB17 : ∀ n G a H, B 17 n G a H ↔ jOb (dC, dI) 17 2 (F17 n G) a H) (hB196 : ∀ n G a H, B 196 n G a H ↔ jAr (dC, dI) (ca 0) (fun j z => jBf j z) n a H) (hB197 : ∀ n G a H, B 197 n G a H ↔ jAr (dC, dI) (ca 0) (fun j z => jBf j z) n a H) (G0 : jT) (H0 : Heap) (r0 : Nat) (a1 : Int32) (a2 : Int32) (a3 : Int32) (a4 : Int32) (a5 : Int32) (ta : Nat) (pt : Int32) (tr_ : Nat) (fa : Nat → Int32) : Met l yX11_feed (jw yX11_feed cX11_feed 6 (some .int)) ({ frames := 4, cells := 0, slots := 0, locals := 105 }) (va_Pc [.ref r0, .int a1, .int a2, .int a3, .int a4, .int a5] (fun U => U.heap = H0 ∧ jX B base G0 [] H0 ∧ jG dC dI ca base U ∧ G0 r0 = some (13, 0) ∧ G0 ta = some (2, 4000) ∧ G0 tr_ = some (197, 4000) ∧ jP (dC, dI) G0 H0 [(r0, 13, 0, .ref ta), (ta, 2, 1, .int pt), (ta, 2, 0, .ref tr_)] ∧ jMc (dC, dI) G0 H0 [(tr_, 197, 4000, ca 0, fa)] ∧ jIs (dC, dI) G0 H0 [(jFy, jYb dC dI G0)] ∧ 0 ≤ pt.toInt ∧ pt.toInt ≤ 4000)) (va_Qi (S := Int32 × (Nat → Int32)) (fun r u => (((3980 < pt.toInt ∧ r.toInt = -1 ∧ u.1.toInt = pt.toInt) ∨ (pt.toInt ≤ 3980 ∧ r.toInt = pt.toInt + 20 ∧ u.1.toInt = pt.toInt + 20)) ∧ jVff fa u.2 pt.toInt u.1.toInt a1.toInt a2.toInt a3.toInt a4.toInt a5.toInt)) (fun u t => ((jRt (dC, dI) B base G0 EX11_feedP H0 [(ta, 2, 1, .int u.1)] t.heap ∧ jMc (dC, dI) G0 t.heap [(tr_, 197, 4000, ca 0, u.2)]) ∧ jOl (dC, dI) G0 2 [ta] H0 t.heap) ∧ jIs (dC, dI) G0 t.heap [(jFy, jYb dC dI G0)]) (jA base)) 0 0 (jA base) := by
  refine Met.ofW (cc := cX11_feed) (maxL := 6) (ret := (some .int)) (by decide) rfl ?_
  intro p e s m args below meth c s₁ Bd hml hv
  obtain ⟨rfl, hH0, hX, hG, hg_r0, hg_ta, hg_tr_, hP0, hM0, hI0, hp0, hp1⟩ := hv
  have hK := hG.1
  have hx := Bd.exec
  have hb := Bd.bytes
  have hr := Bd.returns
  have hts := atoms_spec (ws := (jw yX11_feed cX11_feed 6 (some .int))) Bd.pre
  have htw : ∀ w ∈ jWl, w.before _ s = true := fun w h => hts w (List.mem_cons_of_mem _ h)
  have hown : s.vm.findClass RX11 = some m.cls := findClass_of_methodNamed Bd.named
  have hlocks := Bd.notSynchronized
  obtain ⟨Q, hQ⟩ : ∃ Q, Q = MQ below (va_Qi (S := Int32 × (Nat → Int32)) (fun r u => (((3980 < pt.toInt ∧ r.toInt = -1 ∧ u.1.toInt = pt.toInt) ∨ (pt.toInt ≤ 3980 ∧ r.toInt = pt.toInt + 20 ∧ u.1.toInt = pt.toInt + 20)) ∧ jVff fa u.2 pt.toInt u.1.toInt a1.toInt a2.toInt a3.toInt a4.toInt a5.toInt)) (fun u t => ((jRt (dC, dI) B base G0 EX11_feedP H0 [(ta, 2, 1, .int u.1)] t.heap ∧ jMc (dC, dI) G0 t.heap [(tr_, 197, 4000, ca 0, u.2)]) ∧ jOl (dC, dI) G0 2 [ta] H0 t.heap) ∧ jIs (dC, dI) G0 t.heap [(jFy, jYb dC dI G0)]) (jA base)) ([.ref r0, .int a1, .int a2, .int a3, .int a4, .int a5] : List Value).toArray s 0 0 (jA base) := ⟨_, rfl⟩
  rw [← hQ]
  have hl := lv_entry ([.ref r0, .int a1, .int a2, .int a3, .int a4, .int a5]) (n := 6) (Nat.le_of_ble_eq_true rfl)
  rw [lg_entry_eq]
  generalize (lg_sl ([.ref r0, .int a1, .int a2, .int a3, .int a4, .int a5]) ++ List.replicate (6 - (lg_sl ([.ref r0, .int a1, .int a2, .int a3, .int a4, .int a5])).length) Slot.unset).toArray = ls at hl ⊢
  have hl : lv_has ls 6 [(0, .ref r0), (1, .int a1), (2, .int a2), (3, .int a3), (4, .int a4), (5, .int a5)] := hl
  generalize hR : (headSpec (jw yX11_feed cX11_feed 6 (some .int)) ({ frames := 4, cells := 0, slots := 0, locals := 105 })).room = R
  subst hH0
  have hh : jSt (dC, dI) B base G0 G0 EX11_feedP s.heap 0 0 [(r0, 13, 0, .ref ta), (ta, 2, 1, .int pt), (ta, 2, 0, .ref tr_)] [(tr_, 197, 4000, ca 0, fa)] [(jFy, jYb dC dI G0)] s.heap [] := jSt.start hX hP0 hM0 hI0
  clear hX hP0
  have hkm1 : ((-1) : Int32).toInt = (-1) := by decide
  have hk0 : (0 : Int32).toInt = 0 := by decide
  have hk1 : (1 : Int32).toInt = 1 := by decide
  have hk3980 : (3980 : Int32).toInt = 3980 := by decide
  have hly_2_1 := htw (u_lay RX0 TX0 1) (jWc_wsX00 _ (u_in_lay (by decide)))
  have hly_13_0 := htw (u_lay RX11 TX11 0) (jWc_wsX110 _ (u_in_lay (by decide)))
  have hlk_14 := (htw (.fieldLink RX11 14 "ProofServer" "tape" "LProofServer$Bytes;") (jWr_1 _ (List.mem_of_getElem? (i := 15) rfl)))
  have hlk_92 := (htw (.fieldLink RX11 92 "ProofServer$Bytes" "count" "I") (jWr_15 _ (List.mem_of_getElem? (i := 18) rfl)))
  have hrg_a1 := jb_rng a1
  have hrg_a2 := jb_rng a2
  have hrg_a3 := jb_rng a3
  have hrg_a4 := jb_rng a4
  have hrg_a5 := jb_rng a5
  have hh_1 := hh.addI (jOl.ie (dC := dC) (dI := dI) (G0 := G0) (k := 2) (rs := [ta]) (H0 := s.heap) (F := [(2, 0), (2, 1)]) (C := RX0) (T := TX0) (N := 2) rfl (by decide) hh.2.2.2.2.1 (jOl.rf))
  clear hh
  refine lv_aload_n hx hb dX11_feed_0 rfl (lv_at hl 0 rfl) ?_
  refine j7_read hx hb hown hK (C := RX11) (T := TX11) (N := 19) rfl hly_13_0 hlk_14 (hh_1.at 0 rfl) dX11_feed_1 ?_
  refine j7_read hx hb hown hK (C := RX0) (T := TX0) (N := 2) rfl hly_2_1 hlk_92 (hh_1.at 1 rfl) dX11_feed_4 ?_
  refine lv_sipush (v := 3980) hx hb dX11_feed_7 (by decide) ?_
  refine lv_icmp_le (tgt := 15) hx hb dX11_feed_10 (by decide) (fun c_2 => ?_) (fun c_2 => ?_)
  · skip
    have c_2' : pt.toInt ≤ 3980 := jb_le (rfl) ((by decide)) c_2
    refine lv_aload_n hx hb dX11_feed_15 rfl (lv_at hl 0 rfl) ?_
    refine lv_iload_n hx hb dX11_feed_16 rfl (lv_at hl 1 rfl) ?_
    refine va_callv (A0 := jA base) (H0 := s.heap) (va_runV (As := [.int a1]) (rest := []) ⟨hx, hb, hml, hown, hts⟩ (uX11_putOnTapeP l dC dI ca base B hB hAp hB2 hB13 hB196 hB197 G0 s.heap r0 a1 ta pt tr_ fa) (cwV 1 hts (jgV (jWr_15 _ (List.mem_of_getElem? (i := 19) rfl)) (jWr_15 _ (List.mem_of_getElem? (i := 20) rfl)) (jWr_15 _ (List.mem_of_getElem? (i := 21) rfl)) (jWr_1 _ (List.mem_of_getElem? (i := 2) rfl)) (jWr_15 _ (List.mem_of_getElem? (i := 22) rfl))) rfl rfl rfl (by decide +kernel) ⟨by rw [← hR]; exact Nat.le_of_ble_eq_true rfl, by rw [← hR]; exact Nat.le_of_ble_eq_true rfl⟩) ⟨fun a U g mk q => by obtain ⟨q0, q1, q2, qK, q10, q11, q12, q13, q14, q15, q16⟩ := q; exact ⟨q0, q1, q2, jG.calling g mk a qK, q10, q11, q12, q13, q14, q15, q16⟩, hh_1.recv (C := RX11) (T := TX11) (N := 19) hB13 rfl (by decide) hg_r0 hK, fun U hU hW => ⟨rfl, hU, hh_1.2.1, hG.step hW hU hh_1.1, hg_r0, hg_ta, hg_tr_, (hh_1.2.2.1.sub (L1 := [(r0, 13, 0, .ref ta), (ta, 2, 1, .int pt), (ta, 2, 0, .ref tr_)]) [0, 1, 2] rfl), (hh_1.2.2.2.2.2.2.2.1.sub (L1 := [(tr_, 197, 4000, ca 0, fa)]) [0] rfl), (hh_1.2.2.2.2.2.2.2.2.sub (L1 := [(jFy, jYb dC dI G0)]) [1] rfl), by first | omega | (refine ⟨?_, ?_⟩ <;> (first | omega | rfl | assumption | decide | exact Or.inl rfl | exact Or.inr rfl | (simp only; omega)))⟩⟩ rfl rfl hl.1 rfl (lv_room (Nat.le_of_ble_eq_true rfl)) dX11_feed_17 ⟨Nat.zero_le _, Nat.zero_le _⟩) hh_1.1 (fun q _ h => h) (fun q h => h) (fun u_3 t_3 H_3 locs_3 ht_3 hvm_3 hr_4 hb_3 hz_3 hk_3 hS_3 => ?_)
    obtain ⟨qt_3, ga_3⟩ := u_3
    rw [ht_3] at hb_3
    obtain ⟨hb_3, hbE_3⟩ := hb_3
    obtain ⟨hb_3, hbO_3⟩ := hb_3
    obtain ⟨⟨hb_31, hb_32, hb_33, hb_34, hb_35⟩, hb_36⟩ := hb_3
    have hh_3 : jSt (dC, dI) B base G0 G0 EX11_feedP s.heap 0 0 [(ta, 2, 1, .int qt_3), (r0, 13, 0, .ref ta), (ta, 2, 0, .ref tr_)] [(tr_, 197, 4000, ca 0, ga_3)] [(jFy, jYb dC dI G0)] H_3 locs_3 := (((hh_1.call hb_31 hb_32 hb_33 hb_34 hS_3 rfl (L1 := [(r0, 13, 0, .ref ta), (ta, 2, 0, .ref tr_)]) [0, 2] rfl rfl (M1 := []) [] rfl rfl (I1 := []) [] rfl rfl).more hb_35).moreM hb_36).addIs hbE_3
    have hd_5 := jOl.trL (hh_1.iv 0 rfl) hh_1.2.2.2.2.1 hbO_3 (by simp)
    have hh_6 := hh_3.addI (jOl.ie (dC := dC) (dI := dI) (G0 := G0) (k := 2) (rs := [ta]) (H0 := s.heap) (F := [(2, 0), (2, 1)]) (C := RX0) (T := TX0) (N := 2) rfl (by decide) hh_3.2.2.2.2.1 (hd_5))
    clear hh_3
    clear hh_1 ht_3 hvm_3 hz_3 hk_3 hS_3 hb_31 hb_32 hb_33 hb_34 hb_35
    clear hb_36
    clear  hbE_3
    try simp only at hr_4
    obtain ⟨hr_4_0, hr_4_1⟩ := hr_4
    refine lv_aload_n hx hb dX11_feed_20 rfl (lv_at hl 0 rfl) ?_
    refine lv_iload_n hx hb dX11_feed_21 rfl (lv_at hl 2 rfl) ?_
    refine va_callv (A0 := jA base) (H0 := s.heap) (va_runV (As := [.int a2]) (rest := []) ⟨hx, hb, hml, hown, hts⟩ (uX11_putOnTapeP l dC dI ca base B hB hAp hB2 hB13 hB196 hB197 G0 H_3 r0 a2 ta qt_3 tr_ ga_3) (cwV 1 hts (jgV (jWr_15 _ (List.mem_of_getElem? (i := 19) rfl)) (jWr_15 _ (List.mem_of_getElem? (i := 20) rfl)) (jWr_15 _ (List.mem_of_getElem? (i := 21) rfl)) (jWr_1 _ (List.mem_of_getElem? (i := 2) rfl)) (jWr_15 _ (List.mem_of_getElem? (i := 22) rfl))) rfl rfl rfl (by decide +kernel) ⟨by rw [← hR]; exact Nat.le_of_ble_eq_true rfl, by rw [← hR]; exact Nat.le_of_ble_eq_true rfl⟩) ⟨fun a U g mk q => by obtain ⟨q0, q1, q2, qK, q10, q11, q12, q13, q14, q15, q16⟩ := q; exact ⟨q0, q1, q2, jG.calling g mk a qK, q10, q11, q12, q13, q14, q15, q16⟩, hh_6.recv (C := RX11) (T := TX11) (N := 19) hB13 rfl (by decide) hg_r0 hK, fun U hU hW => ⟨rfl, hU, hh_6.2.1, hG.step hW hU hh_6.1, hg_r0, hg_ta, hg_tr_, (hh_6.2.2.1.sub (L1 := [(r0, 13, 0, .ref ta), (ta, 2, 1, .int qt_3), (ta, 2, 0, .ref tr_)]) [1, 0, 2] rfl), (hh_6.2.2.2.2.2.2.2.1.sub (L1 := [(tr_, 197, 4000, ca 0, ga_3)]) [0] rfl), (hh_6.2.2.2.2.2.2.2.2.sub (L1 := [(jFy, jYb dC dI G0)]) [1] rfl), by first | omega | (refine ⟨?_, ?_⟩ <;> (first | omega | rfl | assumption | decide | exact Or.inl rfl | exact Or.inr rfl | (simp only; omega)))⟩⟩ rfl rfl hl.1 rfl (lv_room (Nat.le_of_ble_eq_true rfl)) dX11_feed_22 ⟨Nat.zero_le _, Nat.zero_le _⟩) hh_6.1 (fun q _ h => h) (fun q h => h) (fun u_7 t_7 H_7 locs_7 ht_7 hvm_7 hr_8 hb_7 hz_7 hk_7 hS_7 => ?_)
    obtain ⟨qt_7, ga_7⟩ := u_7
    rw [ht_7] at hb_7
    obtain ⟨hb_7, hbE_7⟩ := hb_7
    obtain ⟨hb_7, hbO_7⟩ := hb_7
    obtain ⟨⟨hb_71, hb_72, hb_73, hb_74, hb_75⟩, hb_76⟩ := hb_7
    have hh_7 : jSt (dC, dI) B base G0 G0 EX11_feedP s.heap 0 0 [(ta, 2, 1, .int qt_7), (r0, 13, 0, .ref ta), (ta, 2, 0, .ref tr_)] [(tr_, 197, 4000, ca 0, ga_7)] [(jFy, jYb dC dI G0)] H_7 locs_7 := (((hh_6.call hb_71 hb_72 hb_73 hb_74 hS_7 rfl (L1 := [(r0, 13, 0, .ref ta), (ta, 2, 0, .ref tr_)]) [1, 2] rfl rfl (M1 := []) [] rfl rfl (I1 := []) [] rfl rfl).more hb_75).moreM hb_76).addIs hbE_7
    have hd_9 := jOl.trL (hh_6.iv 0 rfl) hh_6.2.2.2.2.1 hbO_7 (by simp)
    have hh_10 := hh_7.addI (jOl.ie (dC := dC) (dI := dI) (G0 := G0) (k := 2) (rs := [ta]) (H0 := s.heap) (F := [(2, 0), (2, 1)]) (C := RX0) (T := TX0) (N := 2) rfl (by decide) hh_7.2.2.2.2.1 (hd_9))
    clear hh_7
    clear hh_6 ht_7 hvm_7 hz_7 hk_7 hS_7 hb_71 hb_72 hb_73 hb_74 hb_75
    clear hb_76
    clear  hbE_7
    try simp only at hr_8
    obtain ⟨hr_8_0, hr_8_1⟩ := hr_8
    refine lv_aload_n hx hb dX11_feed_25 rfl (lv_at hl 0 rfl) ?_
    refine lv_iload_n hx hb dX11_feed_26 rfl (lv_at hl 3 rfl) ?_
    refine va_callv (A0 := jA base) (H0 := s.heap) (va_runV (As := [.int a3]) (rest := []) ⟨hx, hb, hml, hown, hts⟩ (uX11_putOnTapeP l dC dI ca base B hB hAp hB2 hB13 hB196 hB197 G0 H_7 r0 a3 ta qt_7 tr_ ga_7) (cwV 1 hts (jgV (jWr_15 _ (List.mem_of_getElem? (i := 19) rfl)) (jWr_15 _ (List.mem_of_getElem? (i := 20) rfl)) (jWr_15 _ (List.mem_of_getElem? (i := 21) rfl)) (jWr_1 _ (List.mem_of_getElem? (i := 2) rfl)) (jWr_15 _ (List.mem_of_getElem? (i := 22) rfl))) rfl rfl rfl (by decide +kernel) ⟨by rw [← hR]; exact Nat.le_of_ble_eq_true rfl, by rw [← hR]; exact Nat.le_of_ble_eq_true rfl⟩) ⟨fun a U g mk q => by obtain ⟨q0, q1, q2, qK, q10, q11, q12, q13, q14, q15, q16⟩ := q; exact ⟨q0, q1, q2, jG.calling g mk a qK, q10, q11, q12, q13, q14, q15, q16⟩, hh_10.recv (C := RX11) (T := TX11) (N := 19) hB13 rfl (by decide) hg_r0 hK, fun U hU hW => ⟨rfl, hU, hh_10.2.1, hG.step hW hU hh_10.1, hg_r0, hg_ta, hg_tr_, (hh_10.2.2.1.sub (L1 := [(r0, 13, 0, .ref ta), (ta, 2, 1, .int qt_7), (ta, 2, 0, .ref tr_)]) [1, 0, 2] rfl), (hh_10.2.2.2.2.2.2.2.1.sub (L1 := [(tr_, 197, 4000, ca 0, ga_7)]) [0] rfl), (hh_10.2.2.2.2.2.2.2.2.sub (L1 := [(jFy, jYb dC dI G0)]) [1] rfl), by first | omega | (refine ⟨?_, ?_⟩ <;> (first | omega | rfl | assumption | decide | exact Or.inl rfl | exact Or.inr rfl | (simp only; omega)))⟩⟩ rfl rfl hl.1 rfl (lv_room (Nat.le_of_ble_eq_true rfl)) dX11_feed_27 ⟨Nat.zero_le _, Nat.zero_le _⟩) hh_10.1 (fun q _ h => h) (fun q h => h) (fun u_11 t_11 H_11 locs_11 ht_11 hvm_11 hr_12 hb_11 hz_11 hk_11 hS_11 => ?_)
    obtain ⟨qt_11, ga_11⟩ := u_11
    rw [ht_11] at hb_11
    obtain ⟨hb_11, hbE_11⟩ := hb_11
    obtain ⟨hb_11, hbO_11⟩ := hb_11
    obtain ⟨⟨hb_111, hb_112, hb_113, hb_114, hb_115⟩, hb_116⟩ := hb_11
    have hh_11 : jSt (dC, dI) B base G0 G0 EX11_feedP s.heap 0 0 [(ta, 2, 1, .int qt_11), (r0, 13, 0, .ref ta), (ta, 2, 0, .ref tr_)] [(tr_, 197, 4000, ca 0, ga_11)] [(jFy, jYb dC dI G0)] H_11 locs_11 := (((hh_10.call hb_111 hb_112 hb_113 hb_114 hS_11 rfl (L1 := [(r0, 13, 0, .ref ta), (ta, 2, 0, .ref tr_)]) [1, 2] rfl rfl (M1 := []) [] rfl rfl (I1 := []) [] rfl rfl).more hb_115).moreM hb_116).addIs hbE_11
    have hd_13 := jOl.trL (hh_10.iv 0 rfl) hh_10.2.2.2.2.1 hbO_11 (by simp)
    have hh_14 := hh_11.addI (jOl.ie (dC := dC) (dI := dI) (G0 := G0) (k := 2) (rs := [ta]) (H0 := s.heap) (F := [(2, 0), (2, 1)]) (C := RX0) (T := TX0) (N := 2) rfl (by decide) hh_11.2.2.2.2.1 (hd_13))
    clear hh_11
    clear hh_10 ht_11 hvm_11 hz_11 hk_11 hS_11 hb_111 hb_112 hb_113 hb_114 hb_115
    clear hb_116
    clear  hbE_11
    try simp only at hr_12
    obtain ⟨hr_12_0, hr_12_1⟩ := hr_12
    refine lv_aload_n hx hb dX11_feed_30 rfl (lv_at hl 0 rfl) ?_
    refine lv_iload hx hb dX11_feed_31 (lv_at hl 4 rfl) ?_
    refine va_callv (A0 := jA base) (H0 := s.heap) (va_runV (As := [.int a4]) (rest := []) ⟨hx, hb, hml, hown, hts⟩ (uX11_putOnTapeP l dC dI ca base B hB hAp hB2 hB13 hB196 hB197 G0 H_11 r0 a4 ta qt_11 tr_ ga_11) (cwV 1 hts (jgV (jWr_15 _ (List.mem_of_getElem? (i := 19) rfl)) (jWr_15 _ (List.mem_of_getElem? (i := 20) rfl)) (jWr_15 _ (List.mem_of_getElem? (i := 21) rfl)) (jWr_1 _ (List.mem_of_getElem? (i := 2) rfl)) (jWr_15 _ (List.mem_of_getElem? (i := 22) rfl))) rfl rfl rfl (by decide +kernel) ⟨by rw [← hR]; exact Nat.le_of_ble_eq_true rfl, by rw [← hR]; exact Nat.le_of_ble_eq_true rfl⟩) ⟨fun a U g mk q => by obtain ⟨q0, q1, q2, qK, q10, q11, q12, q13, q14, q15, q16⟩ := q; exact ⟨q0, q1, q2, jG.calling g mk a qK, q10, q11, q12, q13, q14, q15, q16⟩, hh_14.recv (C := RX11) (T := TX11) (N := 19) hB13 rfl (by decide) hg_r0 hK, fun U hU hW => ⟨rfl, hU, hh_14.2.1, hG.step hW hU hh_14.1, hg_r0, hg_ta, hg_tr_, (hh_14.2.2.1.sub (L1 := [(r0, 13, 0, .ref ta), (ta, 2, 1, .int qt_11), (ta, 2, 0, .ref tr_)]) [1, 0, 2] rfl), (hh_14.2.2.2.2.2.2.2.1.sub (L1 := [(tr_, 197, 4000, ca 0, ga_11)]) [0] rfl), (hh_14.2.2.2.2.2.2.2.2.sub (L1 := [(jFy, jYb dC dI G0)]) [1] rfl), by first | omega | (refine ⟨?_, ?_⟩ <;> (first | omega | rfl | assumption | decide | exact Or.inl rfl | exact Or.inr rfl | (simp only; omega)))⟩⟩ rfl rfl hl.1 rfl (lv_room (Nat.le_of_ble_eq_true rfl)) dX11_feed_33 ⟨Nat.zero_le _, Nat.zero_le _⟩) hh_14.1 (fun q _ h => h) (fun q h => h) (fun u_15 t_15 H_15 locs_15 ht_15 hvm_15 hr_16 hb_15 hz_15 hk_15 hS_15 => ?_)
    obtain ⟨qt_15, ga_15⟩ := u_15
    rw [ht_15] at hb_15
    obtain ⟨hb_15, hbE_15⟩ := hb_15
    obtain ⟨hb_15, hbO_15⟩ := hb_15
    obtain ⟨⟨hb_151, hb_152, hb_153, hb_154, hb_155⟩, hb_156⟩ := hb_15
    have hh_15 : jSt (dC, dI) B base G0 G0 EX11_feedP s.heap 0 0 [(ta, 2, 1, .int qt_15), (r0, 13, 0, .ref ta), (ta, 2, 0, .ref tr_)] [(tr_, 197, 4000, ca 0, ga_15)] [(jFy, jYb dC dI G0)] H_15 locs_15 := (((hh_14.call hb_151 hb_152 hb_153 hb_154 hS_15 rfl (L1 := [(r0, 13, 0, .ref ta), (ta, 2, 0, .ref tr_)]) [1, 2] rfl rfl (M1 := []) [] rfl rfl (I1 := []) [] rfl rfl).more hb_155).moreM hb_156).addIs hbE_15
    have hd_17 := jOl.trL (hh_14.iv 0 rfl) hh_14.2.2.2.2.1 hbO_15 (by simp)
    have hh_18 := hh_15.addI (jOl.ie (dC := dC) (dI := dI) (G0 := G0) (k := 2) (rs := [ta]) (H0 := s.heap) (F := [(2, 0), (2, 1)]) (C := RX0) (T := TX0) (N := 2) rfl (by decide) hh_15.2.2.2.2.1 (hd_17))
    clear hh_15
    clear hh_14 ht_15 hvm_15 hz_15 hk_15 hS_15 hb_151 hb_152 hb_153 hb_154 hb_155
    clear hb_156
    clear  hbE_15
    try simp only at hr_16
    obtain ⟨hr_16_0, hr_16_1⟩ := hr_16
    refine lv_aload_n hx hb dX11_feed_36 rfl (lv_at hl 0 rfl) ?_
    refine lv_iload hx hb dX11_feed_37 (lv_at hl 5 rfl) ?_
    refine va_callv (A0 := jA base) (H0 := s.heap) (va_runV (As := [.int a5]) (rest := []) ⟨hx, hb, hml, hown, hts⟩ (uX11_putOnTapeP l dC dI ca base B hB hAp hB2 hB13 hB196 hB197 G0 H_15 r0 a5 ta qt_15 tr_ ga_15) (cwV 1 hts (jgV (jWr_15 _ (List.mem_of_getElem? (i := 19) rfl)) (jWr_15 _ (List.mem_of_getElem? (i := 20) rfl)) (jWr_15 _ (List.mem_of_getElem? (i := 21) rfl)) (jWr_1 _ (List.mem_of_getElem? (i := 2) rfl)) (jWr_15 _ (List.mem_of_getElem? (i := 22) rfl))) rfl rfl rfl (by decide +kernel) ⟨by rw [← hR]; exact Nat.le_of_ble_eq_true rfl, by rw [← hR]; exact Nat.le_of_ble_eq_true rfl⟩) ⟨fun a U g mk q => by obtain ⟨q0, q1, q2, qK, q10, q11, q12, q13, q14, q15, q16⟩ := q; exact ⟨q0, q1, q2, jG.calling g mk a qK, q10, q11, q12, q13, q14, q15, q16⟩, hh_18.recv (C := RX11) (T := TX11) (N := 19) hB13 rfl (by decide) hg_r0 hK, fun U hU hW => ⟨rfl, hU, hh_18.2.1, hG.step hW hU hh_18.1, hg_r0, hg_ta, hg_tr_, (hh_18.2.2.1.sub (L1 := [(r0, 13, 0, .ref ta), (ta, 2, 1, .int qt_15), (ta, 2, 0, .ref tr_)]) [1, 0, 2] rfl), (hh_18.2.2.2.2.2.2.2.1.sub (L1 := [(tr_, 197, 4000, ca 0, ga_15)]) [0] rfl), (hh_18.2.2.2.2.2.2.2.2.sub (L1 := [(jFy, jYb dC dI G0)]) [1] rfl), by first | omega | (refine ⟨?_, ?_⟩ <;> (first | omega | rfl | assumption | decide | exact Or.inl rfl | exact Or.inr rfl | (simp only; omega)))⟩⟩ rfl rfl hl.1 rfl (lv_room (Nat.le_of_ble_eq_true rfl)) dX11_feed_39 ⟨Nat.zero_le _, Nat.zero_le _⟩) hh_18.1 (fun q _ h => h) (fun q h => h) (fun u_19 t_19 H_19 locs_19 ht_19 hvm_19 hr_20 hb_19 hz_19 hk_19 hS_19 => ?_)
    obtain ⟨qt_19, ga_19⟩ := u_19
    rw [ht_19] at hb_19
    obtain ⟨hb_19, hbE_19⟩ := hb_19
    obtain ⟨hb_19, hbO_19⟩ := hb_19
    obtain ⟨⟨hb_191, hb_192, hb_193, hb_194, hb_195⟩, hb_196⟩ := hb_19
    have hh_19 : jSt (dC, dI) B base G0 G0 EX11_feedP s.heap 0 0 [(ta, 2, 1, .int qt_19), (r0, 13, 0, .ref ta), (ta, 2, 0, .ref tr_)] [(tr_, 197, 4000, ca 0, ga_19)] [(jFy, jYb dC dI G0)] H_19 locs_19 := (((hh_18.call hb_191 hb_192 hb_193 hb_194 hS_19 rfl (L1 := [(r0, 13, 0, .ref ta), (ta, 2, 0, .ref tr_)]) [1, 2] rfl rfl (M1 := []) [] rfl rfl (I1 := []) [] rfl rfl).more hb_195).moreM hb_196).addIs hbE_19
    have hd_21 := jOl.trL (hh_18.iv 0 rfl) hh_18.2.2.2.2.1 hbO_19 (by simp)
    have hh_22 := hh_19.addI (jOl.ie (dC := dC) (dI := dI) (G0 := G0) (k := 2) (rs := [ta]) (H0 := s.heap) (F := [(2, 0), (2, 1)]) (C := RX0) (T := TX0) (N := 2) rfl (by decide) hh_19.2.2.2.2.1 (hd_21))
    clear hh_19
    clear hh_18 ht_19 hvm_19 hz_19 hk_19 hS_19 hb_191 hb_192 hb_193 hb_194 hb_195
    clear hb_196
    clear  hbE_19
    try simp only at hr_20
    obtain ⟨hr_20_0, hr_20_1⟩ := hr_20
    refine lv_aload_n hx hb dX11_feed_42 rfl (lv_at hl 0 rfl) ?_
    refine j7_read hx hb hown hK (C := RX11) (T := TX11) (N := 19) rfl hly_13_0 hlk_14 (hh_22.at 1 rfl) dX11_feed_43 ?_
    refine j7_read hx hb hown hK (C := RX0) (T := TX0) (N := 2) rfl hly_2_1 hlk_92 (hh_22.at 0 rfl) dX11_feed_46 ?_
    rw [hQ]
    exact W.iret (v := qt_19) hx hb hr (fun t ht hW => ⟨⟨qt_19, (qt_19, ga_19), rfl, by (try dsimp only); refine ⟨by omega, Or.inr ⟨by omega, by omega, ?_⟩⟩; exact jVfd.five (by omega) hr_4_1 (by omega) hr_8_1 (by omega) hr_12_1 (by omega) hr_16_1 (by omega) hr_20_1, ⟨⟨⟨hh_22.rt (M1 := [(ta, 2, 1, .int qt_19)]) [0] rfl ht, by rw [ht]; exact hh_22.2.2.2.2.2.2.2.1.sub [0] rfl⟩, by rw [ht]; exact hh_22.iv 0 rfl⟩, by rw [ht]; exact hh_22.2.2.2.2.2.2.2.2.sub (L1 := [(jFy, jYb dC dI G0)]) [1] rfl⟩⟩, by rw [ht]; try exact hh_22.1.1, fun q h9 hq => by rw [ht]; try exact hh_22.1.2.1 q h9 hq⟩) hh_22.1.2.2 dX11_feed_49
  · skip
    have c_2' : pt.toInt > 3980 := jb_le_n (rfl) ((by decide)) c_2
    refine lv_iconst (v := (-1)) hx hb dX11_feed_13 (by decide) ?_
    rw [hQ]
    exact W.iret (v := (-1)) hx hb hr (fun t ht hW => ⟨⟨(-1), (pt, fa), rfl, by (try dsimp only); refine ⟨by omega, Or.inl ⟨by omega, by omega, rfl⟩⟩, ⟨⟨⟨hh_1.rt (M1 := [(ta, 2, 1, .int pt)]) [1] rfl ht, by rw [ht]; exact hh_1.2.2.2.2.2.2.2.1.sub [0] rfl⟩, by rw [ht]; exact hh_1.iv 0 rfl⟩, by rw [ht]; exact hh_1.2.2.2.2.2.2.2.2.sub (L1 := [(jFy, jYb dC dI G0)]) [1] rfl⟩⟩, by rw [ht]; try exact hh_1.1.1, fun q h9 hq => by rw [ht]; try exact hh_1.1.2.1 q h9 hq⟩) hh_1.1.2.2 dX11_feed_14
end
