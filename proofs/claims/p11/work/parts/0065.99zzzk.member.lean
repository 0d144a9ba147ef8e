section
def EX14_memberKN : List (Nat × Nat) := []
def EX14_lineOfN : List (Nat × Nat) := []
def EX14_characterOfN : List (Nat × Nat) := []
def EX14_isPositionN : List (Nat × Nat) := []
def EX14_isChangeN : List (Nat × Nat) := []
def EX14_makeN : List (Nat × Nat) := [(16, 44), (101, 0)]
set_option maxHeartbeats 4000000 in
set_option maxRecDepth 20000 in
theorem uX14_memberKN (l : Launch) (dC : Nat → ClassId) (dI : Nat → Nat → Nat) (ca : Nat → ClassId) (base : Nat) (B : jF) (hB : jBok B) (hAp : jAp (dC, dI)) (hB16 : ∀ n G a H, B 16 n G a H ↔ jOb (dC, dI) 16 74 (F16 n G) a H) (hB117 : ∀ n G a H, B 117 n G a H ↔ jAr (dC, dI) (ca 1) (fun j z => True) n a H) (hB118 : ∀ n G a H, B 118 n G a H ↔ jAr (dC, dI) (ca 1) (fun j z => -1 ≤ z.toInt ∧ z.toInt ≤ 3099) n a H) (hB119 : ∀ n G a H, B 119 n G a H ↔ jAr (dC, dI) (ca 1) (fun j z => z.toInt = -1 ∨ z.toInt = 0 ∨ ((j : Nat) < z.toInt ∧ z.toInt ≤ 3099)) n a H) (hB120 : ∀ n G a H, B 120 n G a H ↔ jAr (dC, dI) (ca 1) (fun j z => 0 ≤ z.toInt ∧ z.toInt ≤ 3300) n a H) (hB121 : ∀ n G a H, B 121 n G a H ↔ jAr (dC, dI) (ca 1) (fun j z => 0 ≤ z.toInt ∧ z.toInt ≤ 3300) n a H) (hB127 : ∀ n G a H, B 127 n G a H ↔ jAr (dC, dI) (ca 1) (fun j z => True) n a H) (G0 : jT) (H0 : Heap) (r0 : Nat) (a1 : Int32) (r2 : Nat) (n2 : Nat) (f2 : Nat → Int32) (zm : Nat) (xh : Nat) (xn : Nat) (xf : Nat) (xt : Nat) (xp : Nat) (ms : Nat → Int32) (mh : Nat → Int32) (mx : Nat → Int32) (mf : Nat → Int32) (mt : Nat → Int32) (mp : Nat → Int32) : Met l yX14_member (jw yX14_member cX14_member 5 (some .int)) ({ frames := 5, cells := 0, slots := 0, locals := 165 }) (va_Pc [.ref r0, .int a1, .ref r2] (fun U => U.heap = H0 ∧ jX B base G0 [] H0 ∧ jG dC dI ca base U ∧ jStrF base r2 n2 f2 U H0 ∧ G0 r0 = some (16, 0) ∧ G0 zm = some (117, 3100) ∧ G0 xh = some (118, 3100) ∧ G0 xn = some (119, 3100) ∧ G0 xf = some (120, 3100) ∧ G0 xt = some (121, 3100) ∧ G0 xp = some (127, 3300) ∧ jP (dC, dI) G0 H0 [(r0, 16, 17, .ref zm), (r0, 16, 18, .ref xh), (r0, 16, 19, .ref xn), (r0, 16, 20, .ref xf), (r0, 16, 21, .ref xt), (r0, 16, 27, .ref xp)] ∧ jMc (dC, dI) G0 H0 [(zm, 117, 3100, ca 1, ms), (xh, 118, 3100, ca 1, mh), (xn, 119, 3100, ca 1, mx), (xf, 120, 3100, ca 1, mf), (xt, 121, 3100, ca 1, mt), (xp, 127, 3300, ca 1, mp)] ∧ a1.toInt ≤ 3099 ∧ n2 < 2147483648 ∧ jSo mx 0 = -1)) (va_Qi (S := Unit) (fun r u => (r.toInt = jMb ms mh mf mt mx mp f2 n2 a1.toInt ∧ -1 ≤ r.toInt ∧ r.toInt ≤ 3099)) (fun u t => jRt (dC, dI) B base G0 EX14_memberKN H0 [] t.heap) (jA base)) 0 0 (jA base) := by
  refine Met.ofW (cc := cX14_member) (maxL := 5) (ret := (some .int)) (by decide) rfl ?_
  intro p e s m args below meth c s₁ Bd hml hv
  obtain ⟨rfl, hH0, hX, hG, hstrF_r2, hg_r0, hg_zm, hg_xh, hg_xn, hg_xf, hg_xt, hg_xp, hP0, hM0, hp0, hp1, hp2⟩ := hv
  have hK := hG.1
  have hx := Bd.exec
  have hb := Bd.bytes
  have hr := Bd.returns
  have hts := atoms_spec (ws := (jw yX14_member cX14_member 5 (some .int))) Bd.pre
  have htw : ∀ w ∈ jWl, w.before _ s = true := fun w h => hts w (List.mem_cons_of_mem _ h)
  have hown : s.vm.findClass RX14 = some m.cls := findClass_of_methodNamed Bd.named
  have hlocks := Bd.notSynchronized
  obtain ⟨Q, hQ⟩ : ∃ Q, Q = MQ below (va_Qi (S := Unit) (fun r u => (r.toInt = jMb ms mh mf mt mx mp f2 n2 a1.toInt ∧ -1 ≤ r.toInt ∧ r.toInt ≤ 3099)) (fun u t => jRt (dC, dI) B base G0 EX14_memberKN H0 [] t.heap) (jA base)) ([.ref r0, .int a1, .ref r2] : List Value).toArray s 0 0 (jA base) := ⟨_, rfl⟩
  rw [← hQ]
  have hl := lv_entry ([.ref r0, .int a1, .ref r2]) (n := 5) (Nat.le_of_ble_eq_true rfl)
  rw [lg_entry_eq]
  generalize (lg_sl ([.ref r0, .int a1, .ref r2]) ++ List.replicate (5 - (lg_sl ([.ref r0, .int a1, .ref r2])).length) Slot.unset).toArray = ls at hl ⊢
  have hstr_r2 := hstrF_r2.str
  have hl : lv_has ls 5 [(0, .ref r0), (1, .int a1), (2, .ref r2)] := hl
  generalize hR : (headSpec (jw yX14_member cX14_member 5 (some .int)) ({ frames := 5, cells := 0, slots := 0, locals := 165 })).room = R
  subst hH0
  have hh : jSt (dC, dI) B base G0 G0 EX14_memberKN s.heap 0 0 [(r0, 16, 17, .ref zm), (r0, 16, 18, .ref xh), (r0, 16, 19, .ref xn), (r0, 16, 20, .ref xf), (r0, 16, 21, .ref xt), (r0, 16, 27, .ref xp)] [(zm, 117, 3100, ca 1, ms), (xh, 118, 3100, ca 1, mh), (xn, 119, 3100, ca 1, mx), (xf, 120, 3100, ca 1, mf), (xt, 121, 3100, ca 1, mt), (xp, 127, 3300, ca 1, mp)] [] s.heap [] := jSt.start hX hP0 hM0 jIs.nil
  clear hX hP0
  have hkm1 : ((-1) : Int32).toInt = (-1) := by decide
  have hk0 : (0 : Int32).toInt = 0 := by decide
  have hk1 : (1 : Int32).toInt = 1 := by decide
  have hk6 : (6 : Int32).toInt = 6 := by decide
  have hly_16_17 := htw (u_lay RX14 TX14 17) (jWc_wsX140 _ (u_in_lay (by decide)))
  have hly_16_18 := htw (u_lay RX14 TX14 18) (jWc_wsX140 _ (u_in_lay (by decide)))
  have hly_16_19 := htw (u_lay RX14 TX14 19) (jWc_wsX140 _ (u_in_lay (by decide)))
  have hly_16_20 := htw (u_lay RX14 TX14 20) (jWc_wsX140 _ (u_in_lay (by decide)))
  have hly_16_21 := htw (u_lay RX14 TX14 21) (jWc_wsX140 _ (u_in_lay (by decide)))
  have hlk_37 := (htw (.fieldLink RX14 37 "ProofServerModel" "sort" "[I") (jWr_11 _ (List.mem_of_getElem? (i := 4) rfl)))
  have hlk_40 := (htw (.fieldLink RX14 40 "ProofServerModel" "heir" "[I") (jWr_11 _ (List.mem_of_getElem? (i := 5) rfl)))
  have hlk_46 := (htw (.fieldLink RX14 46 "ProofServerModel" "nameFrom" "[I") (jWr_11 _ (List.mem_of_getElem? (i := 7) rfl)))
  have hlk_49 := (htw (.fieldLink RX14 49 "ProofServerModel" "nameTo" "[I") (jWr_11 _ (List.mem_of_getElem? (i := 8) rfl)))
  have hlk_43 := (htw (.fieldLink RX14 43 "ProofServerModel" "next" "[I") (jWr_11 _ (List.mem_of_getElem? (i := 6) rfl)))
  have hrg_a1 := jb_rng a1
  refine lv_iconst (v := (-1)) hx hb dX14_member_0 (by decide) ?_
  refine lv_istore_n (lv' := [(3, .int (-1)), (0, .ref r0), (1, .int a1), (2, .ref r2)]) hx hb dX14_member_1 rfl hl (by decide) rfl (fun ls hl => ?_)
  refine lv_iload_n hx hb dX14_member_2 rfl (lv_at hl 2 rfl) ?_
  refine lv_if_lt (tgt := 17) hx hb dX14_member_3 (by decide) (fun c_1 => ?_) (fun c_1 => ?_)
  · skip
    have c_1' : a1.toInt < 0 := jb_lt (rfl) ((by decide)) c_1
    refine lv_iconst (v := (-1)) hx hb dX14_member_17 (by decide) ?_
    rw [hQ]
    exact W.iret (v := (-1)) hx hb hr (fun t ht hW => ⟨⟨(-1), (), rfl, by refine ⟨?_, by omega, by omega⟩; unfold jMb; rw [if_pos (by exact Or.inl (by omega))]; exact hkm1, hh.rt (M1 := []) [] rfl ht⟩, by rw [ht]; try exact hh.1.1, fun q h9 hq => by rw [ht]; try exact hh.1.2.1 q h9 hq⟩) hh.1.2.2 dX14_member_18
  · skip
    have c_1' : a1.toInt ≥ 0 := jb_lt_n (rfl) ((by decide)) c_1
    refine lv_aload_n hx hb dX14_member_6 rfl (lv_at hl 1 rfl) ?_
    refine j7_read hx hb hown hK (C := RX14) (T := TX14) (N := 74) rfl hly_16_17 hlk_37 (hh.at 0 rfl) dX14_member_7 ?_
    refine lv_iload_n hx hb dX14_member_10 rfl (lv_at hl 2 rfl) ?_
    refine j7_ialdM hx hb hK hh hB117 1 rfl (by decide) hg_zm (x := a1.toInt) (rfl) (by omega) (j := 0) rfl dX14_member_11 (fun z_2 ez_2 (hz_2 : True) => ?_)
    have hqz_2 : z_2.toInt = jSo ms (a1.toInt) := by unfold jSo; rw [ez_2]
    refine lv_bipush (v := 6) hx hb dX14_member_12 (by decide) ?_
    refine lv_icmp_eq (tgt := 19) hx hb dX14_member_14 (by decide) (fun c_3 => ?_) (fun c_3 => ?_)
    · skip
      have c_3' : z_2.toInt = 6 := jb_eq (rfl) ((by decide)) c_3
      refine lv_aload_n hx hb dX14_member_19 rfl (lv_at hl 1 rfl) ?_
      refine j7_read hx hb hown hK (C := RX14) (T := TX14) (N := 74) rfl hly_16_18 hlk_40 (hh.at 1 rfl) dX14_member_20 ?_
      refine lv_iload_n hx hb dX14_member_23 rfl (lv_at hl 2 rfl) ?_
      refine j7_ialdM hx hb hK hh hB118 1 rfl (by decide) hg_xh (x := a1.toInt) (rfl) (by omega) (j := 1) rfl dX14_member_24 (fun z_4 ez_4 (hz_4 : -1 ≤ z_4.toInt ∧ z_4.toInt ≤ 3099) => ?_)
      have hqz_4 : z_4.toInt = jSo mh (a1.toInt) := by unfold jSo; rw [ez_4]
      refine lv_istore (lv' := [(4, .int z_4), (3, .int (-1)), (0, .ref r0), (1, .int a1), (2, .ref r2)]) hx hb dX14_member_25 hl (by decide) rfl (fun ls hl => ?_)
      have L27 : ∀ (N : Nat) (v3_5 : Int32) (v4_5 : Int32) (kf : Nat) (H_5 : Heap) (locs_5 : List Loc), jSt (dC, dI) B base G0 G0 EX14_memberKN s.heap 0 0 [(r0, 16, 17, .ref zm), (r0, 16, 18, .ref xh), (r0, 16, 19, .ref xn), (r0, 16, 20, .ref xf), (r0, 16, 21, .ref xt), (r0, 16, 27, .ref xp)] [(zm, 117, 3100, ca 1, ms), (xh, 118, 3100, ca 1, mh), (xn, 119, 3100, ca 1, mx), (xf, 120, 3100, ca 1, mf), (xt, 121, 3100, ca 1, mt), (xp, 127, 3300, ca 1, mp)] [] H_5 locs_5 → (-1 ≤ v4_5.toInt ∧ v4_5.toInt ≤ 3099 ∧ -1 ≤ v3_5.toInt ∧ v3_5.toInt ≤ 3099 ∧ (v4_5.toInt = -1 ∨ (v4_5.toInt = 0 ∧ 2 ≤ kf) ∨ (1 ≤ v4_5.toInt ∧ 3103 - v4_5.toInt ≤ kf)) ∧ 0 < kf ∧ jMn mf mt mx mp f2 n2 kf v4_5.toInt v3_5.toInt = jMn mf mt mx mp f2 n2 3102 (jSo mh a1.toInt) (-1)) → ((kf : Int) : Int) < N → ∀ ls : Array Slot, lv_has ls 5 [(0, .ref r0), (1, .int a1), (2, .ref r2), (3, .int v3_5), (4, .int v4_5)] → W p l e R s m ([.ref r0, .int a1, .ref r2] : List Value).toArray below meth c H_5 locs_5 0 0 Q (F0 m 27 ls []) := by
        intro N
        induction N with
        | zero => intro v3_5 v4_5 kf H_5 locs_5 hh_5  hi_5 hm; exact absurd hm (by omega)
        | succ N L27 =>
          intro v3_5 v4_5 kf H_5 locs_5 hh_5  hi_5 hm_5 ls hl
          obtain ⟨hi_5_0, hi_5_1, hi_5_2, hi_5_3, hi_5_4, hi_5_5, hi_5_6⟩ := hi_5
          refine lv_iload hx hb dX14_member_27 (lv_at hl 4 rfl) ?_
          refine lv_if_lt (tgt := 73) hx hb dX14_member_29 (by decide) (fun c_6 => ?_) (fun c_6 => ?_)
          · skip
            have c_6' : v4_5.toInt < 0 := jb_lt (rfl) ((by decide)) c_6
            refine lv_iload_n hx hb dX14_member_73 rfl (lv_at hl 3 rfl) ?_
            rw [hQ]
            exact W.iret (v := v3_5) hx hb hr (fun t ht hW => ⟨⟨v3_5, (), rfl, by refine ⟨?_, by omega, by omega⟩; unfold jMb; rw [if_neg (by rw [← hqz_2]; omega)]; exact (jMn_e (by omega) (by omega) rfl).trans hi_5_6, hh_5.rt (M1 := []) [] rfl ht⟩, by rw [ht]; try exact hh_5.1.1, fun q h9 hq => by rw [ht]; try exact hh_5.1.2.1 q h9 hq⟩) hh_5.1.2.2 dX14_member_74
          · skip
            have c_6' : v4_5.toInt ≥ 0 := jb_lt_n (rfl) ((by decide)) c_6
            refine lv_aload_n hx hb dX14_member_32 rfl (lv_at hl 0 rfl) ?_
            refine lv_aload_n hx hb dX14_member_33 rfl (lv_at hl 0 rfl) ?_
            refine j7_read hx hb hown hK (C := RX14) (T := TX14) (N := 74) rfl hly_16_20 hlk_46 (hh_5.at 3 rfl) dX14_member_34 ?_
            refine lv_iload hx hb dX14_member_37 (lv_at hl 4 rfl) ?_
            refine j7_ialdM hx hb hK hh_5 hB120 1 rfl (by decide) hg_xf (x := v4_5.toInt) (rfl) (by omega) (j := 3) rfl dX14_member_39 (fun z_7 ez_7 (hz_7 : 0 ≤ z_7.toInt ∧ z_7.toInt ≤ 3300) => ?_)
            have hqz_7 : z_7.toInt = jSo mf (v4_5.toInt) := by unfold jSo; rw [ez_7]
            refine lv_aload_n hx hb dX14_member_40 rfl (lv_at hl 0 rfl) ?_
            refine j7_read hx hb hown hK (C := RX14) (T := TX14) (N := 74) rfl hly_16_21 hlk_49 (hh_5.at 4 rfl) dX14_member_41 ?_
            refine lv_iload hx hb dX14_member_44 (lv_at hl 4 rfl) ?_
            refine j7_ialdM hx hb hK hh_5 hB121 1 rfl (by decide) hg_xt (x := v4_5.toInt) (rfl) (by omega) (j := 4) rfl dX14_member_46 (fun z_8 ez_8 (hz_8 : 0 ≤ z_8.toInt ∧ z_8.toInt ≤ 3300) => ?_)
            have hqz_8 : z_8.toInt = jSo mt (v4_5.toInt) := by unfold jSo; rw [ez_8]
            refine lv_aload_n hx hb dX14_member_47 rfl (lv_at hl 2 rfl) ?_
            refine va_calli (A0 := jA base) (H0 := s.heap) (va_runV (As := [.int z_7, .int z_8, .ref r2]) (rest := []) ⟨hx, hb, hml, hown, hts⟩ (uX14_isTextK l dC dI ca base B hB hAp hB16 hB127 G0 H_5 r0 z_7 z_8 r2 n2 f2 xp mp) (cwV 3 hts (jgV (jWr_55 _ (List.mem_of_getElem? (i := 19) rfl)) (jWr_55 _ (List.mem_of_getElem? (i := 20) rfl)) (jWr_55 _ (List.mem_of_getElem? (i := 21) rfl)) (jWr_1 _ (List.mem_of_getElem? (i := 5) rfl)) (jWr_55 _ (List.mem_of_getElem? (i := 22) rfl))) rfl rfl rfl (by decide +kernel) ⟨by rw [← hR]; exact Nat.le_of_ble_eq_true rfl, by rw [← hR]; exact Nat.le_of_ble_eq_true rfl⟩) ⟨fun a U g mk q => by obtain ⟨q0, q1, q2, qK, q10, q11, q12, q13, q14, q15⟩ := q; exact ⟨q0, q1, q2, jG.calling g mk a qK, (q10.moved (Vm.Alike.refl U.vm)), q11, q12, q13, q14, q15⟩, hh_5.recv (C := RX14) (T := TX14) (N := 74) hB16 rfl (by decide) hg_r0 hK, fun U hU hW => ⟨rfl, hU, hh_5.2.1, hG.step hW hU hh_5.1, (hstrF_r2.moved hW.alike).kept hh_5.1.2.1, hg_r0, hg_xp, (hh_5.2.2.1.sub (L1 := [(r0, 16, 27, .ref xp)]) [5] rfl), (hh_5.2.2.2.2.2.2.2.1.sub (L1 := [(xp, 127, 3300, ca 1, mp)]) [5] rfl), by first | omega | (refine ⟨?_, ?_, ?_, ?_, ?_⟩ <;> (first | omega | rfl | assumption | decide | exact Or.inl rfl | exact Or.inr rfl | (simp only; omega)))⟩⟩ rfl rfl hl.1 rfl (lv_room (Nat.le_of_ble_eq_true rfl)) dX14_member_48 ⟨Nat.zero_le _, Nat.zero_le _⟩) hh_5.1 (fun q _ h => h) (fun q h => h) (fun r_10 u_9 t_9 H_9 locs_9 ht_9 hvm_9 hr_10 hb_9 hz_9 hk_9 hS_9 => ?_)
            rw [ht_9] at hb_9
            obtain ⟨hb_91, hb_92, hb_93, hb_94, hb_95⟩ := hb_9
            have hh_9 : jSt (dC, dI) B base G0 G0 EX14_memberKN s.heap 0 0 [(r0, 16, 17, .ref zm), (r0, 16, 18, .ref xh), (r0, 16, 19, .ref xn), (r0, 16, 20, .ref xf), (r0, 16, 21, .ref xt), (r0, 16, 27, .ref xp)] [(zm, 117, 3100, ca 1, ms), (xh, 118, 3100, ca 1, mh), (xn, 119, 3100, ca 1, mx), (xf, 120, 3100, ca 1, mf), (xt, 121, 3100, ca 1, mt), (xp, 127, 3300, ca 1, mp)] [] H_9 locs_9 := ((hh_5.call hb_91 hb_92 hb_93 hb_94 hS_9 rfl (L1 := [(r0, 16, 17, .ref zm), (r0, 16, 18, .ref xh), (r0, 16, 19, .ref xn), (r0, 16, 20, .ref xf), (r0, 16, 21, .ref xt), (r0, 16, 27, .ref xp)]) [0, 1, 2, 3, 4, 5] rfl rfl (M1 := [(zm, 117, 3100, ca 1, ms), (xh, 118, 3100, ca 1, mh), (xn, 119, 3100, ca 1, mx), (xf, 120, 3100, ca 1, mf), (xt, 121, 3100, ca 1, mt), (xp, 127, 3300, ca 1, mp)]) [0, 1, 2, 3, 4, 5] rfl rfl (I1 := []) [] rfl rfl).more hb_95)
            clear hh_5 ht_9 hvm_9 hz_9 hk_9 hS_9 hb_91 hb_92 hb_93 hb_94 hb_95
            obtain ⟨hr_10b, hr_10p⟩ := hr_10
            have hr_10' := jb_01 hr_10b
            refine lv_if_eq (tgt := 59) hx hb dX14_member_51 (by decide) (fun c_11 => ?_) (fun c_11 => ?_)
            · skip
              have c_11' : r_10.toInt = 0 := jb_eq (rfl) ((by decide)) c_11
              refine lv_iload_n hx hb dX14_member_59 rfl (lv_at hl 3 rfl) ?_
              refine lv_istore_n (lv' := [(3, .int v3_5), (0, .ref r0), (1, .int a1), (2, .ref r2), (4, .int v4_5)]) hx hb dX14_member_60 rfl hl (by decide) rfl (fun ls hl => ?_)
              refine lv_aload_n hx hb dX14_member_61 rfl (lv_at hl 1 rfl) ?_
              have hx0 : v4_5.toInt = 0 → jSo mx v4_5.toInt = -1 := fun h9 => by rw [h9]; exact hp2
              refine j7_read hx hb hown hK (C := RX14) (T := TX14) (N := 74) rfl hly_16_19 hlk_43 (hh_9.at 2 rfl) dX14_member_62 ?_
              refine lv_iload hx hb dX14_member_65 (lv_at hl 4 rfl) ?_
              refine j7_ialdM hx hb hK hh_9 hB119 1 rfl (by decide) hg_xn (x := v4_5.toInt) (rfl) (by omega) (j := 2) rfl dX14_member_67 (fun z_12 ez_12 (hz_12 : z_12.toInt = -1 ∨ z_12.toInt = 0 ∨ (((v4_5.toInt).toNat : Nat) < z_12.toInt ∧ z_12.toInt ≤ 3099)) => ?_)
              have hqz_12 : z_12.toInt = jSo mx (v4_5.toInt) := by unfold jSo; rw [ez_12]
              refine lv_istore (lv' := [(4, .int z_12), (3, .int v3_5), (0, .ref r0), (1, .int a1), (2, .ref r2)]) hx hb dX14_member_68 hl (by decide) rfl (fun ls hl => ?_)
              refine lv_goto (tgt := 27) hx hb dX14_member_70 (by decide) ?_
              exact L27 v3_5 z_12 (kf - 1) _ _ hh_9 (by refine ⟨by omega, by omega, by omega, by omega, by omega, by omega, ?_⟩; first | exact (jMn_s (by omega) (by omega) hqz_12 (Or.inl ⟨(by rw [← hqz_7, ← hqz_8, ← hr_10p]; omega), by omega⟩)).trans hi_5_6 | exact (jMn_s (by omega) (by omega) hqz_12 (Or.inr ⟨(by rw [← hqz_7, ← hqz_8, ← hr_10p]; omega), by omega⟩)).trans hi_5_6) (by omega) _ (lv_sub hl [2, 3, 4, 1, 0] rfl)
            · skip
              have c_11' : r_10.toInt ≠ 0 := jb_eq_n (rfl) ((by decide)) c_11
              refine lv_iload hx hb dX14_member_54 (lv_at hl 4 rfl) ?_
              refine lv_goto (tgt := 60) hx hb dX14_member_56 (by decide) ?_
              refine lv_istore_n (lv' := [(3, .int v4_5), (0, .ref r0), (1, .int a1), (2, .ref r2), (4, .int v4_5)]) hx hb dX14_member_60 rfl hl (by decide) rfl (fun ls hl => ?_)
              refine lv_aload_n hx hb dX14_member_61 rfl (lv_at hl 1 rfl) ?_
              have hx0 : v4_5.toInt = 0 → jSo mx v4_5.toInt = -1 := fun h9 => by rw [h9]; exact hp2
              refine j7_read hx hb hown hK (C := RX14) (T := TX14) (N := 74) rfl hly_16_19 hlk_43 (hh_9.at 2 rfl) dX14_member_62 ?_
              refine lv_iload hx hb dX14_member_65 (lv_at hl 4 rfl) ?_
              refine j7_ialdM hx hb hK hh_9 hB119 1 rfl (by decide) hg_xn (x := v4_5.toInt) (rfl) (by omega) (j := 2) rfl dX14_member_67 (fun z_13 ez_13 (hz_13 : z_13.toInt = -1 ∨ z_13.toInt = 0 ∨ (((v4_5.toInt).toNat : Nat) < z_13.toInt ∧ z_13.toInt ≤ 3099)) => ?_)
              have hqz_13 : z_13.toInt = jSo mx (v4_5.toInt) := by unfold jSo; rw [ez_13]
              refine lv_istore (lv' := [(4, .int z_13), (3, .int v4_5), (0, .ref r0), (1, .int a1), (2, .ref r2)]) hx hb dX14_member_68 hl (by decide) rfl (fun ls hl => ?_)
              refine lv_goto (tgt := 27) hx hb dX14_member_70 (by decide) ?_
              exact L27 v4_5 z_13 (kf - 1) _ _ hh_9 (by refine ⟨by omega, by omega, by omega, by omega, by omega, by omega, ?_⟩; first | exact (jMn_s (by omega) (by omega) hqz_13 (Or.inl ⟨(by rw [← hqz_7, ← hqz_8, ← hr_10p]; omega), by omega⟩)).trans hi_5_6 | exact (jMn_s (by omega) (by omega) hqz_13 (Or.inr ⟨(by rw [← hqz_7, ← hqz_8, ← hr_10p]; omega), by omega⟩)).trans hi_5_6) (by omega) _ (lv_sub hl [2, 3, 4, 1, 0] rfl)
      exact L27 (((3102) : Int) : Int).toNat.succ (-1) z_4 (3102) _ _ hh (by refine ⟨by omega, by omega, by omega, by omega, by omega, by omega, ?_⟩; rw [hqz_4, hkm1]) (by omega) _ (lv_sub hl [2, 3, 4, 1, 0] rfl)
    · skip
      have c_3' : z_2.toInt ≠ 6 := jb_eq_n (rfl) ((by decide)) c_3
      refine lv_iconst (v := (-1)) hx hb dX14_member_17 (by decide) ?_
      rw [hQ]
      exact W.iret (v := (-1)) hx hb hr (fun t ht hW => ⟨⟨(-1), (), rfl, by refine ⟨?_, by omega, by omega⟩; unfold jMb; rw [if_pos (by exact Or.inr (by rw [← hqz_2]; omega))]; exact hkm1, hh.rt (M1 := []) [] rfl ht⟩, by rw [ht]; try exact hh.1.1, fun q h9 hq => by rw [ht]; try exact hh.1.2.1 q h9 hq⟩) hh.1.2.2 dX14_member_18
set_option maxHeartbeats 4000000 in
set_option maxRecDepth 20000 in
theorem uX14_lineOfN (l : Launch) (dC : Nat → ClassId) (dI : Nat → Nat → Nat) (ca : Nat → ClassId) (base : Nat) (B : jF) (hB : jBok B) (hAp : jAp (dC, dI)) (hB16 : ∀ n G a H, B 16 n G a H ↔ jOb (dC, dI) 16 74 (F16 n G) a H) (hB117 : ∀ n G a H, B 117 n G a H ↔ jAr (dC, dI) (ca 1) (fun j z => True) n a H) (hB118 : ∀ n G a H, B 118 n G a H ↔ jAr (dC, dI) (ca 1) (fun j z => -1 ≤ z.toInt ∧ z.toInt ≤ 3099) n a H) (hB119 : ∀ n G a H, B 119 n G a H ↔ jAr (dC, dI) (ca 1) (fun j z => z.toInt = -1 ∨ z.toInt = 0 ∨ ((j : Nat) < z.toInt ∧ z.toInt ≤ 3099)) n a H) (hB120 : ∀ n G a H, B 120 n G a H ↔ jAr (dC, dI) (ca 1) (fun j z => 0 ≤ z.toInt ∧ z.toInt ≤ 3300) n a H) (hB121 : ∀ n G a H, B 121 n G a H ↔ jAr (dC, dI) (ca 1) (fun j z => 0 ≤ z.toInt ∧ z.toInt ≤ 3300) n a H) (hB125 : ∀ n G a H, B 125 n G a H ↔ jAr (dC, dI) (ca 1) (fun j z => True) n a H) (hB127 : ∀ n G a H, B 127 n G a H ↔ jAr (dC, dI) (ca 1) (fun j z => True) n a H) (G0 : jT) (H0 : Heap) (r0 : Nat) (a1 : Int32) (zm : Nat) (xh : Nat) (xn : Nat) (xf : Nat) (xt : Nat) (xp : Nat) (ms : Nat → Int32) (mh : Nat → Int32) (mx : Nat → Int32) (mf : Nat → Int32) (mt : Nat → Int32) (mp : Nat → Int32) : Met l yX14_lineOf (jw yX14_lineOf cX14_lineOf 2 (some .int)) ({ frames := 6, cells := 0, slots := 0, locals := 189 }) (va_Pc [.ref r0, .int a1] (fun U => U.heap = H0 ∧ jX B base G0 [] H0 ∧ jG dC dI ca base U ∧ G0 r0 = some (16, 0) ∧ G0 zm = some (117, 3100) ∧ G0 xh = some (118, 3100) ∧ G0 xn = some (119, 3100) ∧ G0 xf = some (120, 3100) ∧ G0 xt = some (121, 3100) ∧ G0 xp = some (127, 3300) ∧ jP (dC, dI) G0 H0 [(r0, 16, 17, .ref zm), (r0, 16, 18, .ref xh), (r0, 16, 19, .ref xn), (r0, 16, 20, .ref xf), (r0, 16, 21, .ref xt), (r0, 16, 27, .ref xp)] ∧ jMc (dC, dI) G0 H0 [(zm, 117, 3100, ca 1, ms), (xh, 118, 3100, ca 1, mh), (xn, 119, 3100, ca 1, mx), (xf, 120, 3100, ca 1, mf), (xt, 121, 3100, ca 1, mt), (xp, 127, 3300, ca 1, mp)] ∧ 0 ≤ jMb ms mh mf mt mx mp (jChT "line") 4 a1.toInt ∧ a1.toInt ≤ 3099 ∧ jSo mx 0 = -1)) (va_Qi (S := Unit) (fun r u => (True)) (fun u t => jRt (dC, dI) B base G0 EX14_lineOfN H0 [] t.heap) (jA base)) 0 0 (jA base) := by
  refine Met.ofW (cc := cX14_lineOf) (maxL := 2) (ret := (some .int)) (by decide) rfl ?_
  intro p e s m args below meth c s₁ Bd hml hv
  obtain ⟨rfl, hH0, hX, hG, hg_r0, hg_zm, hg_xh, hg_xn, hg_xf, hg_xt, hg_xp, hP0, hM0, hp0, hp1, hp2⟩ := hv
  have hK := hG.1
  have hx := Bd.exec
  have hb := Bd.bytes
  have hr := Bd.returns
  have hts := atoms_spec (ws := (jw yX14_lineOf cX14_lineOf 2 (some .int))) Bd.pre
  have htw : ∀ w ∈ jWl, w.before _ s = true := fun w h => hts w (List.mem_cons_of_mem _ h)
  have hown : s.vm.findClass RX14 = some m.cls := findClass_of_methodNamed Bd.named
  have hlocks := Bd.notSynchronized
  obtain ⟨Q, hQ⟩ : ∃ Q, Q = MQ below (va_Qi (S := Unit) (fun r u => (True)) (fun u t => jRt (dC, dI) B base G0 EX14_lineOfN H0 [] t.heap) (jA base)) ([.ref r0, .int a1] : List Value).toArray s 0 0 (jA base) := ⟨_, rfl⟩
  rw [← hQ]
  have hl := lv_entry ([.ref r0, .int a1]) (n := 2) (Nat.le_of_ble_eq_true rfl)
  rw [lg_entry_eq]
  generalize (lg_sl ([.ref r0, .int a1]) ++ List.replicate (2 - (lg_sl ([.ref r0, .int a1])).length) Slot.unset).toArray = ls at hl ⊢
  have hl : lv_has ls 2 [(0, .ref r0), (1, .int a1)] := hl
  generalize hR : (headSpec (jw yX14_lineOf cX14_lineOf 2 (some .int)) ({ frames := 6, cells := 0, slots := 0, locals := 189 })).room = R
  subst hH0
  have hh : jSt (dC, dI) B base G0 G0 EX14_lineOfN s.heap 0 0 [(r0, 16, 17, .ref zm), (r0, 16, 18, .ref xh), (r0, 16, 19, .ref xn), (r0, 16, 20, .ref xf), (r0, 16, 21, .ref xt), (r0, 16, 27, .ref xp)] [(zm, 117, 3100, ca 1, ms), (xh, 118, 3100, ca 1, mh), (xn, 119, 3100, ca 1, mx), (xf, 120, 3100, ca 1, mf), (xt, 121, 3100, ca 1, mt), (xp, 127, 3300, ca 1, mp)] [] s.heap [] := jSt.start hX hP0 hM0 jIs.nil
  clear hX hP0
  have hk0 : (0 : Int32).toInt = 0 := by decide
  have hk1 : (1 : Int32).toInt = 1 := by decide
  have hly_16_25 := htw (u_lay RX14 TX14 25) (jWc_wsX140 _ (u_in_lay (by decide)))
  have hlk_62 := (htw (.fieldLink RX14 62 "ProofServerModel" "ints" "[I") (jWr_11 _ (List.mem_of_getElem? (i := 13) rfl)))
  obtain ⟨str544, rstr544, hstr5440⟩ := hG.strT (o := RX14) (k := 544) (tx := "line") (List.mem_of_getElem? (i := 2895) (by decide +kernel))
  have hTstr544 : jStrF base str544 4 (jChT "line") s s.heap := hstr5440.F (by decide +kernel)
  have hstr544 : jStr base str544 4 s s.heap := hTstr544.str
  have hrg_a1 := jb_rng a1
  refine lv_aload_n hx hb dX14_lineOf_0 rfl (lv_at hl 0 rfl) ?_
  obtain ⟨v_1, hv_1, hh_2⟩ := hh.pin (C := RX14) (T := TX14) (N := 74) hB16 rfl (by decide) hg_r0 (i := 25) (by decide) rfl
  clear hh
  obtain ⟨ints_3, rfl, hg_ints_3⟩ := hv_1
  refine j7_read hx hb hown hK (C := RX14) (T := TX14) (N := 74) rfl hly_16_25 hlk_62 (hh_2.at 0 rfl) dX14_lineOf_1 ?_
  refine lv_aload_n hx hb dX14_lineOf_4 rfl (lv_at hl 0 rfl) ?_
  refine lv_iload_n hx hb dX14_lineOf_5 rfl (lv_at hl 1 rfl) ?_
  refine j_ldcSw hx hb hown rstr544 dX14_lineOf_6 ?_
  refine va_calli (A0 := jA base) (H0 := s.heap) (va_runV (As := [.int a1, .ref str544]) (rest := [.ref ints_3]) ⟨hx, hb, hml, hown, hts⟩ (uX14_memberKN l dC dI ca base B hB hAp hB16 hB117 hB118 hB119 hB120 hB121 hB127 G0 s.heap r0 a1 str544 4 (jChT "line") zm xh xn xf xt xp ms mh mx mf mt mp) (cwV 2 hts (jgV (jWr_55 _ (List.mem_of_getElem? (i := 15) rfl)) (jWr_55 _ (List.mem_of_getElem? (i := 16) rfl)) (jWr_55 _ (List.mem_of_getElem? (i := 17) rfl)) (jWr_1 _ (List.mem_of_getElem? (i := 5) rfl)) (jWr_55 _ (List.mem_of_getElem? (i := 18) rfl))) rfl rfl rfl (by decide +kernel) ⟨by rw [← hR]; exact Nat.le_of_ble_eq_true rfl, by rw [← hR]; exact Nat.le_of_ble_eq_true rfl⟩) ⟨fun a U g mk q => by obtain ⟨q0, q1, q2, qK, q10, q11, q12, q13, q14, q15, q16, q17, q18, q19, q20⟩ := q; exact ⟨q0, q1, q2, jG.calling g mk a qK, (q10.moved (Vm.Alike.refl U.vm)), q11, q12, q13, q14, q15, q16, q17, q18, q19, q20⟩, hh_2.recv (C := RX14) (T := TX14) (N := 74) hB16 rfl (by decide) hg_r0 hK, fun U hU hW => ⟨rfl, hU, hh_2.2.1, hG.step hW hU hh_2.1, (hTstr544.moved hW.alike).kept hh_2.1.2.1, hg_r0, hg_zm, hg_xh, hg_xn, hg_xf, hg_xt, hg_xp, (hh_2.2.2.1.sub (L1 := [(r0, 16, 17, .ref zm), (r0, 16, 18, .ref xh), (r0, 16, 19, .ref xn), (r0, 16, 20, .ref xf), (r0, 16, 21, .ref xt), (r0, 16, 27, .ref xp)]) [1, 2, 3, 4, 5, 6] rfl), (hh_2.2.2.2.2.2.2.2.1.sub (L1 := [(zm, 117, 3100, ca 1, ms), (xh, 118, 3100, ca 1, mh), (xn, 119, 3100, ca 1, mx), (xf, 120, 3100, ca 1, mf), (xt, 121, 3100, ca 1, mt), (xp, 127, 3300, ca 1, mp)]) [0, 1, 2, 3, 4, 5] rfl), by first | omega | (refine ⟨?_, ?_, ?_⟩ <;> (first | omega | rfl | assumption | decide | exact Or.inl rfl | exact Or.inr rfl | (simp only; omega)))⟩⟩ rfl rfl hl.1 rfl (lv_room (Nat.le_of_ble_eq_true rfl)) dX14_lineOf_9 ⟨Nat.zero_le _, Nat.zero_le _⟩) hh_2.1 (fun q _ h => h) (fun q h => h) (fun r_5 u_4 t_4 H_4 locs_4 ht_4 hvm_4 hr_5 hb_4 hz_4 hk_4 hS_4 => ?_)
  rw [ht_4] at hb_4
  obtain ⟨hb_41, hb_42, hb_43, hb_44, hb_45⟩ := hb_4
  have hh_4 : jSt (dC, dI) B base G0 G0 EX14_lineOfN s.heap 0 0 [(r0, 16, 25, .ref ints_3), (r0, 16, 17, .ref zm), (r0, 16, 18, .ref xh), (r0, 16, 19, .ref xn), (r0, 16, 20, .ref xf), (r0, 16, 21, .ref xt), (r0, 16, 27, .ref xp)] [(zm, 117, 3100, ca 1, ms), (xh, 118, 3100, ca 1, mh), (xn, 119, 3100, ca 1, mx), (xf, 120, 3100, ca 1, mf), (xt, 121, 3100, ca 1, mt), (xp, 127, 3300, ca 1, mp)] [] H_4 locs_4 := ((hh_2.call hb_41 hb_42 hb_43 hb_44 hS_4 rfl (L1 := [(r0, 16, 25, .ref ints_3), (r0, 16, 17, .ref zm), (r0, 16, 18, .ref xh), (r0, 16, 19, .ref xn), (r0, 16, 20, .ref xf), (r0, 16, 21, .ref xt), (r0, 16, 27, .ref xp)]) [0, 1, 2, 3, 4, 5, 6] rfl rfl (M1 := [(zm, 117, 3100, ca 1, ms), (xh, 118, 3100, ca 1, mh), (xn, 119, 3100, ca 1, mx), (xf, 120, 3100, ca 1, mf), (xt, 121, 3100, ca 1, mt), (xp, 127, 3300, ca 1, mp)]) [0, 1, 2, 3, 4, 5] rfl rfl (I1 := []) [] rfl rfl).more hb_45)
  clear hh_2 ht_4 hvm_4 hz_4 hk_4 hS_4 hb_41 hb_42 hb_43 hb_44 hb_45
  obtain ⟨hr_5_0, hr_5_1, hr_5_2⟩ := hr_5
  refine j7_iald hx hb hK hh_4 hB125 1 rfl (by decide) hg_ints_3 (x := r_5.toInt) (rfl) (by omega) dX14_lineOf_12 (fun z_6 (hz_6 : True) => ?_)
  rw [hQ]
  exact W.iret (v := z_6) hx hb hr (fun t ht hW => ⟨⟨z_6, (), rfl, trivial, hh_4.rt (M1 := []) [] rfl ht⟩, by rw [ht]; try exact hh_4.1.1, fun q h9 hq => by rw [ht]; try exact hh_4.1.2.1 q h9 hq⟩) hh_4.1.2.2 dX14_lineOf_13
set_option maxHeartbeats 4000000 in
set_option maxRecDepth 20000 in
theorem uX14_characterOfN (l : Launch) (dC : Nat → ClassId) (dI : Nat → Nat → Nat) (ca : Nat → ClassId) (base : Nat) (B : jF) (hB : jBok B) (hAp : jAp (dC, dI)) (hB16 : ∀ n G a H, B 16 n G a H ↔ jOb (dC, dI) 16 74 (F16 n G) a H) (hB117 : ∀ n G a H, B 117 n G a H ↔ jAr (dC, dI) (ca 1) (fun j z => True) n a H) (hB118 : ∀ n G a H, B 118 n G a H ↔ jAr (dC, dI) (ca 1) (fun j z => -1 ≤ z.toInt ∧ z.toInt ≤ 3099) n a H) (hB119 : ∀ n G a H, B 119 n G a H ↔ jAr (dC, dI) (ca 1) (fun j z => z.toInt = -1 ∨ z.toInt = 0 ∨ ((j : Nat) < z.toInt ∧ z.toInt ≤ 3099)) n a H) (hB120 : ∀ n G a H, B 120 n G a H ↔ jAr (dC, dI) (ca 1) (fun j z => 0 ≤ z.toInt ∧ z.toInt ≤ 3300) n a H) (hB121 : ∀ n G a H, B 121 n G a H ↔ jAr (dC, dI) (ca 1) (fun j z => 0 ≤ z.toInt ∧ z.toInt ≤ 3300) n a H) (hB125 : ∀ n G a H, B 125 n G a H ↔ jAr (dC, dI) (ca 1) (fun j z => True) n a H) (hB127 : ∀ n G a H, B 127 n G a H ↔ jAr (dC, dI) (ca 1) (fun j z => True) n a H) (G0 : jT) (H0 : Heap) (r0 : Nat) (a1 : Int32) (zm : Nat) (xh : Nat) (xn : Nat) (xf : Nat) (xt : Nat) (xp : Nat) (ms : Nat → Int32) (mh : Nat → Int32) (mx : Nat → Int32) (mf : Nat → Int32) (mt : Nat → Int32) (mp : Nat → Int32) : Met l yX14_characterOf (jw yX14_characterOf cX14_characterOf 2 (some .int)) ({ frames := 6, cells := 0, slots := 0, locals := 189 }) (va_Pc [.ref r0, .int a1] (fun U => U.heap = H0 ∧ jX B base G0 [] H0 ∧ jG dC dI ca base U ∧ G0 r0 = some (16, 0) ∧ G0 zm = some (117, 3100) ∧ G0 xh = some (118, 3100) ∧ G0 xn = some (119, 3100) ∧ G0 xf = some (120, 3100) ∧ G0 xt = some (121, 3100) ∧ G0 xp = some (127, 3300) ∧ jP (dC, dI) G0 H0 [(r0, 16, 17, .ref zm), (r0, 16, 18, .ref xh), (r0, 16, 19, .ref xn), (r0, 16, 20, .ref xf), (r0, 16, 21, .ref xt), (r0, 16, 27, .ref xp)] ∧ jMc (dC, dI) G0 H0 [(zm, 117, 3100, ca 1, ms), (xh, 118, 3100, ca 1, mh), (xn, 119, 3100, ca 1, mx), (xf, 120, 3100, ca 1, mf), (xt, 121, 3100, ca 1, mt), (xp, 127, 3300, ca 1, mp)] ∧ 0 ≤ jMb ms mh mf mt mx mp (jChT "character") 9 a1.toInt ∧ a1.toInt ≤ 3099 ∧ jSo mx 0 = -1)) (va_Qi (S := Unit) (fun r u => (True)) (fun u t => jRt (dC, dI) B base G0 EX14_characterOfN H0 [] t.heap) (jA base)) 0 0 (jA base) := by
  refine Met.ofW (cc := cX14_characterOf) (maxL := 2) (ret := (some .int)) (by decide) rfl ?_
  intro p e s m args below meth c s₁ Bd hml hv
  obtain ⟨rfl, hH0, hX, hG, hg_r0, hg_zm, hg_xh, hg_xn, hg_xf, hg_xt, hg_xp, hP0, hM0, hp0, hp1, hp2⟩ := hv
  have hK := hG.1
  have hx := Bd.exec
  have hb := Bd.bytes
  have hr := Bd.returns
  have hts := atoms_spec (ws := (jw yX14_characterOf cX14_characterOf 2 (some .int))) Bd.pre
  have htw : ∀ w ∈ jWl, w.before _ s = true := fun w h => hts w (List.mem_cons_of_mem _ h)
  have hown : s.vm.findClass RX14 = some m.cls := findClass_of_methodNamed Bd.named
  have hlocks := Bd.notSynchronized
  obtain ⟨Q, hQ⟩ : ∃ Q, Q = MQ below (va_Qi (S := Unit) (fun r u => (True)) (fun u t => jRt (dC, dI) B base G0 EX14_characterOfN H0 [] t.heap) (jA base)) ([.ref r0, .int a1] : List Value).toArray s 0 0 (jA base) := ⟨_, rfl⟩
  rw [← hQ]
  have hl := lv_entry ([.ref r0, .int a1]) (n := 2) (Nat.le_of_ble_eq_true rfl)
  rw [lg_entry_eq]
  generalize (lg_sl ([.ref r0, .int a1]) ++ List.replicate (2 - (lg_sl ([.ref r0, .int a1])).length) Slot.unset).toArray = ls at hl ⊢
  have hl : lv_has ls 2 [(0, .ref r0), (1, .int a1)] := hl
  generalize hR : (headSpec (jw yX14_characterOf cX14_characterOf 2 (some .int)) ({ frames := 6, cells := 0, slots := 0, locals := 189 })).room = R
  subst hH0
  have hh : jSt (dC, dI) B base G0 G0 EX14_characterOfN s.heap 0 0 [(r0, 16, 17, .ref zm), (r0, 16, 18, .ref xh), (r0, 16, 19, .ref xn), (r0, 16, 20, .ref xf), (r0, 16, 21, .ref xt), (r0, 16, 27, .ref xp)] [(zm, 117, 3100, ca 1, ms), (xh, 118, 3100, ca 1, mh), (xn, 119, 3100, ca 1, mx), (xf, 120, 3100, ca 1, mf), (xt, 121, 3100, ca 1, mt), (xp, 127, 3300, ca 1, mp)] [] s.heap [] := jSt.start hX hP0 hM0 jIs.nil
  clear hX hP0
  have hk0 : (0 : Int32).toInt = 0 := by decide
  have hk1 : (1 : Int32).toInt = 1 := by decide
  have hly_16_25 := htw (u_lay RX14 TX14 25) (jWc_wsX140 _ (u_in_lay (by decide)))
  have hlk_62 := (htw (.fieldLink RX14 62 "ProofServerModel" "ints" "[I") (jWr_11 _ (List.mem_of_getElem? (i := 13) rfl)))
  obtain ⟨str546, rstr546, hstr5460⟩ := hG.strT (o := RX14) (k := 546) (tx := "character") (List.mem_of_getElem? (i := 2896) (by decide +kernel))
  have hTstr546 : jStrF base str546 9 (jChT "character") s s.heap := hstr5460.F (by decide +kernel)
  have hstr546 : jStr base str546 9 s s.heap := hTstr546.str
  have hrg_a1 := jb_rng a1
  refine lv_aload_n hx hb dX14_characterOf_0 rfl (lv_at hl 0 rfl) ?_
  obtain ⟨v_1, hv_1, hh_2⟩ := hh.pin (C := RX14) (T := TX14) (N := 74) hB16 rfl (by decide) hg_r0 (i := 25) (by decide) rfl
  clear hh
  obtain ⟨ints_3, rfl, hg_ints_3⟩ := hv_1
  refine j7_read hx hb hown hK (C := RX14) (T := TX14) (N := 74) rfl hly_16_25 hlk_62 (hh_2.at 0 rfl) dX14_characterOf_1 ?_
  refine lv_aload_n hx hb dX14_characterOf_4 rfl (lv_at hl 0 rfl) ?_
  refine lv_iload_n hx hb dX14_characterOf_5 rfl (lv_at hl 1 rfl) ?_
  refine j_ldcSw hx hb hown rstr546 dX14_characterOf_6 ?_
  refine va_calli (A0 := jA base) (H0 := s.heap) (va_runV (As := [.int a1, .ref str546]) (rest := [.ref ints_3]) ⟨hx, hb, hml, hown, hts⟩ (uX14_memberKN l dC dI ca base B hB hAp hB16 hB117 hB118 hB119 hB120 hB121 hB127 G0 s.heap r0 a1 str546 9 (jChT "character") zm xh xn xf xt xp ms mh mx mf mt mp) (cwV 2 hts (jgV (jWr_55 _ (List.mem_of_getElem? (i := 15) rfl)) (jWr_55 _ (List.mem_of_getElem? (i := 16) rfl)) (jWr_55 _ (List.mem_of_getElem? (i := 17) rfl)) (jWr_1 _ (List.mem_of_getElem? (i := 5) rfl)) (jWr_55 _ (List.mem_of_getElem? (i := 18) rfl))) rfl rfl rfl (by decide +kernel) ⟨by rw [← hR]; exact Nat.le_of_ble_eq_true rfl, by rw [← hR]; exact Nat.le_of_ble_eq_true rfl⟩) ⟨fun a U g mk q => by obtain ⟨q0, q1, q2, qK, q10, q11, q12, q13, q14, q15, q16, q17, q18, q19, q20⟩ := q; exact ⟨q0, q1, q2, jG.calling g mk a qK, (q10.moved (Vm.Alike.refl U.vm)), q11, q12, q13, q14, q15, q16, q17, q18, q19, q20⟩, hh_2.recv (C := RX14) (T := TX14) (N := 74) hB16 rfl (by decide) hg_r0 hK, fun U hU hW => ⟨rfl, hU, hh_2.2.1, hG.step hW hU hh_2.1, (hTstr546.moved hW.alike).kept hh_2.1.2.1, hg_r0, hg_zm, hg_xh, hg_xn, hg_xf, hg_xt, hg_xp, (hh_2.2.2.1.sub (L1 := [(r0, 16, 17, .ref zm), (r0, 16, 18, .ref xh), (r0, 16, 19, .ref xn), (r0, 16, 20, .ref xf), (r0, 16, 21, .ref xt), (r0, 16, 27, .ref xp)]) [1, 2, 3, 4, 5, 6] rfl), (hh_2.2.2.2.2.2.2.2.1.sub (L1 := [(zm, 117, 3100, ca 1, ms), (xh, 118, 3100, ca 1, mh), (xn, 119, 3100, ca 1, mx), (xf, 120, 3100, ca 1, mf), (xt, 121, 3100, ca 1, mt), (xp, 127, 3300, ca 1, mp)]) [0, 1, 2, 3, 4, 5] rfl), by first | omega | (refine ⟨?_, ?_, ?_⟩ <;> (first | omega | rfl | assumption | decide | exact Or.inl rfl | exact Or.inr rfl | (simp only; omega)))⟩⟩ rfl rfl hl.1 rfl (lv_room (Nat.le_of_ble_eq_true rfl)) dX14_characterOf_9 ⟨Nat.zero_le _, Nat.zero_le _⟩) hh_2.1 (fun q _ h => h) (fun q h => h) (fun r_5 u_4 t_4 H_4 locs_4 ht_4 hvm_4 hr_5 hb_4 hz_4 hk_4 hS_4 => ?_)
  rw [ht_4] at hb_4
  obtain ⟨hb_41, hb_42, hb_43, hb_44, hb_45⟩ := hb_4
  have hh_4 : jSt (dC, dI) B base G0 G0 EX14_characterOfN s.heap 0 0 [(r0, 16, 25, .ref ints_3), (r0, 16, 17, .ref zm), (r0, 16, 18, .ref xh), (r0, 16, 19, .ref xn), (r0, 16, 20, .ref xf), (r0, 16, 21, .ref xt), (r0, 16, 27, .ref xp)] [(zm, 117, 3100, ca 1, ms), (xh, 118, 3100, ca 1, mh), (xn, 119, 3100, ca 1, mx), (xf, 120, 3100, ca 1, mf), (xt, 121, 3100, ca 1, mt), (xp, 127, 3300, ca 1, mp)] [] H_4 locs_4 := ((hh_2.call hb_41 hb_42 hb_43 hb_44 hS_4 rfl (L1 := [(r0, 16, 25, .ref ints_3), (r0, 16, 17, .ref zm), (r0, 16, 18, .ref xh), (r0, 16, 19, .ref xn), (r0, 16, 20, .ref xf), (r0, 16, 21, .ref xt), (r0, 16, 27, .ref xp)]) [0, 1, 2, 3, 4, 5, 6] rfl rfl (M1 := [(zm, 117, 3100, ca 1, ms), (xh, 118, 3100, ca 1, mh), (xn, 119, 3100, ca 1, mx), (xf, 120, 3100, ca 1, mf), (xt, 121, 3100, ca 1, mt), (xp, 127, 3300, ca 1, mp)]) [0, 1, 2, 3, 4, 5] rfl rfl (I1 := []) [] rfl rfl).more hb_45)
  clear hh_2 ht_4 hvm_4 hz_4 hk_4 hS_4 hb_41 hb_42 hb_43 hb_44 hb_45
  obtain ⟨hr_5_0, hr_5_1, hr_5_2⟩ := hr_5
  refine j7_iald hx hb hK hh_4 hB125 1 rfl (by decide) hg_ints_3 (x := r_5.toInt) (rfl) (by omega) dX14_characterOf_12 (fun z_6 (hz_6 : True) => ?_)
  rw [hQ]
  exact W.iret (v := z_6) hx hb hr (fun t ht hW => ⟨⟨z_6, (), rfl, trivial, hh_4.rt (M1 := []) [] rfl ht⟩, by rw [ht]; try exact hh_4.1.1, fun q h9 hq => by rw [ht]; try exact hh_4.1.2.1 q h9 hq⟩) hh_4.1.2.2 dX14_characterOf_13
set_option maxHeartbeats 4000000 in
set_option maxRecDepth 20000 in
theorem uX14_isPositionN (l : Launch) (dC : Nat → ClassId) (dI : Nat → Nat → Nat) (ca : Nat → ClassId) (base : Nat) (B : jF) (hB : jBok B) (hAp : jAp (dC, dI)) (hB16 : ∀ n G a H, B 16 n G a H ↔ jOb (dC, dI) 16 74 (F16 n G) a H) (hB117 : ∀ n G a H, B 117 n G a H ↔ jAr (dC, dI) (ca 1) (fun j z => True) n a H) (hB118 : ∀ n G a H, B 118 n G a H ↔ jAr (dC, dI) (ca 1) (fun j z => -1 ≤ z.toInt ∧ z.toInt ≤ 3099) n a H) (hB119 : ∀ n G a H, B 119 n G a H ↔ jAr (dC, dI) (ca 1) (fun j z => z.toInt = -1 ∨ z.toInt = 0 ∨ ((j : Nat) < z.toInt ∧ z.toInt ≤ 3099)) n a H) (hB120 : ∀ n G a H, B 120 n G a H ↔ jAr (dC, dI) (ca 1) (fun j z => 0 ≤ z.toInt ∧ z.toInt ≤ 3300) n a H) (hB121 : ∀ n G a H, B 121 n G a H ↔ jAr (dC, dI) (ca 1) (fun j z => 0 ≤ z.toInt ∧ z.toInt ≤ 3300) n a H) (hB124 : ∀ n G a H, B 124 n G a H ↔ jAr (dC, dI) (ca 3) (fun j z => (z = 0 ∨ z = 1)) n a H) (hB125 : ∀ n G a H, B 125 n G a H ↔ jAr (dC, dI) (ca 1) (fun j z => True) n a H) (hB127 : ∀ n G a H, B 127 n G a H ↔ jAr (dC, dI) (ca 1) (fun j z => True) n a H) (G0 : jT) (H0 : Heap) (r0 : Nat) (a1 : Int32) (zm : Nat) (xh : Nat) (xn : Nat) (xf : Nat) (xt : Nat) (xp : Nat) (ms : Nat → Int32) (mh : Nat → Int32) (mx : Nat → Int32) (mf : Nat → Int32) (mt : Nat → Int32) (mp : Nat → Int32) : Met l yX14_isPosition (jw yX14_isPosition cX14_isPosition 4 (some .boolean)) ({ frames := 6, cells := 0, slots := 0, locals := 189 }) (va_Pc [.ref r0, .int a1] (fun U => U.heap = H0 ∧ jX B base G0 [] H0 ∧ jG dC dI ca base U ∧ G0 r0 = some (16, 0) ∧ G0 zm = some (117, 3100) ∧ G0 xh = some (118, 3100) ∧ G0 xn = some (119, 3100) ∧ G0 xf = some (120, 3100) ∧ G0 xt = some (121, 3100) ∧ G0 xp = some (127, 3300) ∧ jP (dC, dI) G0 H0 [(r0, 16, 17, .ref zm), (r0, 16, 18, .ref xh), (r0, 16, 19, .ref xn), (r0, 16, 20, .ref xf), (r0, 16, 21, .ref xt), (r0, 16, 27, .ref xp)] ∧ jMc (dC, dI) G0 H0 [(zm, 117, 3100, ca 1, ms), (xh, 118, 3100, ca 1, mh), (xn, 119, 3100, ca 1, mx), (xf, 120, 3100, ca 1, mf), (xt, 121, 3100, ca 1, mt), (xp, 127, 3300, ca 1, mp)] ∧ a1.toInt ≤ 3099 ∧ jSo mx 0 = -1)) (va_Qi (S := Unit) (fun r u => (r = 0 ∨ r = 1) ∧ (0 ≤ r.toInt ∧ r.toInt ≤ 1 ∧ (r.toInt = 1 → jPos ms mh mf mt mx mp a1.toInt))) (fun u t => jRt (dC, dI) B base G0 EX14_isPositionN H0 [] t.heap) (jA base)) 0 0 (jA base) := by
  refine Met.ofW (cc := cX14_isPosition) (maxL := 4) (ret := (some .boolean)) (by decide) rfl ?_
  intro p e s m args below meth c s₁ Bd hml hv
  obtain ⟨rfl, hH0, hX, hG, hg_r0, hg_zm, hg_xh, hg_xn, hg_xf, hg_xt, hg_xp, hP0, hM0, hp0, hp1⟩ := hv
  have hK := hG.1
  have hx := Bd.exec
  have hb := Bd.bytes
  have hr := Bd.returns
  have hts := atoms_spec (ws := (jw yX14_isPosition cX14_isPosition 4 (some .boolean))) Bd.pre
  have htw : ∀ w ∈ jWl, w.before _ s = true := fun w h => hts w (List.mem_cons_of_mem _ h)
  have hown : s.vm.findClass RX14 = some m.cls := findClass_of_methodNamed Bd.named
  have hlocks := Bd.notSynchronized
  obtain ⟨Q, hQ⟩ : ∃ Q, Q = MQ below (va_Qi (S := Unit) (fun r u => (r = 0 ∨ r = 1) ∧ (0 ≤ r.toInt ∧ r.toInt ≤ 1 ∧ (r.toInt = 1 → jPos ms mh mf mt mx mp a1.toInt))) (fun u t => jRt (dC, dI) B base G0 EX14_isPositionN H0 [] t.heap) (jA base)) ([.ref r0, .int a1] : List Value).toArray s 0 0 (jA base) := ⟨_, rfl⟩
  rw [← hQ]
  have hl := lv_entry ([.ref r0, .int a1]) (n := 4) (Nat.le_of_ble_eq_true rfl)
  rw [lg_entry_eq]
  generalize (lg_sl ([.ref r0, .int a1]) ++ List.replicate (4 - (lg_sl ([.ref r0, .int a1])).length) Slot.unset).toArray = ls at hl ⊢
  have hl : lv_has ls 4 [(0, .ref r0), (1, .int a1)] := hl
  generalize hR : (headSpec (jw yX14_isPosition cX14_isPosition 4 (some .boolean)) ({ frames := 6, cells := 0, slots := 0, locals := 189 })).room = R
  subst hH0
  have hh : jSt (dC, dI) B base G0 G0 EX14_isPositionN s.heap 0 0 [(r0, 16, 17, .ref zm), (r0, 16, 18, .ref xh), (r0, 16, 19, .ref xn), (r0, 16, 20, .ref xf), (r0, 16, 21, .ref xt), (r0, 16, 27, .ref xp)] [(zm, 117, 3100, ca 1, ms), (xh, 118, 3100, ca 1, mh), (xn, 119, 3100, ca 1, mx), (xf, 120, 3100, ca 1, mf), (xt, 121, 3100, ca 1, mt), (xp, 127, 3300, ca 1, mp)] [] s.heap [] := jSt.start hX hP0 hM0 jIs.nil
  clear hX hP0
  have hk0 : (0 : Int32).toInt = 0 := by decide
  have hk1 : (1 : Int32).toInt = 1 := by decide
  have hly_16_25 := htw (u_lay RX14 TX14 25) (jWc_wsX140 _ (u_in_lay (by decide)))
  obtain ⟨str544, rstr544, hstr5440⟩ := hG.strT (o := RX14) (k := 544) (tx := "line") (List.mem_of_getElem? (i := 2895) (by decide +kernel))
  have hTstr544 : jStrF base str544 4 (jChT "line") s s.heap := hstr5440.F (by decide +kernel)
  have hstr544 : jStr base str544 4 s s.heap := hTstr544.str
  obtain ⟨str546, rstr546, hstr5460⟩ := hG.strT (o := RX14) (k := 546) (tx := "character") (List.mem_of_getElem? (i := 2896) (by decide +kernel))
  have hTstr546 : jStrF base str546 9 (jChT "character") s s.heap := hstr5460.F (by decide +kernel)
  have hstr546 : jStr base str546 9 s s.heap := hTstr546.str
  have hlk_62 := (htw (.fieldLink RX14 62 "ProofServerModel" "ints" "[I") (jWr_11 _ (List.mem_of_getElem? (i := 13) rfl)))
  have hrg_a1 := jb_rng a1
  refine lv_aload_n hx hb dX14_isPosition_0 rfl (lv_at hl 0 rfl) ?_
  refine lv_iload_n hx hb dX14_isPosition_1 rfl (lv_at hl 1 rfl) ?_
  refine j_ldcSw hx hb hown rstr544 dX14_isPosition_2 ?_
  refine va_calli (A0 := jA base) (H0 := s.heap) (va_runV (As := [.int a1, .ref str544]) (rest := []) ⟨hx, hb, hml, hown, hts⟩ (uX14_memberKN l dC dI ca base B hB hAp hB16 hB117 hB118 hB119 hB120 hB121 hB127 G0 s.heap r0 a1 str544 4 (jChT "line") zm xh xn xf xt xp ms mh mx mf mt mp) (cwV 2 hts (jgV (jWr_55 _ (List.mem_of_getElem? (i := 15) rfl)) (jWr_55 _ (List.mem_of_getElem? (i := 16) rfl)) (jWr_55 _ (List.mem_of_getElem? (i := 17) rfl)) (jWr_1 _ (List.mem_of_getElem? (i := 5) rfl)) (jWr_55 _ (List.mem_of_getElem? (i := 18) rfl))) rfl rfl rfl (by decide +kernel) ⟨by rw [← hR]; exact Nat.le_of_ble_eq_true rfl, by rw [← hR]; exact Nat.le_of_ble_eq_true rfl⟩) ⟨fun a U g mk q => by obtain ⟨q0, q1, q2, qK, q10, q11, q12, q13, q14, q15, q16, q17, q18, q19, q20⟩ := q; exact ⟨q0, q1, q2, jG.calling g mk a qK, (q10.moved (Vm.Alike.refl U.vm)), q11, q12, q13, q14, q15, q16, q17, q18, q19, q20⟩, hh.recv (C := RX14) (T := TX14) (N := 74) hB16 rfl (by decide) hg_r0 hK, fun U hU hW => ⟨rfl, hU, hh.2.1, hG.step hW hU hh.1, (hTstr544.moved hW.alike).kept hh.1.2.1, hg_r0, hg_zm, hg_xh, hg_xn, hg_xf, hg_xt, hg_xp, (hh.2.2.1.sub (L1 := [(r0, 16, 17, .ref zm), (r0, 16, 18, .ref xh), (r0, 16, 19, .ref xn), (r0, 16, 20, .ref xf), (r0, 16, 21, .ref xt), (r0, 16, 27, .ref xp)]) [0, 1, 2, 3, 4, 5] rfl), (hh.2.2.2.2.2.2.2.1.sub (L1 := [(zm, 117, 3100, ca 1, ms), (xh, 118, 3100, ca 1, mh), (xn, 119, 3100, ca 1, mx), (xf, 120, 3100, ca 1, mf), (xt, 121, 3100, ca 1, mt), (xp, 127, 3300, ca 1, mp)]) [0, 1, 2, 3, 4, 5] rfl), by first | omega | (refine ⟨?_, ?_, ?_⟩ <;> (first | omega | rfl | assumption | decide | exact Or.inl rfl | exact Or.inr rfl | (simp only; omega)))⟩⟩ rfl rfl hl.1 rfl (lv_room (Nat.le_of_ble_eq_true rfl)) dX14_isPosition_5 ⟨Nat.zero_le _, Nat.zero_le _⟩) hh.1 (fun q _ h => h) (fun q h => h) (fun r_2 u_1 t_1 H_1 locs_1 ht_1 hvm_1 hr_2 hb_1 hz_1 hk_1 hS_1 => ?_)
  rw [ht_1] at hb_1
  obtain ⟨hb_11, hb_12, hb_13, hb_14, hb_15⟩ := hb_1
  have hh_1 : jSt (dC, dI) B base G0 G0 EX14_isPositionN s.heap 0 0 [(r0, 16, 17, .ref zm), (r0, 16, 18, .ref xh), (r0, 16, 19, .ref xn), (r0, 16, 20, .ref xf), (r0, 16, 21, .ref xt), (r0, 16, 27, .ref xp)] [(zm, 117, 3100, ca 1, ms), (xh, 118, 3100, ca 1, mh), (xn, 119, 3100, ca 1, mx), (xf, 120, 3100, ca 1, mf), (xt, 121, 3100, ca 1, mt), (xp, 127, 3300, ca 1, mp)] [] H_1 locs_1 := ((hh.call hb_11 hb_12 hb_13 hb_14 hS_1 rfl (L1 := [(r0, 16, 17, .ref zm), (r0, 16, 18, .ref xh), (r0, 16, 19, .ref xn), (r0, 16, 20, .ref xf), (r0, 16, 21, .ref xt), (r0, 16, 27, .ref xp)]) [0, 1, 2, 3, 4, 5] rfl rfl (M1 := [(zm, 117, 3100, ca 1, ms), (xh, 118, 3100, ca 1, mh), (xn, 119, 3100, ca 1, mx), (xf, 120, 3100, ca 1, mf), (xt, 121, 3100, ca 1, mt), (xp, 127, 3300, ca 1, mp)]) [0, 1, 2, 3, 4, 5] rfl rfl (I1 := []) [] rfl rfl).more hb_15)
  clear hh ht_1 hvm_1 hz_1 hk_1 hS_1 hb_11 hb_12 hb_13 hb_14 hb_15
  obtain ⟨hr_2_0, hr_2_1, hr_2_2⟩ := hr_2
  refine lv_istore_n (lv' := [(2, .int r_2), (0, .ref r0), (1, .int a1)]) hx hb dX14_isPosition_8 rfl hl (by decide) rfl (fun ls hl => ?_)
  refine lv_aload_n hx hb dX14_isPosition_9 rfl (lv_at hl 1 rfl) ?_
  refine lv_iload_n hx hb dX14_isPosition_10 rfl (lv_at hl 2 rfl) ?_
  refine j_ldcSw hx hb hown rstr546 dX14_isPosition_11 ?_
  refine va_calli (A0 := jA base) (H0 := s.heap) (va_runV (As := [.int a1, .ref str546]) (rest := []) ⟨hx, hb, hml, hown, hts⟩ (uX14_memberKN l dC dI ca base B hB hAp hB16 hB117 hB118 hB119 hB120 hB121 hB127 G0 H_1 r0 a1 str546 9 (jChT "character") zm xh xn xf xt xp ms mh mx mf mt mp) (cwV 2 hts (jgV (jWr_55 _ (List.mem_of_getElem? (i := 15) rfl)) (jWr_55 _ (List.mem_of_getElem? (i := 16) rfl)) (jWr_55 _ (List.mem_of_getElem? (i := 17) rfl)) (jWr_1 _ (List.mem_of_getElem? (i := 5) rfl)) (jWr_55 _ (List.mem_of_getElem? (i := 18) rfl))) rfl rfl rfl (by decide +kernel) ⟨by rw [← hR]; exact Nat.le_of_ble_eq_true rfl, by rw [← hR]; exact Nat.le_of_ble_eq_true rfl⟩) ⟨fun a U g mk q => by obtain ⟨q0, q1, q2, qK, q10, q11, q12, q13, q14, q15, q16, q17, q18, q19, q20⟩ := q; exact ⟨q0, q1, q2, jG.calling g mk a qK, (q10.moved (Vm.Alike.refl U.vm)), q11, q12, q13, q14, q15, q16, q17, q18, q19, q20⟩, hh_1.recv (C := RX14) (T := TX14) (N := 74) hB16 rfl (by decide) hg_r0 hK, fun U hU hW => ⟨rfl, hU, hh_1.2.1, hG.step hW hU hh_1.1, (hTstr546.moved hW.alike).kept hh_1.1.2.1, hg_r0, hg_zm, hg_xh, hg_xn, hg_xf, hg_xt, hg_xp, (hh_1.2.2.1.sub (L1 := [(r0, 16, 17, .ref zm), (r0, 16, 18, .ref xh), (r0, 16, 19, .ref xn), (r0, 16, 20, .ref xf), (r0, 16, 21, .ref xt), (r0, 16, 27, .ref xp)]) [0, 1, 2, 3, 4, 5] rfl), (hh_1.2.2.2.2.2.2.2.1.sub (L1 := [(zm, 117, 3100, ca 1, ms), (xh, 118, 3100, ca 1, mh), (xn, 119, 3100, ca 1, mx), (xf, 120, 3100, ca 1, mf), (xt, 121, 3100, ca 1, mt), (xp, 127, 3300, ca 1, mp)]) [0, 1, 2, 3, 4, 5] rfl), by first | omega | (refine ⟨?_, ?_, ?_⟩ <;> (first | omega | rfl | assumption | decide | exact Or.inl rfl | exact Or.inr rfl | (simp only; omega)))⟩⟩ rfl rfl hl.1 rfl (lv_room (Nat.le_of_ble_eq_true rfl)) dX14_isPosition_14 ⟨Nat.zero_le _, Nat.zero_le _⟩) hh_1.1 (fun q _ h => h) (fun q h => h) (fun r_4 u_3 t_3 H_3 locs_3 ht_3 hvm_3 hr_4 hb_3 hz_3 hk_3 hS_3 => ?_)
  rw [ht_3] at hb_3
  obtain ⟨hb_31, hb_32, hb_33, hb_34, hb_35⟩ := hb_3
  have hh_3 : jSt (dC, dI) B base G0 G0 EX14_isPositionN s.heap 0 0 [(r0, 16, 17, .ref zm), (r0, 16, 18, .ref xh), (r0, 16, 19, .ref xn), (r0, 16, 20, .ref xf), (r0, 16, 21, .ref xt), (r0, 16, 27, .ref xp)] [(zm, 117, 3100, ca 1, ms), (xh, 118, 3100, ca 1, mh), (xn, 119, 3100, ca 1, mx), (xf, 120, 3100, ca 1, mf), (xt, 121, 3100, ca 1, mt), (xp, 127, 3300, ca 1, mp)] [] H_3 locs_3 := ((hh_1.call hb_31 hb_32 hb_33 hb_34 hS_3 rfl (L1 := [(r0, 16, 17, .ref zm), (r0, 16, 18, .ref xh), (r0, 16, 19, .ref xn), (r0, 16, 20, .ref xf), (r0, 16, 21, .ref xt), (r0, 16, 27, .ref xp)]) [0, 1, 2, 3, 4, 5] rfl rfl (M1 := [(zm, 117, 3100, ca 1, ms), (xh, 118, 3100, ca 1, mh), (xn, 119, 3100, ca 1, mx), (xf, 120, 3100, ca 1, mf), (xt, 121, 3100, ca 1, mt), (xp, 127, 3300, ca 1, mp)]) [0, 1, 2, 3, 4, 5] rfl rfl (I1 := []) [] rfl rfl).more hb_35)
  clear hh_1 ht_3 hvm_3 hz_3 hk_3 hS_3 hb_31 hb_32 hb_33 hb_34 hb_35
  obtain ⟨hr_4_0, hr_4_1, hr_4_2⟩ := hr_4
  refine lv_istore_n (lv' := [(3, .int r_4), (2, .int r_2), (0, .ref r0), (1, .int a1)]) hx hb dX14_isPosition_17 rfl hl (by decide) rfl (fun ls hl => ?_)
  refine lv_aload_n hx hb dX14_isPosition_18 rfl (lv_at hl 2 rfl) ?_
  refine lv_iload_n hx hb dX14_isPosition_19 rfl (lv_at hl 1 rfl) ?_
  refine va_calli (A0 := jA base) (H0 := s.heap) (va_runV (As := [.int r_2]) (rest := []) ⟨hx, hb, hml, hown, hts⟩ (uX14_isWholeK l dC dI ca base B hB hAp hB16 hB117 hB124 G0 H_3 r0 r_2 zm ms) (cwV 1 hts (jgV (jWr_56 _ (List.mem_of_getElem? (i := 11) rfl)) (jWr_56 _ (List.mem_of_getElem? (i := 12) rfl)) (jWr_56 _ (List.mem_of_getElem? (i := 13) rfl)) (jWr_1 _ (List.mem_of_getElem? (i := 5) rfl)) (jWr_56 _ (List.mem_of_getElem? (i := 14) rfl))) rfl rfl rfl (by decide +kernel) ⟨by rw [← hR]; exact Nat.le_of_ble_eq_true rfl, by rw [← hR]; exact Nat.le_of_ble_eq_true rfl⟩) ⟨fun a U g mk q => by obtain ⟨q0, q1, q2, qK, q10, q11, q12, q13, q14⟩ := q; exact ⟨q0, q1, q2, jG.calling g mk a qK, q10, q11, q12, q13, q14⟩, hh_3.recv (C := RX14) (T := TX14) (N := 74) hB16 rfl (by decide) hg_r0 hK, fun U hU hW => ⟨rfl, hU, hh_3.2.1, hG.step hW hU hh_3.1, hg_r0, hg_zm, (hh_3.2.2.1.sub (L1 := [(r0, 16, 17, .ref zm)]) [0] rfl), (hh_3.2.2.2.2.2.2.2.1.sub (L1 := [(zm, 117, 3100, ca 1, ms)]) [0] rfl), by first | omega | rfl | assumption | decide | exact Or.inl rfl | exact Or.inr rfl | (simp only; omega)⟩⟩ rfl rfl hl.1 rfl (lv_room (Nat.le_of_ble_eq_true rfl)) dX14_isPosition_20 ⟨Nat.zero_le _, Nat.zero_le _⟩) hh_3.1 (fun q _ h => h) (fun q h => h) (fun r_6 u_5 t_5 H_5 locs_5 ht_5 hvm_5 hr_6 hb_5 hz_5 hk_5 hS_5 => ?_)
  rw [ht_5] at hb_5
  obtain ⟨hb_51, hb_52, hb_53, hb_54, hb_55⟩ := hb_5
  have hh_5 : jSt (dC, dI) B base G0 G0 EX14_isPositionN s.heap 0 0 [(r0, 16, 17, .ref zm), (r0, 16, 18, .ref xh), (r0, 16, 19, .ref xn), (r0, 16, 20, .ref xf), (r0, 16, 21, .ref xt), (r0, 16, 27, .ref xp)] [(zm, 117, 3100, ca 1, ms), (xh, 118, 3100, ca 1, mh), (xn, 119, 3100, ca 1, mx), (xf, 120, 3100, ca 1, mf), (xt, 121, 3100, ca 1, mt), (xp, 127, 3300, ca 1, mp)] [] H_5 locs_5 := ((hh_3.call hb_51 hb_52 hb_53 hb_54 hS_5 rfl (L1 := [(r0, 16, 17, .ref zm), (r0, 16, 18, .ref xh), (r0, 16, 19, .ref xn), (r0, 16, 20, .ref xf), (r0, 16, 21, .ref xt), (r0, 16, 27, .ref xp)]) [0, 1, 2, 3, 4, 5] rfl rfl (M1 := [(zm, 117, 3100, ca 1, ms), (xh, 118, 3100, ca 1, mh), (xn, 119, 3100, ca 1, mx), (xf, 120, 3100, ca 1, mf), (xt, 121, 3100, ca 1, mt), (xp, 127, 3300, ca 1, mp)]) [0, 1, 2, 3, 4, 5] rfl rfl (I1 := []) [] rfl rfl).more hb_55)
  clear hh_3 ht_5 hvm_5 hz_5 hk_5 hS_5 hb_51 hb_52 hb_53 hb_54 hb_55
  obtain ⟨hr_6b, hr_6p⟩ := hr_6
  obtain ⟨hr_6p_0, hr_6p_1, hr_6p_2⟩ := hr_6p
  have hr_6' := jb_01 hr_6b
  refine lv_if_eq (tgt := 56) hx hb dX14_isPosition_23 (by decide) (fun c_7 => ?_) (fun c_7 => ?_)
  · skip
    have c_7' : r_6.toInt = 0 := jb_eq (rfl) ((by decide)) c_7
    refine lv_iconst (v := 0) hx hb dX14_isPosition_56 (by decide) ?_
    rw [hQ]
    exact W.zret (v := 0) hx hb hr (jb_nz (Or.inl rfl)) (fun t ht hW => ⟨⟨0, (), rfl, ⟨(Or.inl rfl), by refine ⟨by omega, by omega, fun h9 => ?_⟩; omega⟩, hh_5.rt (M1 := []) [] rfl ht⟩, by rw [ht]; try exact hh_5.1.1, fun q h9 hq => by rw [ht]; try exact hh_5.1.2.1 q h9 hq⟩) hh_5.1.2.2 dX14_isPosition_57
  · skip
    have c_7' : r_6.toInt ≠ 0 := jb_eq_n (rfl) ((by decide)) c_7
    refine lv_aload_n hx hb dX14_isPosition_26 rfl (lv_at hl 2 rfl) ?_
    refine lv_iload_n hx hb dX14_isPosition_27 rfl (lv_at hl 0 rfl) ?_
    refine va_calli (A0 := jA base) (H0 := s.heap) (va_runV (As := [.int r_4]) (rest := []) ⟨hx, hb, hml, hown, hts⟩ (uX14_isWholeK l dC dI ca base B hB hAp hB16 hB117 hB124 G0 H_5 r0 r_4 zm ms) (cwV 1 hts (jgV (jWr_56 _ (List.mem_of_getElem? (i := 11) rfl)) (jWr_56 _ (List.mem_of_getElem? (i := 12) rfl)) (jWr_56 _ (List.mem_of_getElem? (i := 13) rfl)) (jWr_1 _ (List.mem_of_getElem? (i := 5) rfl)) (jWr_56 _ (List.mem_of_getElem? (i := 14) rfl))) rfl rfl rfl (by decide +kernel) ⟨by rw [← hR]; exact Nat.le_of_ble_eq_true rfl, by rw [← hR]; exact Nat.le_of_ble_eq_true rfl⟩) ⟨fun a U g mk q => by obtain ⟨q0, q1, q2, qK, q10, q11, q12, q13, q14⟩ := q; exact ⟨q0, q1, q2, jG.calling g mk a qK, q10, q11, q12, q13, q14⟩, hh_5.recv (C := RX14) (T := TX14) (N := 74) hB16 rfl (by decide) hg_r0 hK, fun U hU hW => ⟨rfl, hU, hh_5.2.1, hG.step hW hU hh_5.1, hg_r0, hg_zm, (hh_5.2.2.1.sub (L1 := [(r0, 16, 17, .ref zm)]) [0] rfl), (hh_5.2.2.2.2.2.2.2.1.sub (L1 := [(zm, 117, 3100, ca 1, ms)]) [0] rfl), by first | omega | rfl | assumption | decide | exact Or.inl rfl | exact Or.inr rfl | (simp only; omega)⟩⟩ rfl rfl hl.1 rfl (lv_room (Nat.le_of_ble_eq_true rfl)) dX14_isPosition_28 ⟨Nat.zero_le _, Nat.zero_le _⟩) hh_5.1 (fun q _ h => h) (fun q h => h) (fun r_9 u_8 t_8 H_8 locs_8 ht_8 hvm_8 hr_9 hb_8 hz_8 hk_8 hS_8 => ?_)
    rw [ht_8] at hb_8
    obtain ⟨hb_81, hb_82, hb_83, hb_84, hb_85⟩ := hb_8
    have hh_8 : jSt (dC, dI) B base G0 G0 EX14_isPositionN s.heap 0 0 [(r0, 16, 17, .ref zm), (r0, 16, 18, .ref xh), (r0, 16, 19, .ref xn), (r0, 16, 20, .ref xf), (r0, 16, 21, .ref xt), (r0, 16, 27, .ref xp)] [(zm, 117, 3100, ca 1, ms), (xh, 118, 3100, ca 1, mh), (xn, 119, 3100, ca 1, mx), (xf, 120, 3100, ca 1, mf), (xt, 121, 3100, ca 1, mt), (xp, 127, 3300, ca 1, mp)] [] H_8 locs_8 := ((hh_5.call hb_81 hb_82 hb_83 hb_84 hS_8 rfl (L1 := [(r0, 16, 17, .ref zm), (r0, 16, 18, .ref xh), (r0, 16, 19, .ref xn), (r0, 16, 20, .ref xf), (r0, 16, 21, .ref xt), (r0, 16, 27, .ref xp)]) [0, 1, 2, 3, 4, 5] rfl rfl (M1 := [(zm, 117, 3100, ca 1, ms), (xh, 118, 3100, ca 1, mh), (xn, 119, 3100, ca 1, mx), (xf, 120, 3100, ca 1, mf), (xt, 121, 3100, ca 1, mt), (xp, 127, 3300, ca 1, mp)]) [0, 1, 2, 3, 4, 5] rfl rfl (I1 := []) [] rfl rfl).more hb_85)
    clear hh_5 ht_8 hvm_8 hz_8 hk_8 hS_8 hb_81 hb_82 hb_83 hb_84 hb_85
    obtain ⟨hr_9b, hr_9p⟩ := hr_9
    obtain ⟨hr_9p_0, hr_9p_1, hr_9p_2⟩ := hr_9p
    have hr_9' := jb_01 hr_9b
    refine lv_if_eq (tgt := 56) hx hb dX14_isPosition_31 (by decide) (fun c_10 => ?_) (fun c_10 => ?_)
    · skip
      have c_10' : r_9.toInt = 0 := jb_eq (rfl) ((by decide)) c_10
      refine lv_iconst (v := 0) hx hb dX14_isPosition_56 (by decide) ?_
      rw [hQ]
      exact W.zret (v := 0) hx hb hr (jb_nz (Or.inl rfl)) (fun t ht hW => ⟨⟨0, (), rfl, ⟨(Or.inl rfl), by refine ⟨by omega, by omega, fun h9 => ?_⟩; omega⟩, hh_8.rt (M1 := []) [] rfl ht⟩, by rw [ht]; try exact hh_8.1.1, fun q h9 hq => by rw [ht]; try exact hh_8.1.2.1 q h9 hq⟩) hh_8.1.2.2 dX14_isPosition_57
    · skip
      have c_10' : r_9.toInt ≠ 0 := jb_eq_n (rfl) ((by decide)) c_10
      refine lv_aload_n hx hb dX14_isPosition_34 rfl (lv_at hl 2 rfl) ?_
      obtain ⟨v_11, hv_11, hh_12⟩ := hh_8.pin (C := RX14) (T := TX14) (N := 74) hB16 rfl (by decide) hg_r0 (i := 25) (by decide) rfl
      clear hh_8
      obtain ⟨ints_13, rfl, hg_ints_13⟩ := hv_11
      refine j7_read hx hb hown hK (C := RX14) (T := TX14) (N := 74) rfl hly_16_25 hlk_62 (hh_12.at 0 rfl) dX14_isPosition_35 ?_
      refine lv_iload_n hx hb dX14_isPosition_38 rfl (lv_at hl 1 rfl) ?_
      refine j7_iald hx hb hK hh_12 hB125 1 rfl (by decide) hg_ints_13 (x := r_2.toInt) (rfl) (by omega) dX14_isPosition_39 (fun z_14 (hz_14 : True) => ?_)
      refine lv_if_lt (tgt := 56) hx hb dX14_isPosition_40 (by decide) (fun c_15 => ?_) (fun c_15 => ?_)
      · skip
        have c_15' : z_14.toInt < 0 := jb_lt (rfl) ((by decide)) c_15
        refine lv_iconst (v := 0) hx hb dX14_isPosition_56 (by decide) ?_
        rw [hQ]
        exact W.zret (v := 0) hx hb hr (jb_nz (Or.inl rfl)) (fun t ht hW => ⟨⟨0, (), rfl, ⟨(Or.inl rfl), by refine ⟨by omega, by omega, fun h9 => ?_⟩; omega⟩, hh_12.rt (M1 := []) [] rfl ht⟩, by rw [ht]; try exact hh_12.1.1, fun q h9 hq => by rw [ht]; try exact hh_12.1.2.1 q h9 hq⟩) hh_12.1.2.2 dX14_isPosition_57
      · skip
        have c_15' : z_14.toInt ≥ 0 := jb_lt_n (rfl) ((by decide)) c_15
        refine lv_aload_n hx hb dX14_isPosition_43 rfl (lv_at hl 2 rfl) ?_
        refine j7_read hx hb hown hK (C := RX14) (T := TX14) (N := 74) rfl hly_16_25 hlk_62 (hh_12.at 0 rfl) dX14_isPosition_44 ?_
        refine lv_iload_n hx hb dX14_isPosition_47 rfl (lv_at hl 0 rfl) ?_
        refine j7_iald hx hb hK hh_12 hB125 1 rfl (by decide) hg_ints_13 (x := r_4.toInt) (rfl) (by omega) dX14_isPosition_48 (fun z_16 (hz_16 : True) => ?_)
        refine lv_if_lt (tgt := 56) hx hb dX14_isPosition_49 (by decide) (fun c_17 => ?_) (fun c_17 => ?_)
        · skip
          have c_17' : z_16.toInt < 0 := jb_lt (rfl) ((by decide)) c_17
          refine lv_iconst (v := 0) hx hb dX14_isPosition_56 (by decide) ?_
          rw [hQ]
          exact W.zret (v := 0) hx hb hr (jb_nz (Or.inl rfl)) (fun t ht hW => ⟨⟨0, (), rfl, ⟨(Or.inl rfl), by refine ⟨by omega, by omega, fun h9 => ?_⟩; omega⟩, hh_12.rt (M1 := []) [] rfl ht⟩, by rw [ht]; try exact hh_12.1.1, fun q h9 hq => by rw [ht]; try exact hh_12.1.2.1 q h9 hq⟩) hh_12.1.2.2 dX14_isPosition_57
        · skip
          have c_17' : z_16.toInt ≥ 0 := jb_lt_n (rfl) ((by decide)) c_17
          refine lv_iconst (v := 1) hx hb dX14_isPosition_52 (by decide) ?_
          refine lv_goto (tgt := 57) hx hb dX14_isPosition_53 (by decide) ?_
          rw [hQ]
          exact W.zret (v := 1) hx hb hr (jb_nz (Or.inr rfl)) (fun t ht hW => ⟨⟨1, (), rfl, ⟨(Or.inr rfl), by refine ⟨by omega, by omega, fun _ => ⟨?_, ?_⟩⟩; (have h8 := (hr_6p_2 (by omega)).1; omega); (have h8 := (hr_9p_2 (by omega)).1; omega)⟩, hh_12.rt (M1 := []) [] rfl ht⟩, by rw [ht]; try exact hh_12.1.1, fun q h9 hq => by rw [ht]; try exact hh_12.1.2.1 q h9 hq⟩) hh_12.1.2.2 dX14_isPosition_57
set_option maxHeartbeats 4000000 in
set_option maxRecDepth 20000 in
theorem uX14_isChangeN (l : Launch) (dC : Nat → ClassId) (dI : Nat → Nat → Nat) (ca : Nat → ClassId) (base : Nat) (B : jF) (hB : jBok B) (hAp : jAp (dC, dI)) (hB16 : ∀ n G a H, B 16 n G a H ↔ jOb (dC, dI) 16 74 (F16 n G) a H) (hB117 : ∀ n G a H, B 117 n G a H ↔ jAr (dC, dI) (ca 1) (fun j z => True) n a H) (hB118 : ∀ n G a H, B 118 n G a H ↔ jAr (dC, dI) (ca 1) (fun j z => -1 ≤ z.toInt ∧ z.toInt ≤ 3099) n a H) (hB119 : ∀ n G a H, B 119 n G a H ↔ jAr (dC, dI) (ca 1) (fun j z => z.toInt = -1 ∨ z.toInt = 0 ∨ ((j : Nat) < z.toInt ∧ z.toInt ≤ 3099)) n a H) (hB120 : ∀ n G a H, B 120 n G a H ↔ jAr (dC, dI) (ca 1) (fun j z => 0 ≤ z.toInt ∧ z.toInt ≤ 3300) n a H) (hB121 : ∀ n G a H, B 121 n G a H ↔ jAr (dC, dI) (ca 1) (fun j z => 0 ≤ z.toInt ∧ z.toInt ≤ 3300) n a H) (hB124 : ∀ n G a H, B 124 n G a H ↔ jAr (dC, dI) (ca 3) (fun j z => (z = 0 ∨ z = 1)) n a H) (hB125 : ∀ n G a H, B 125 n G a H ↔ jAr (dC, dI) (ca 1) (fun j z => True) n a H) (hB127 : ∀ n G a H, B 127 n G a H ↔ jAr (dC, dI) (ca 1) (fun j z => True) n a H) (G0 : jT) (H0 : Heap) (r0 : Nat) (a1 : Int32) (zm : Nat) (xh : Nat) (xn : Nat) (xf : Nat) (xt : Nat) (xp : Nat) (ms : Nat → Int32) (mh : Nat → Int32) (mx : Nat → Int32) (mf : Nat → Int32) (mt : Nat → Int32) (mp : Nat → Int32) : Met l yX14_isChange (jw yX14_isChange cX14_isChange 3 (some .boolean)) ({ frames := 7, cells := 0, slots := 0, locals := 212 }) (va_Pc [.ref r0, .int a1] (fun U => U.heap = H0 ∧ jX B base G0 [] H0 ∧ jG dC dI ca base U ∧ G0 r0 = some (16, 0) ∧ G0 zm = some (117, 3100) ∧ G0 xh = some (118, 3100) ∧ G0 xn = some (119, 3100) ∧ G0 xf = some (120, 3100) ∧ G0 xt = some (121, 3100) ∧ G0 xp = some (127, 3300) ∧ jP (dC, dI) G0 H0 [(r0, 16, 17, .ref zm), (r0, 16, 18, .ref xh), (r0, 16, 19, .ref xn), (r0, 16, 20, .ref xf), (r0, 16, 21, .ref xt), (r0, 16, 27, .ref xp)] ∧ jMc (dC, dI) G0 H0 [(zm, 117, 3100, ca 1, ms), (xh, 118, 3100, ca 1, mh), (xn, 119, 3100, ca 1, mx), (xf, 120, 3100, ca 1, mf), (xt, 121, 3100, ca 1, mt), (xp, 127, 3300, ca 1, mp)] ∧ 0 ≤ a1.toInt ∧ a1.toInt ≤ 3099 ∧ jSo mx 0 = -1)) (va_Qi (S := Unit) (fun r u => (r = 0 ∨ r = 1) ∧ (0 ≤ r.toInt ∧ r.toInt ≤ 1 ∧ (r.toInt = 1 → jChg ms mh mf mt mx mp a1.toInt))) (fun u t => jRt (dC, dI) B base G0 EX14_isChangeN H0 [] t.heap) (jA base)) 0 0 (jA base) := by
  refine Met.ofW (cc := cX14_isChange) (maxL := 3) (ret := (some .boolean)) (by decide) rfl ?_
  intro p e s m args below meth c s₁ Bd hml hv
  obtain ⟨rfl, hH0, hX, hG, hg_r0, hg_zm, hg_xh, hg_xn, hg_xf, hg_xt, hg_xp, hP0, hM0, hp0, hp1, hp2⟩ := hv
  have hK := hG.1
  have hx := Bd.exec
  have hb := Bd.bytes
  have hr := Bd.returns
  have hts := atoms_spec (ws := (jw yX14_isChange cX14_isChange 3 (some .boolean))) Bd.pre
  have htw : ∀ w ∈ jWl, w.before _ s = true := fun w h => hts w (List.mem_cons_of_mem _ h)
  have hown : s.vm.findClass RX14 = some m.cls := findClass_of_methodNamed Bd.named
  have hlocks := Bd.notSynchronized
  obtain ⟨Q, hQ⟩ : ∃ Q, Q = MQ below (va_Qi (S := Unit) (fun r u => (r = 0 ∨ r = 1) ∧ (0 ≤ r.toInt ∧ r.toInt ≤ 1 ∧ (r.toInt = 1 → jChg ms mh mf mt mx mp a1.toInt))) (fun u t => jRt (dC, dI) B base G0 EX14_isChangeN H0 [] t.heap) (jA base)) ([.ref r0, .int a1] : List Value).toArray s 0 0 (jA base) := ⟨_, rfl⟩
  rw [← hQ]
  have hl := lv_entry ([.ref r0, .int a1]) (n := 3) (Nat.le_of_ble_eq_true rfl)
  rw [lg_entry_eq]
  generalize (lg_sl ([.ref r0, .int a1]) ++ List.replicate (3 - (lg_sl ([.ref r0, .int a1])).length) Slot.unset).toArray = ls at hl ⊢
  have hl : lv_has ls 3 [(0, .ref r0), (1, .int a1)] := hl
  generalize hR : (headSpec (jw yX14_isChange cX14_isChange 3 (some .boolean)) ({ frames := 7, cells := 0, slots := 0, locals := 212 })).room = R
  subst hH0
  have hh : jSt (dC, dI) B base G0 G0 EX14_isChangeN s.heap 0 0 [(r0, 16, 17, .ref zm), (r0, 16, 18, .ref xh), (r0, 16, 19, .ref xn), (r0, 16, 20, .ref xf), (r0, 16, 21, .ref xt), (r0, 16, 27, .ref xp)] [(zm, 117, 3100, ca 1, ms), (xh, 118, 3100, ca 1, mh), (xn, 119, 3100, ca 1, mx), (xf, 120, 3100, ca 1, mf), (xt, 121, 3100, ca 1, mt), (xp, 127, 3300, ca 1, mp)] [] s.heap [] := jSt.start hX hP0 hM0 jIs.nil
  clear hX hP0
  have hk0 : (0 : Int32).toInt = 0 := by decide
  have hk1 : (1 : Int32).toInt = 1 := by decide
  have hk6 : (6 : Int32).toInt = 6 := by decide
  have hly_16_17 := htw (u_lay RX14 TX14 17) (jWc_wsX140 _ (u_in_lay (by decide)))
  have hlk_37 := (htw (.fieldLink RX14 37 "ProofServerModel" "sort" "[I") (jWr_11 _ (List.mem_of_getElem? (i := 4) rfl)))
  obtain ⟨str519, rstr519, hstr5190⟩ := hG.strT (o := RX14) (k := 519) (tx := "text") (List.mem_of_getElem? (i := 2489) (by decide +kernel))
  have hTstr519 : jStrF base str519 4 (jChT "text") s s.heap := hstr5190.F (by decide +kernel)
  have hstr519 : jStr base str519 4 s s.heap := hTstr519.str
  obtain ⟨str548, rstr548, hstr5480⟩ := hG.strT (o := RX14) (k := 548) (tx := "range") (List.mem_of_getElem? (i := 2889) (by decide +kernel))
  have hTstr548 : jStrF base str548 5 (jChT "range") s s.heap := hstr5480.F (by decide +kernel)
  have hstr548 : jStr base str548 5 s s.heap := hTstr548.str
  obtain ⟨str553, rstr553, hstr5530⟩ := hG.strT (o := RX14) (k := 553) (tx := "start") (List.mem_of_getElem? (i := 2890) (by decide +kernel))
  have hTstr553 : jStrF base str553 5 (jChT "start") s s.heap := hstr5530.F (by decide +kernel)
  have hstr553 : jStr base str553 5 s s.heap := hTstr553.str
  obtain ⟨str555, rstr555, hstr5550⟩ := hG.strT (o := RX14) (k := 555) (tx := "end") (List.mem_of_getElem? (i := 2897) (by decide +kernel))
  have hTstr555 : jStrF base str555 3 (jChT "end") s s.heap := hstr5550.F (by decide +kernel)
  have hstr555 : jStr base str555 3 s s.heap := hTstr555.str
  have hrg_a1 := jb_rng a1
  refine lv_aload_n hx hb dX14_isChange_0 rfl (lv_at hl 0 rfl) ?_
  refine j7_read hx hb hown hK (C := RX14) (T := TX14) (N := 74) rfl hly_16_17 hlk_37 (hh.at 0 rfl) dX14_isChange_1 ?_
  refine lv_iload_n hx hb dX14_isChange_4 rfl (lv_at hl 1 rfl) ?_
  refine j7_ialdM hx hb hK hh hB117 1 rfl (by decide) hg_zm (x := a1.toInt) (rfl) (by omega) (j := 0) rfl dX14_isChange_5 (fun z_1 ez_1 (hz_1 : True) => ?_)
  have hqz_1 : z_1.toInt = jSo ms (a1.toInt) := by unfold jSo; rw [ez_1]
  refine lv_bipush (v := 6) hx hb dX14_isChange_6 (by decide) ?_
  refine lv_icmp_ne (tgt := 26) hx hb dX14_isChange_8 (by decide) (fun c_2 => ?_) (fun c_2 => ?_)
  · skip
    have c_2' : z_1.toInt ≠ 6 := jb_ne (rfl) ((by decide)) c_2
    refine lv_iconst (v := 0) hx hb dX14_isChange_26 (by decide) ?_
    rw [hQ]
    exact W.zret (v := 0) hx hb hr (jb_nz (Or.inl rfl)) (fun t ht hW => ⟨⟨0, (), rfl, ⟨(Or.inl rfl), by refine ⟨by omega, by omega, fun h9 => ?_⟩; omega⟩, hh.rt (M1 := []) [] rfl ht⟩, by rw [ht]; try exact hh.1.1, fun q h9 hq => by rw [ht]; try exact hh.1.2.1 q h9 hq⟩) hh.1.2.2 dX14_isChange_27
  · skip
    have c_2' : z_1.toInt = 6 := jb_ne_n (rfl) ((by decide)) c_2
    refine lv_aload_n hx hb dX14_isChange_11 rfl (lv_at hl 0 rfl) ?_
    refine lv_aload_n hx hb dX14_isChange_12 rfl (lv_at hl 0 rfl) ?_
    refine lv_iload_n hx hb dX14_isChange_13 rfl (lv_at hl 1 rfl) ?_
    refine j_ldcSw hx hb hown rstr519 dX14_isChange_14 ?_
    refine va_calli (A0 := jA base) (H0 := s.heap) (va_runV (As := [.int a1, .ref str519]) (rest := [.ref r0]) ⟨hx, hb, hml, hown, hts⟩ (uX14_memberKN l dC dI ca base B hB hAp hB16 hB117 hB118 hB119 hB120 hB121 hB127 G0 s.heap r0 a1 str519 4 (jChT "text") zm xh xn xf xt xp ms mh mx mf mt mp) (cwV 2 hts (jgV (jWr_55 _ (List.mem_of_getElem? (i := 15) rfl)) (jWr_55 _ (List.mem_of_getElem? (i := 16) rfl)) (jWr_55 _ (List.mem_of_getElem? (i := 17) rfl)) (jWr_1 _ (List.mem_of_getElem? (i := 5) rfl)) (jWr_55 _ (List.mem_of_getElem? (i := 18) rfl))) rfl rfl rfl (by decide +kernel) ⟨by rw [← hR]; exact Nat.le_of_ble_eq_true rfl, by rw [← hR]; exact Nat.le_of_ble_eq_true rfl⟩) ⟨fun a U g mk q => by obtain ⟨q0, q1, q2, qK, q10, q11, q12, q13, q14, q15, q16, q17, q18, q19, q20⟩ := q; exact ⟨q0, q1, q2, jG.calling g mk a qK, (q10.moved (Vm.Alike.refl U.vm)), q11, q12, q13, q14, q15, q16, q17, q18, q19, q20⟩, hh.recv (C := RX14) (T := TX14) (N := 74) hB16 rfl (by decide) hg_r0 hK, fun U hU hW => ⟨rfl, hU, hh.2.1, hG.step hW hU hh.1, (hTstr519.moved hW.alike).kept hh.1.2.1, hg_r0, hg_zm, hg_xh, hg_xn, hg_xf, hg_xt, hg_xp, (hh.2.2.1.sub (L1 := [(r0, 16, 17, .ref zm), (r0, 16, 18, .ref xh), (r0, 16, 19, .ref xn), (r0, 16, 20, .ref xf), (r0, 16, 21, .ref xt), (r0, 16, 27, .ref xp)]) [0, 1, 2, 3, 4, 5] rfl), (hh.2.2.2.2.2.2.2.1.sub (L1 := [(zm, 117, 3100, ca 1, ms), (xh, 118, 3100, ca 1, mh), (xn, 119, 3100, ca 1, mx), (xf, 120, 3100, ca 1, mf), (xt, 121, 3100, ca 1, mt), (xp, 127, 3300, ca 1, mp)]) [0, 1, 2, 3, 4, 5] rfl), by first | omega | (refine ⟨?_, ?_, ?_⟩ <;> (first | omega | rfl | assumption | decide | exact Or.inl rfl | exact Or.inr rfl | (simp only; omega)))⟩⟩ rfl rfl hl.1 rfl (lv_room (Nat.le_of_ble_eq_true rfl)) dX14_isChange_17 ⟨Nat.zero_le _, Nat.zero_le _⟩) hh.1 (fun q _ h => h) (fun q h => h) (fun r_4 u_3 t_3 H_3 locs_3 ht_3 hvm_3 hr_4 hb_3 hz_3 hk_3 hS_3 => ?_)
    rw [ht_3] at hb_3
    obtain ⟨hb_31, hb_32, hb_33, hb_34, hb_35⟩ := hb_3
    have hh_3 : jSt (dC, dI) B base G0 G0 EX14_isChangeN s.heap 0 0 [(r0, 16, 17, .ref zm), (r0, 16, 18, .ref xh), (r0, 16, 19, .ref xn), (r0, 16, 20, .ref xf), (r0, 16, 21, .ref xt), (r0, 16, 27, .ref xp)] [(zm, 117, 3100, ca 1, ms), (xh, 118, 3100, ca 1, mh), (xn, 119, 3100, ca 1, mx), (xf, 120, 3100, ca 1, mf), (xt, 121, 3100, ca 1, mt), (xp, 127, 3300, ca 1, mp)] [] H_3 locs_3 := ((hh.call hb_31 hb_32 hb_33 hb_34 hS_3 rfl (L1 := [(r0, 16, 17, .ref zm), (r0, 16, 18, .ref xh), (r0, 16, 19, .ref xn), (r0, 16, 20, .ref xf), (r0, 16, 21, .ref xt), (r0, 16, 27, .ref xp)]) [0, 1, 2, 3, 4, 5] rfl rfl (M1 := [(zm, 117, 3100, ca 1, ms), (xh, 118, 3100, ca 1, mh), (xn, 119, 3100, ca 1, mx), (xf, 120, 3100, ca 1, mf), (xt, 121, 3100, ca 1, mt), (xp, 127, 3300, ca 1, mp)]) [0, 1, 2, 3, 4, 5] rfl rfl (I1 := []) [] rfl rfl).more hb_35)
    clear hh ht_3 hvm_3 hz_3 hk_3 hS_3 hb_31 hb_32 hb_33 hb_34 hb_35
    obtain ⟨hr_4_0, hr_4_1, hr_4_2⟩ := hr_4
    refine va_calli (A0 := jA base) (H0 := s.heap) (va_runV (As := [.int r_4]) (rest := []) ⟨hx, hb, hml, hown, hts⟩ (uX14_isStringK l dC dI ca base B hB hAp hB16 hB117 G0 H_3 r0 r_4 zm ms) (cwV 1 hts (jgV (jWr_56 _ (List.mem_of_getElem? (i := 3) rfl)) (jWr_56 _ (List.mem_of_getElem? (i := 4) rfl)) (jWr_56 _ (List.mem_of_getElem? (i := 5) rfl)) (jWr_1 _ (List.mem_of_getElem? (i := 5) rfl)) (jWr_56 _ (List.mem_of_getElem? (i := 6) rfl))) rfl rfl rfl (by decide +kernel) ⟨by rw [← hR]; exact Nat.le_of_ble_eq_true rfl, by rw [← hR]; exact Nat.le_of_ble_eq_true rfl⟩) ⟨fun a U g mk q => by obtain ⟨q0, q1, q2, qK, q10, q11, q12, q13, q14⟩ := q; exact ⟨q0, q1, q2, jG.calling g mk a qK, q10, q11, q12, q13, q14⟩, hh_3.recv (C := RX14) (T := TX14) (N := 74) hB16 rfl (by decide) hg_r0 hK, fun U hU hW => ⟨rfl, hU, hh_3.2.1, hG.step hW hU hh_3.1, hg_r0, hg_zm, (hh_3.2.2.1.sub (L1 := [(r0, 16, 17, .ref zm)]) [0] rfl), (hh_3.2.2.2.2.2.2.2.1.sub (L1 := [(zm, 117, 3100, ca 1, ms)]) [0] rfl), by first | omega | rfl | assumption | decide | exact Or.inl rfl | exact Or.inr rfl | (simp only; omega)⟩⟩ rfl rfl hl.1 rfl (lv_room (Nat.le_of_ble_eq_true rfl)) dX14_isChange_20 ⟨Nat.zero_le _, Nat.zero_le _⟩) hh_3.1 (fun q _ h => h) (fun q h => h) (fun r_6 u_5 t_5 H_5 locs_5 ht_5 hvm_5 hr_6 hb_5 hz_5 hk_5 hS_5 => ?_)
    rw [ht_5] at hb_5
    obtain ⟨hb_51, hb_52, hb_53, hb_54, hb_55⟩ := hb_5
    have hh_5 : jSt (dC, dI) B base G0 G0 EX14_isChangeN s.heap 0 0 [(r0, 16, 17, .ref zm), (r0, 16, 18, .ref xh), (r0, 16, 19, .ref xn), (r0, 16, 20, .ref xf), (r0, 16, 21, .ref xt), (r0, 16, 27, .ref xp)] [(zm, 117, 3100, ca 1, ms), (xh, 118, 3100, ca 1, mh), (xn, 119, 3100, ca 1, mx), (xf, 120, 3100, ca 1, mf), (xt, 121, 3100, ca 1, mt), (xp, 127, 3300, ca 1, mp)] [] H_5 locs_5 := ((hh_3.call hb_51 hb_52 hb_53 hb_54 hS_5 rfl (L1 := [(r0, 16, 17, .ref zm), (r0, 16, 18, .ref xh), (r0, 16, 19, .ref xn), (r0, 16, 20, .ref xf), (r0, 16, 21, .ref xt), (r0, 16, 27, .ref xp)]) [0, 1, 2, 3, 4, 5] rfl rfl (M1 := [(zm, 117, 3100, ca 1, ms), (xh, 118, 3100, ca 1, mh), (xn, 119, 3100, ca 1, mx), (xf, 120, 3100, ca 1, mf), (xt, 121, 3100, ca 1, mt), (xp, 127, 3300, ca 1, mp)]) [0, 1, 2, 3, 4, 5] rfl rfl (I1 := []) [] rfl rfl).more hb_55)
    clear hh_3 ht_5 hvm_5 hz_5 hk_5 hS_5 hb_51 hb_52 hb_53 hb_54 hb_55
    obtain ⟨hr_6b, hr_6p⟩ := hr_6
    obtain ⟨hr_6p_0, hr_6p_1, hr_6p_2⟩ := hr_6p
    have hr_6' := jb_01 hr_6b
    refine lv_if_ne (tgt := 28) hx hb dX14_isChange_23 (by decide) (fun c_7 => ?_) (fun c_7 => ?_)
    · skip
      have c_7' : r_6.toInt ≠ 0 := jb_ne (rfl) ((by decide)) c_7
      refine lv_aload_n hx hb dX14_isChange_28 rfl (lv_at hl 0 rfl) ?_
      refine lv_iload_n hx hb dX14_isChange_29 rfl (lv_at hl 1 rfl) ?_
      refine j_ldcSw hx hb hown rstr548 dX14_isChange_30 ?_
      refine va_calli (A0 := jA base) (H0 := s.heap) (va_runV (As := [.int a1, .ref str548]) (rest := []) ⟨hx, hb, hml, hown, hts⟩ (uX14_memberKN l dC dI ca base B hB hAp hB16 hB117 hB118 hB119 hB120 hB121 hB127 G0 H_5 r0 a1 str548 5 (jChT "range") zm xh xn xf xt xp ms mh mx mf mt mp) (cwV 2 hts (jgV (jWr_55 _ (List.mem_of_getElem? (i := 15) rfl)) (jWr_55 _ (List.mem_of_getElem? (i := 16) rfl)) (jWr_55 _ (List.mem_of_getElem? (i := 17) rfl)) (jWr_1 _ (List.mem_of_getElem? (i := 5) rfl)) (jWr_55 _ (List.mem_of_getElem? (i := 18) rfl))) rfl rfl rfl (by decide +kernel) ⟨by rw [← hR]; exact Nat.le_of_ble_eq_true rfl, by rw [← hR]; exact Nat.le_of_ble_eq_true rfl⟩) ⟨fun a U g mk q => by obtain ⟨q0, q1, q2, qK, q10, q11, q12, q13, q14, q15, q16, q17, q18, q19, q20⟩ := q; exact ⟨q0, q1, q2, jG.calling g mk a qK, (q10.moved (Vm.Alike.refl U.vm)), q11, q12, q13, q14, q15, q16, q17, q18, q19, q20⟩, hh_5.recv (C := RX14) (T := TX14) (N := 74) hB16 rfl (by decide) hg_r0 hK, fun U hU hW => ⟨rfl, hU, hh_5.2.1, hG.step hW hU hh_5.1, (hTstr548.moved hW.alike).kept hh_5.1.2.1, hg_r0, hg_zm, hg_xh, hg_xn, hg_xf, hg_xt, hg_xp, (hh_5.2.2.1.sub (L1 := [(r0, 16, 17, .ref zm), (r0, 16, 18, .ref xh), (r0, 16, 19, .ref xn), (r0, 16, 20, .ref xf), (r0, 16, 21, .ref xt), (r0, 16, 27, .ref xp)]) [0, 1, 2, 3, 4, 5] rfl), (hh_5.2.2.2.2.2.2.2.1.sub (L1 := [(zm, 117, 3100, ca 1, ms), (xh, 118, 3100, ca 1, mh), (xn, 119, 3100, ca 1, mx), (xf, 120, 3100, ca 1, mf), (xt, 121, 3100, ca 1, mt), (xp, 127, 3300, ca 1, mp)]) [0, 1, 2, 3, 4, 5] rfl), by first | omega | (refine ⟨?_, ?_, ?_⟩ <;> (first | omega | rfl | assumption | decide | exact Or.inl rfl | exact Or.inr rfl | (simp only; omega)))⟩⟩ rfl rfl hl.1 rfl (lv_room (Nat.le_of_ble_eq_true rfl)) dX14_isChange_33 ⟨Nat.zero_le _, Nat.zero_le _⟩) hh_5.1 (fun q _ h => h) (fun q h => h) (fun r_9 u_8 t_8 H_8 locs_8 ht_8 hvm_8 hr_9 hb_8 hz_8 hk_8 hS_8 => ?_)
      rw [ht_8] at hb_8
      obtain ⟨hb_81, hb_82, hb_83, hb_84, hb_85⟩ := hb_8
      have hh_8 : jSt (dC, dI) B base G0 G0 EX14_isChangeN s.heap 0 0 [(r0, 16, 17, .ref zm), (r0, 16, 18, .ref xh), (r0, 16, 19, .ref xn), (r0, 16, 20, .ref xf), (r0, 16, 21, .ref xt), (r0, 16, 27, .ref xp)] [(zm, 117, 3100, ca 1, ms), (xh, 118, 3100, ca 1, mh), (xn, 119, 3100, ca 1, mx), (xf, 120, 3100, ca 1, mf), (xt, 121, 3100, ca 1, mt), (xp, 127, 3300, ca 1, mp)] [] H_8 locs_8 := ((hh_5.call hb_81 hb_82 hb_83 hb_84 hS_8 rfl (L1 := [(r0, 16, 17, .ref zm), (r0, 16, 18, .ref xh), (r0, 16, 19, .ref xn), (r0, 16, 20, .ref xf), (r0, 16, 21, .ref xt), (r0, 16, 27, .ref xp)]) [0, 1, 2, 3, 4, 5] rfl rfl (M1 := [(zm, 117, 3100, ca 1, ms), (xh, 118, 3100, ca 1, mh), (xn, 119, 3100, ca 1, mx), (xf, 120, 3100, ca 1, mf), (xt, 121, 3100, ca 1, mt), (xp, 127, 3300, ca 1, mp)]) [0, 1, 2, 3, 4, 5] rfl rfl (I1 := []) [] rfl rfl).more hb_85)
      clear hh_5 ht_8 hvm_8 hz_8 hk_8 hS_8 hb_81 hb_82 hb_83 hb_84 hb_85
      obtain ⟨hr_9_0, hr_9_1, hr_9_2⟩ := hr_9
      refine lv_istore_n (lv' := [(2, .int r_9), (0, .ref r0), (1, .int a1)]) hx hb dX14_isChange_36 rfl hl (by decide) rfl (fun ls hl => ?_)
      refine lv_iload_n hx hb dX14_isChange_37 rfl (lv_at hl 0 rfl) ?_
      refine lv_if_lt (tgt := 71) hx hb dX14_isChange_38 (by decide) (fun c_10 => ?_) (fun c_10 => ?_)
      · skip
        have c_10' : r_9.toInt < 0 := jb_lt (rfl) ((by decide)) c_10
        refine lv_iconst (v := 1) hx hb dX14_isChange_71 (by decide) ?_
        refine lv_goto (tgt := 76) hx hb dX14_isChange_72 (by decide) ?_
        rw [hQ]
        exact W.zret (v := 1) hx hb hr (jb_nz (Or.inr rfl)) (fun t ht hW => ⟨⟨1, (), rfl, ⟨(Or.inr rfl), by refine ⟨by omega, by omega, fun _ => ⟨?_, ?_, fun h9 => (by omega : False).elim⟩⟩; (have h8 := (hr_6p_2 (by omega)).1; omega); (rw [← hr_4_0]; exact (hr_6p_2 (by omega)).2)⟩, hh_8.rt (M1 := []) [] rfl ht⟩, by rw [ht]; try exact hh_8.1.1, fun q h9 hq => by rw [ht]; try exact hh_8.1.2.1 q h9 hq⟩) hh_8.1.2.2 dX14_isChange_76
      · skip
        have c_10' : r_9.toInt ≥ 0 := jb_lt_n (rfl) ((by decide)) c_10
        refine lv_aload_n hx hb dX14_isChange_41 rfl (lv_at hl 1 rfl) ?_
        refine lv_aload_n hx hb dX14_isChange_42 rfl (lv_at hl 1 rfl) ?_
        refine lv_iload_n hx hb dX14_isChange_43 rfl (lv_at hl 0 rfl) ?_
        refine j_ldcSw hx hb hown rstr553 dX14_isChange_44 ?_
        refine va_calli (A0 := jA base) (H0 := s.heap) (va_runV (As := [.int r_9, .ref str553]) (rest := [.ref r0]) ⟨hx, hb, hml, hown, hts⟩ (uX14_memberKN l dC dI ca base B hB hAp hB16 hB117 hB118 hB119 hB120 hB121 hB127 G0 H_8 r0 r_9 str553 5 (jChT "start") zm xh xn xf xt xp ms mh mx mf mt mp) (cwV 2 hts (jgV (jWr_55 _ (List.mem_of_getElem? (i := 15) rfl)) (jWr_55 _ (List.mem_of_getElem? (i := 16) rfl)) (jWr_55 _ (List.mem_of_getElem? (i := 17) rfl)) (jWr_1 _ (List.mem_of_getElem? (i := 5) rfl)) (jWr_55 _ (List.mem_of_getElem? (i := 18) rfl))) rfl rfl rfl (by decide +kernel) ⟨by rw [← hR]; exact Nat.le_of_ble_eq_true rfl, by rw [← hR]; exact Nat.le_of_ble_eq_true rfl⟩) ⟨fun a U g mk q => by obtain ⟨q0, q1, q2, qK, q10, q11, q12, q13, q14, q15, q16, q17, q18, q19, q20⟩ := q; exact ⟨q0, q1, q2, jG.calling g mk a qK, (q10.moved (Vm.Alike.refl U.vm)), q11, q12, q13, q14, q15, q16, q17, q18, q19, q20⟩, hh_8.recv (C := RX14) (T := TX14) (N := 74) hB16 rfl (by decide) hg_r0 hK, fun U hU hW => ⟨rfl, hU, hh_8.2.1, hG.step hW hU hh_8.1, (hTstr553.moved hW.alike).kept hh_8.1.2.1, hg_r0, hg_zm, hg_xh, hg_xn, hg_xf, hg_xt, hg_xp, (hh_8.2.2.1.sub (L1 := [(r0, 16, 17, .ref zm), (r0, 16, 18, .ref xh), (r0, 16, 19, .ref xn), (r0, 16, 20, .ref xf), (r0, 16, 21, .ref xt), (r0, 16, 27, .ref xp)]) [0, 1, 2, 3, 4, 5] rfl), (hh_8.2.2.2.2.2.2.2.1.sub (L1 := [(zm, 117, 3100, ca 1, ms), (xh, 118, 3100, ca 1, mh), (xn, 119, 3100, ca 1, mx), (xf, 120, 3100, ca 1, mf), (xt, 121, 3100, ca 1, mt), (xp, 127, 3300, ca 1, mp)]) [0, 1, 2, 3, 4, 5] rfl), by first | omega | (refine ⟨?_, ?_, ?_⟩ <;> (first | omega | rfl | assumption | decide | exact Or.inl rfl | exact Or.inr rfl | (simp only; omega)))⟩⟩ rfl rfl hl.1 rfl (lv_room (Nat.le_of_ble_eq_true rfl)) dX14_isChange_47 ⟨Nat.zero_le _, Nat.zero_le _⟩) hh_8.1 (fun q _ h => h) (fun q h => h) (fun r_12 u_11 t_11 H_11 locs_11 ht_11 hvm_11 hr_12 hb_11 hz_11 hk_11 hS_11 => ?_)
        rw [ht_11] at hb_11
        obtain ⟨hb_111, hb_112, hb_113, hb_114, hb_115⟩ := hb_11
        have hh_11 : jSt (dC, dI) B base G0 G0 EX14_isChangeN s.heap 0 0 [(r0, 16, 17, .ref zm), (r0, 16, 18, .ref xh), (r0, 16, 19, .ref xn), (r0, 16, 20, .ref xf), (r0, 16, 21, .ref xt), (r0, 16, 27, .ref xp)] [(zm, 117, 3100, ca 1, ms), (xh, 118, 3100, ca 1, mh), (xn, 119, 3100, ca 1, mx), (xf, 120, 3100, ca 1, mf), (xt, 121, 3100, ca 1, mt), (xp, 127, 3300, ca 1, mp)] [] H_11 locs_11 := ((hh_8.call hb_111 hb_112 hb_113 hb_114 hS_11 rfl (L1 := [(r0, 16, 17, .ref zm), (r0, 16, 18, .ref xh), (r0, 16, 19, .ref xn), (r0, 16, 20, .ref xf), (r0, 16, 21, .ref xt), (r0, 16, 27, .ref xp)]) [0, 1, 2, 3, 4, 5] rfl rfl (M1 := [(zm, 117, 3100, ca 1, ms), (xh, 118, 3100, ca 1, mh), (xn, 119, 3100, ca 1, mx), (xf, 120, 3100, ca 1, mf), (xt, 121, 3100, ca 1, mt), (xp, 127, 3300, ca 1, mp)]) [0, 1, 2, 3, 4, 5] rfl rfl (I1 := []) [] rfl rfl).more hb_115)
        clear hh_8 ht_11 hvm_11 hz_11 hk_11 hS_11 hb_111 hb_112 hb_113 hb_114 hb_115
        obtain ⟨hr_12_0, hr_12_1, hr_12_2⟩ := hr_12
        refine va_calli (A0 := jA base) (H0 := s.heap) (va_runV (As := [.int r_12]) (rest := []) ⟨hx, hb, hml, hown, hts⟩ (uX14_isPositionN l dC dI ca base B hB hAp hB16 hB117 hB118 hB119 hB120 hB121 hB124 hB125 hB127 G0 H_11 r0 r_12 zm xh xn xf xt xp ms mh mx mf mt mp) (cwV 1 hts (jgV (jWr_73 _ (List.mem_of_getElem? (i := 3) rfl)) (jWr_73 _ (List.mem_of_getElem? (i := 4) rfl)) (jWr_73 _ (List.mem_of_getElem? (i := 5) rfl)) (jWr_1 _ (List.mem_of_getElem? (i := 5) rfl)) (jWr_73 _ (List.mem_of_getElem? (i := 6) rfl))) rfl rfl rfl (by decide +kernel) ⟨by rw [← hR]; exact Nat.le_of_ble_eq_true rfl, by rw [← hR]; exact Nat.le_of_ble_eq_true rfl⟩) ⟨fun a U g mk q => by obtain ⟨q0, q1, q2, qK, q10, q11, q12, q13, q14, q15, q16, q17, q18, q19⟩ := q; exact ⟨q0, q1, q2, jG.calling g mk a qK, q10, q11, q12, q13, q14, q15, q16, q17, q18, q19⟩, hh_11.recv (C := RX14) (T := TX14) (N := 74) hB16 rfl (by decide) hg_r0 hK, fun U hU hW => ⟨rfl, hU, hh_11.2.1, hG.step hW hU hh_11.1, hg_r0, hg_zm, hg_xh, hg_xn, hg_xf, hg_xt, hg_xp, (hh_11.2.2.1.sub (L1 := [(r0, 16, 17, .ref zm), (r0, 16, 18, .ref xh), (r0, 16, 19, .ref xn), (r0, 16, 20, .ref xf), (r0, 16, 21, .ref xt), (r0, 16, 27, .ref xp)]) [0, 1, 2, 3, 4, 5] rfl), (hh_11.2.2.2.2.2.2.2.1.sub (L1 := [(zm, 117, 3100, ca 1, ms), (xh, 118, 3100, ca 1, mh), (xn, 119, 3100, ca 1, mx), (xf, 120, 3100, ca 1, mf), (xt, 121, 3100, ca 1, mt), (xp, 127, 3300, ca 1, mp)]) [0, 1, 2, 3, 4, 5] rfl), by first | omega | (refine ⟨?_, ?_⟩ <;> (first | omega | rfl | assumption | decide | exact Or.inl rfl | exact Or.inr rfl | (simp only; omega)))⟩⟩ rfl rfl hl.1 rfl (lv_room (Nat.le_of_ble_eq_true rfl)) dX14_isChange_50 ⟨Nat.zero_le _, Nat.zero_le _⟩) hh_11.1 (fun q _ h => h) (fun q h => h) (fun r_14 u_13 t_13 H_13 locs_13 ht_13 hvm_13 hr_14 hb_13 hz_13 hk_13 hS_13 => ?_)
        rw [ht_13] at hb_13
        obtain ⟨hb_131, hb_132, hb_133, hb_134, hb_135⟩ := hb_13
        have hh_13 : jSt (dC, dI) B base G0 G0 EX14_isChangeN s.heap 0 0 [(r0, 16, 17, .ref zm), (r0, 16, 18, .ref xh), (r0, 16, 19, .ref xn), (r0, 16, 20, .ref xf), (r0, 16, 21, .ref xt), (r0, 16, 27, .ref xp)] [(zm, 117, 3100, ca 1, ms), (xh, 118, 3100, ca 1, mh), (xn, 119, 3100, ca 1, mx), (xf, 120, 3100, ca 1, mf), (xt, 121, 3100, ca 1, mt), (xp, 127, 3300, ca 1, mp)] [] H_13 locs_13 := ((hh_11.call hb_131 hb_132 hb_133 hb_134 hS_13 rfl (L1 := [(r0, 16, 17, .ref zm), (r0, 16, 18, .ref xh), (r0, 16, 19, .ref xn), (r0, 16, 20, .ref xf), (r0, 16, 21, .ref xt), (r0, 16, 27, .ref xp)]) [0, 1, 2, 3, 4, 5] rfl rfl (M1 := [(zm, 117, 3100, ca 1, ms), (xh, 118, 3100, ca 1, mh), (xn, 119, 3100, ca 1, mx), (xf, 120, 3100, ca 1, mf), (xt, 121, 3100, ca 1, mt), (xp, 127, 3300, ca 1, mp)]) [0, 1, 2, 3, 4, 5] rfl rfl (I1 := []) [] rfl rfl).more hb_135)
        clear hh_11 ht_13 hvm_13 hz_13 hk_13 hS_13 hb_131 hb_132 hb_133 hb_134 hb_135
        obtain ⟨hr_14b, hr_14p⟩ := hr_14
        obtain ⟨hr_14p_0, hr_14p_1, hr_14p_2⟩ := hr_14p
        have hr_14' := jb_01 hr_14b
        refine lv_if_eq (tgt := 75) hx hb dX14_isChange_53 (by decide) (fun c_15 => ?_) (fun c_15 => ?_)
        · skip
          have c_15' : r_14.toInt = 0 := jb_eq (rfl) ((by decide)) c_15
          refine lv_iconst (v := 0) hx hb dX14_isChange_75 (by decide) ?_
          rw [hQ]
          exact W.zret (v := 0) hx hb hr (jb_nz (Or.inl rfl)) (fun t ht hW => ⟨⟨0, (), rfl, ⟨(Or.inl rfl), by refine ⟨by omega, by omega, fun h9 => ?_⟩; omega⟩, hh_13.rt (M1 := []) [] rfl ht⟩, by rw [ht]; try exact hh_13.1.1, fun q h9 hq => by rw [ht]; try exact hh_13.1.2.1 q h9 hq⟩) hh_13.1.2.2 dX14_isChange_76
        · skip
          have c_15' : r_14.toInt ≠ 0 := jb_eq_n (rfl) ((by decide)) c_15
          refine lv_aload_n hx hb dX14_isChange_56 rfl (lv_at hl 1 rfl) ?_
          refine lv_aload_n hx hb dX14_isChange_57 rfl (lv_at hl 1 rfl) ?_
          refine lv_iload_n hx hb dX14_isChange_58 rfl (lv_at hl 0 rfl) ?_
          refine j_ldcSw hx hb hown rstr555 dX14_isChange_59 ?_
          refine va_calli (A0 := jA base) (H0 := s.heap) (va_runV (As := [.int r_9, .ref str555]) (rest := [.ref r0]) ⟨hx, hb, hml, hown, hts⟩ (uX14_memberKN l dC dI ca base B hB hAp hB16 hB117 hB118 hB119 hB120 hB121 hB127 G0 H_13 r0 r_9 str555 3 (jChT "end") zm xh xn xf xt xp ms mh mx mf mt mp) (cwV 2 hts (jgV (jWr_55 _ (List.mem_of_getElem? (i := 15) rfl)) (jWr_55 _ (List.mem_of_getElem? (i := 16) rfl)) (jWr_55 _ (List.mem_of_getElem? (i := 17) rfl)) (jWr_1 _ (List.mem_of_getElem? (i := 5) rfl)) (jWr_55 _ (List.mem_of_getElem? (i := 18) rfl))) rfl rfl rfl (by decide +kernel) ⟨by rw [← hR]; exact Nat.le_of_ble_eq_true rfl, by rw [← hR]; exact Nat.le_of_ble_eq_true rfl⟩) ⟨fun a U g mk q => by obtain ⟨q0, q1, q2, qK, q10, q11, q12, q13, q14, q15, q16, q17, q18, q19, q20⟩ := q; exact ⟨q0, q1, q2, jG.calling g mk a qK, (q10.moved (Vm.Alike.refl U.vm)), q11, q12, q13, q14, q15, q16, q17, q18, q19, q20⟩, hh_13.recv (C := RX14) (T := TX14) (N := 74) hB16 rfl (by decide) hg_r0 hK, fun U hU hW => ⟨rfl, hU, hh_13.2.1, hG.step hW hU hh_13.1, (hTstr555.moved hW.alike).kept hh_13.1.2.1, hg_r0, hg_zm, hg_xh, hg_xn, hg_xf, hg_xt, hg_xp, (hh_13.2.2.1.sub (L1 := [(r0, 16, 17, .ref zm), (r0, 16, 18, .ref xh), (r0, 16, 19, .ref xn), (r0, 16, 20, .ref xf), (r0, 16, 21, .ref xt), (r0, 16, 27, .ref xp)]) [0, 1, 2, 3, 4, 5] rfl), (hh_13.2.2.2.2.2.2.2.1.sub (L1 := [(zm, 117, 3100, ca 1, ms), (xh, 118, 3100, ca 1, mh), (xn, 119, 3100, ca 1, mx), (xf, 120, 3100, ca 1, mf), (xt, 121, 3100, ca 1, mt), (xp, 127, 3300, ca 1, mp)]) [0, 1, 2, 3, 4, 5] rfl), by first | omega | (refine ⟨?_, ?_, ?_⟩ <;> (first | omega | rfl | assumption | decide | exact Or.inl rfl | exact Or.inr rfl | (simp only; omega)))⟩⟩ rfl rfl hl.1 rfl (lv_room (Nat.le_of_ble_eq_true rfl)) dX14_isChange_62 ⟨Nat.zero_le _, Nat.zero_le _⟩) hh_13.1 (fun q _ h => h) (fun q h => h) (fun r_17 u_16 t_16 H_16 locs_16 ht_16 hvm_16 hr_17 hb_16 hz_16 hk_16 hS_16 => ?_)
          rw [ht_16] at hb_16
          obtain ⟨hb_161, hb_162, hb_163, hb_164, hb_165⟩ := hb_16
          have hh_16 : jSt (dC, dI) B base G0 G0 EX14_isChangeN s.heap 0 0 [(r0, 16, 17, .ref zm), (r0, 16, 18, .ref xh), (r0, 16, 19, .ref xn), (r0, 16, 20, .ref xf), (r0, 16, 21, .ref xt), (r0, 16, 27, .ref xp)] [(zm, 117, 3100, ca 1, ms), (xh, 118, 3100, ca 1, mh), (xn, 119, 3100, ca 1, mx), (xf, 120, 3100, ca 1, mf), (xt, 121, 3100, ca 1, mt), (xp, 127, 3300, ca 1, mp)] [] H_16 locs_16 := ((hh_13.call hb_161 hb_162 hb_163 hb_164 hS_16 rfl (L1 := [(r0, 16, 17, .ref zm), (r0, 16, 18, .ref xh), (r0, 16, 19, .ref xn), (r0, 16, 20, .ref xf), (r0, 16, 21, .ref xt), (r0, 16, 27, .ref xp)]) [0, 1, 2, 3, 4, 5] rfl rfl (M1 := [(zm, 117, 3100, ca 1, ms), (xh, 118, 3100, ca 1, mh), (xn, 119, 3100, ca 1, mx), (xf, 120, 3100, ca 1, mf), (xt, 121, 3100, ca 1, mt), (xp, 127, 3300, ca 1, mp)]) [0, 1, 2, 3, 4, 5] rfl rfl (I1 := []) [] rfl rfl).more hb_165)
          clear hh_13 ht_16 hvm_16 hz_16 hk_16 hS_16 hb_161 hb_162 hb_163 hb_164 hb_165
          obtain ⟨hr_17_0, hr_17_1, hr_17_2⟩ := hr_17
          refine va_calli (A0 := jA base) (H0 := s.heap) (va_runV (As := [.int r_17]) (rest := []) ⟨hx, hb, hml, hown, hts⟩ (uX14_isPositionN l dC dI ca base B hB hAp hB16 hB117 hB118 hB119 hB120 hB121 hB124 hB125 hB127 G0 H_16 r0 r_17 zm xh xn xf xt xp ms mh mx mf mt mp) (cwV 1 hts (jgV (jWr_73 _ (List.mem_of_getElem? (i := 3) rfl)) (jWr_73 _ (List.mem_of_getElem? (i := 4) rfl)) (jWr_73 _ (List.mem_of_getElem? (i := 5) rfl)) (jWr_1 _ (List.mem_of_getElem? (i := 5) rfl)) (jWr_73 _ (List.mem_of_getElem? (i := 6) rfl))) rfl rfl rfl (by decide +kernel) ⟨by rw [← hR]; exact Nat.le_of_ble_eq_true rfl, by rw [← hR]; exact Nat.le_of_ble_eq_true rfl⟩) ⟨fun a U g mk q => by obtain ⟨q0, q1, q2, qK, q10, q11, q12, q13, q14, q15, q16, q17, q18, q19⟩ := q; exact ⟨q0, q1, q2, jG.calling g mk a qK, q10, q11, q12, q13, q14, q15, q16, q17, q18, q19⟩, hh_16.recv (C := RX14) (T := TX14) (N := 74) hB16 rfl (by decide) hg_r0 hK, fun U hU hW => ⟨rfl, hU, hh_16.2.1, hG.step hW hU hh_16.1, hg_r0, hg_zm, hg_xh, hg_xn, hg_xf, hg_xt, hg_xp, (hh_16.2.2.1.sub (L1 := [(r0, 16, 17, .ref zm), (r0, 16, 18, .ref xh), (r0, 16, 19, .ref xn), (r0, 16, 20, .ref xf), (r0, 16, 21, .ref xt), (r0, 16, 27, .ref xp)]) [0, 1, 2, 3, 4, 5] rfl), (hh_16.2.2.2.2.2.2.2.1.sub (L1 := [(zm, 117, 3100, ca 1, ms), (xh, 118, 3100, ca 1, mh), (xn, 119, 3100, ca 1, mx), (xf, 120, 3100, ca 1, mf), (xt, 121, 3100, ca 1, mt), (xp, 127, 3300, ca 1, mp)]) [0, 1, 2, 3, 4, 5] rfl), by first | omega | (refine ⟨?_, ?_⟩ <;> (first | omega | rfl | assumption | decide | exact Or.inl rfl | exact Or.inr rfl | (simp only; omega)))⟩⟩ rfl rfl hl.1 rfl (lv_room (Nat.le_of_ble_eq_true rfl)) dX14_isChange_65 ⟨Nat.zero_le _, Nat.zero_le _⟩) hh_16.1 (fun q _ h => h) (fun q h => h) (fun r_19 u_18 t_18 H_18 locs_18 ht_18 hvm_18 hr_19 hb_18 hz_18 hk_18 hS_18 => ?_)
          rw [ht_18] at hb_18
          obtain ⟨hb_181, hb_182, hb_183, hb_184, hb_185⟩ := hb_18
          have hh_18 : jSt (dC, dI) B base G0 G0 EX14_isChangeN s.heap 0 0 [(r0, 16, 17, .ref zm), (r0, 16, 18, .ref xh), (r0, 16, 19, .ref xn), (r0, 16, 20, .ref xf), (r0, 16, 21, .ref xt), (r0, 16, 27, .ref xp)] [(zm, 117, 3100, ca 1, ms), (xh, 118, 3100, ca 1, mh), (xn, 119, 3100, ca 1, mx), (xf, 120, 3100, ca 1, mf), (xt, 121, 3100, ca 1, mt), (xp, 127, 3300, ca 1, mp)] [] H_18 locs_18 := ((hh_16.call hb_181 hb_182 hb_183 hb_184 hS_18 rfl (L1 := [(r0, 16, 17, .ref zm), (r0, 16, 18, .ref xh), (r0, 16, 19, .ref xn), (r0, 16, 20, .ref xf), (r0, 16, 21, .ref xt), (r0, 16, 27, .ref xp)]) [0, 1, 2, 3, 4, 5] rfl rfl (M1 := [(zm, 117, 3100, ca 1, ms), (xh, 118, 3100, ca 1, mh), (xn, 119, 3100, ca 1, mx), (xf, 120, 3100, ca 1, mf), (xt, 121, 3100, ca 1, mt), (xp, 127, 3300, ca 1, mp)]) [0, 1, 2, 3, 4, 5] rfl rfl (I1 := []) [] rfl rfl).more hb_185)
          clear hh_16 ht_18 hvm_18 hz_18 hk_18 hS_18 hb_181 hb_182 hb_183 hb_184 hb_185
          obtain ⟨hr_19b, hr_19p⟩ := hr_19
          obtain ⟨hr_19p_0, hr_19p_1, hr_19p_2⟩ := hr_19p
          have hr_19' := jb_01 hr_19b
          refine lv_if_eq (tgt := 75) hx hb dX14_isChange_68 (by decide) (fun c_20 => ?_) (fun c_20 => ?_)
          · skip
            have c_20' : r_19.toInt = 0 := jb_eq (rfl) ((by decide)) c_20
            refine lv_iconst (v := 0) hx hb dX14_isChange_75 (by decide) ?_
            rw [hQ]
            exact W.zret (v := 0) hx hb hr (jb_nz (Or.inl rfl)) (fun t ht hW => ⟨⟨0, (), rfl, ⟨(Or.inl rfl), by refine ⟨by omega, by omega, fun h9 => ?_⟩; omega⟩, hh_18.rt (M1 := []) [] rfl ht⟩, by rw [ht]; try exact hh_18.1.1, fun q h9 hq => by rw [ht]; try exact hh_18.1.2.1 q h9 hq⟩) hh_18.1.2.2 dX14_isChange_76
          · skip
            have c_20' : r_19.toInt ≠ 0 := jb_eq_n (rfl) ((by decide)) c_20
            refine lv_iconst (v := 1) hx hb dX14_isChange_71 (by decide) ?_
            refine lv_goto (tgt := 76) hx hb dX14_isChange_72 (by decide) ?_
            rw [hQ]
            exact W.zret (v := 1) hx hb hr (jb_nz (Or.inr rfl)) (fun t ht hW => ⟨⟨1, (), rfl, ⟨(Or.inr rfl), by refine ⟨by omega, by omega, fun _ => ⟨?_, ?_, fun h9 => ⟨by rw [← hr_9_0, ← hr_12_0]; exact hr_14p_2 (by omega), by rw [← hr_9_0, ← hr_17_0]; exact hr_19p_2 (by omega)⟩⟩⟩; (have h8 := (hr_6p_2 (by omega)).1; omega); (rw [← hr_4_0]; exact (hr_6p_2 (by omega)).2)⟩, hh_18.rt (M1 := []) [] rfl ht⟩, by rw [ht]; try exact hh_18.1.1, fun q h9 hq => by rw [ht]; try exact hh_18.1.2.1 q h9 hq⟩) hh_18.1.2.2 dX14_isChange_76
    · skip
      have c_7' : r_6.toInt = 0 := jb_ne_n (rfl) ((by decide)) c_7
      refine lv_iconst (v := 0) hx hb dX14_isChange_26 (by decide) ?_
      rw [hQ]
      exact W.zret (v := 0) hx hb hr (jb_nz (Or.inl rfl)) (fun t ht hW => ⟨⟨0, (), rfl, ⟨(Or.inl rfl), by refine ⟨by omega, by omega, fun h9 => ?_⟩; omega⟩, hh_5.rt (M1 := []) [] rfl ht⟩, by rw [ht]; try exact hh_5.1.1, fun q h9 hq => by rw [ht]; try exact hh_5.1.2.1 q h9 hq⟩) hh_5.1.2.2 dX14_isChange_27
set_option maxHeartbeats 4000000 in
set_option maxRecDepth 20000 in
theorem uX14_makeN (l : Launch) (dC : Nat → ClassId) (dI : Nat → Nat → Nat) (ca : Nat → ClassId) (base : Nat) (B : jF) (hB : jBok B) (hAp : jAp (dC, dI)) (hB16 : ∀ n G a H, B 16 n G a H ↔ jOb (dC, dI) 16 74 (F16 n G) a H) (hB101 : ∀ n G a H, B 101 n G a H ↔ jAr (dC, dI) (ca 1) (fun j z => True) n a H) (hB117 : ∀ n G a H, B 117 n G a H ↔ jAr (dC, dI) (ca 1) (fun j z => True) n a H) (hB118 : ∀ n G a H, B 118 n G a H ↔ jAr (dC, dI) (ca 1) (fun j z => -1 ≤ z.toInt ∧ z.toInt ≤ 3099) n a H) (hB119 : ∀ n G a H, B 119 n G a H ↔ jAr (dC, dI) (ca 1) (fun j z => z.toInt = -1 ∨ z.toInt = 0 ∨ ((j : Nat) < z.toInt ∧ z.toInt ≤ 3099)) n a H) (hB120 : ∀ n G a H, B 120 n G a H ↔ jAr (dC, dI) (ca 1) (fun j z => 0 ≤ z.toInt ∧ z.toInt ≤ 3300) n a H) (hB121 : ∀ n G a H, B 121 n G a H ↔ jAr (dC, dI) (ca 1) (fun j z => 0 ≤ z.toInt ∧ z.toInt ≤ 3300) n a H) (hB122 : ∀ n G a H, B 122 n G a H ↔ jAr (dC, dI) (ca 1) (fun j z => 0 ≤ z.toInt ∧ z.toInt ≤ 3100) n a H) (hB123 : ∀ n G a H, B 123 n G a H ↔ jAr (dC, dI) (ca 1) (fun j z => 0 ≤ z.toInt ∧ z.toInt ≤ 3100) n a H) (hB125 : ∀ n G a H, B 125 n G a H ↔ jAr (dC, dI) (ca 1) (fun j z => True) n a H) (hB127 : ∀ n G a H, B 127 n G a H ↔ jAr (dC, dI) (ca 1) (fun j z => True) n a H) (G0 : jT) (H0 : Heap) (r0 : Nat) (a1 : Int32) (zm : Nat) (xh : Nat) (xn : Nat) (xf : Nat) (xt : Nat) (xp : Nat) (xb : Nat) (xe : Nat) (ms : Nat → Int32) (mh : Nat → Int32) (mx : Nat → Int32) (mf : Nat → Int32) (mt : Nat → Int32) (mp : Nat → Int32) (fb : Nat → Int32) (fe : Nat → Int32) : Met l yX14_make (jw yX14_make cX14_make 10 (some .boolean)) ({ frames := 7, cells := 0, slots := 0, locals := 210 }) (va_Pc [.ref r0, .int a1] (fun U => U.heap = H0 ∧ jX B base G0 [] H0 ∧ jG dC dI ca base U ∧ G0 r0 = some (16, 0) ∧ G0 zm = some (117, 3100) ∧ G0 xh = some (118, 3100) ∧ G0 xn = some (119, 3100) ∧ G0 xf = some (120, 3100) ∧ G0 xt = some (121, 3100) ∧ G0 xp = some (127, 3300) ∧ G0 xb = some (122, 3100) ∧ G0 xe = some (123, 3100) ∧ jP (dC, dI) G0 H0 [(r0, 16, 17, .ref zm), (r0, 16, 18, .ref xh), (r0, 16, 19, .ref xn), (r0, 16, 20, .ref xf), (r0, 16, 21, .ref xt), (r0, 16, 27, .ref xp), (r0, 16, 22, .ref xb), (r0, 16, 23, .ref xe)] ∧ jMc (dC, dI) G0 H0 [(zm, 117, 3100, ca 1, ms), (xh, 118, 3100, ca 1, mh), (xn, 119, 3100, ca 1, mx), (xf, 120, 3100, ca 1, mf), (xt, 121, 3100, ca 1, mt), (xp, 127, 3300, ca 1, mp), (xb, 122, 3100, ca 1, fb), (xe, 123, 3100, ca 1, fe)] ∧ jChg ms mh mf mt mx mp a1.toInt ∧ 0 ≤ a1.toInt ∧ a1.toInt ≤ 3099 ∧ jLeA fb fe ∧ jSo mx 0 = -1)) (va_Qi (S := Unit) (fun r u => (r = 0 ∨ r = 1) ∧ (True)) (fun u t => jRt (dC, dI) B base G0 EX14_makeN H0 [] t.heap) (jA base)) 0 0 (jA base) := by
  refine Met.ofW (cc := cX14_make) (maxL := 10) (ret := (some .boolean)) (by decide) rfl ?_
  intro p e s m args below meth c s₁ Bd hml hv
  obtain ⟨rfl, hH0, hX, hG, hg_r0, hg_zm, hg_xh, hg_xn, hg_xf, hg_xt, hg_xp, hg_xb, hg_xe, hP0, hM0, hp0, hp1, hp2, hp3, hp4⟩ := hv
  have hK := hG.1
  have hx := Bd.exec
  have hb := Bd.bytes
  have hr := Bd.returns
  have hts := atoms_spec (ws := (jw yX14_make cX14_make 10 (some .boolean))) Bd.pre
  have htw : ∀ w ∈ jWl, w.before _ s = true := fun w h => hts w (List.mem_cons_of_mem _ h)
  have hown : s.vm.findClass RX14 = some m.cls := findClass_of_methodNamed Bd.named
  have hlocks := Bd.notSynchronized
  obtain ⟨Q, hQ⟩ : ∃ Q, Q = MQ below (va_Qi (S := Unit) (fun r u => (r = 0 ∨ r = 1) ∧ (True)) (fun u t => jRt (dC, dI) B base G0 EX14_makeN H0 [] t.heap) (jA base)) ([.ref r0, .int a1] : List Value).toArray s 0 0 (jA base) := ⟨_, rfl⟩
  rw [← hQ]
  have hl := lv_entry ([.ref r0, .int a1]) (n := 10) (Nat.le_of_ble_eq_true rfl)
  rw [lg_entry_eq]
  generalize (lg_sl ([.ref r0, .int a1]) ++ List.replicate (10 - (lg_sl ([.ref r0, .int a1])).length) Slot.unset).toArray = ls at hl ⊢
  have hl : lv_has ls 10 [(0, .ref r0), (1, .int a1)] := hl
  generalize hR : (headSpec (jw yX14_make cX14_make 10 (some .boolean)) ({ frames := 7, cells := 0, slots := 0, locals := 210 })).room = R
  subst hH0
  have hh : jSt (dC, dI) B base G0 G0 EX14_makeN s.heap 0 0 [(r0, 16, 17, .ref zm), (r0, 16, 18, .ref xh), (r0, 16, 19, .ref xn), (r0, 16, 20, .ref xf), (r0, 16, 21, .ref xt), (r0, 16, 27, .ref xp), (r0, 16, 22, .ref xb), (r0, 16, 23, .ref xe)] [(zm, 117, 3100, ca 1, ms), (xh, 118, 3100, ca 1, mh), (xn, 119, 3100, ca 1, mx), (xf, 120, 3100, ca 1, mf), (xt, 121, 3100, ca 1, mt), (xp, 127, 3300, ca 1, mp), (xb, 122, 3100, ca 1, fb), (xe, 123, 3100, ca 1, fe)] [] s.heap [] := jSt.start hX hP0 hM0 jIs.nil
  clear hX hP0
  have hk0 : (0 : Int32).toInt = 0 := by decide
  have hk1 : (1 : Int32).toInt = 1 := by decide
  have hk1500 : (1500 : Int32).toInt = 1500 := by decide
  have hly_16_22 := htw (u_lay RX14 TX14 22) (jWc_wsX140 _ (u_in_lay (by decide)))
  have hly_16_23 := htw (u_lay RX14 TX14 23) (jWc_wsX140 _ (u_in_lay (by decide)))
  have hly_16_27 := htw (u_lay RX14 TX14 27) (jWc_wsX140 _ (u_in_lay (by decide)))
  have hly_16_43 := htw (u_lay RX14 TX14 43) (jWc_wsX140 _ (u_in_lay (by decide)))
  have hly_16_44 := htw (u_lay RX14 TX14 44) (jWc_wsX140 _ (u_in_lay (by decide)))
  have hly_16_45 := htw (u_lay RX14 TX14 45) (jWc_wsX140 _ (u_in_lay (by decide)))
  obtain ⟨str519, rstr519, hstr5190⟩ := hG.strT (o := RX14) (k := 519) (tx := "text") (List.mem_of_getElem? (i := 2489) (by decide +kernel))
  have hTstr519 : jStrF base str519 4 (jChT "text") s s.heap := hstr5190.F (by decide +kernel)
  have hstr519 : jStr base str519 4 s s.heap := hTstr519.str
  obtain ⟨str548, rstr548, hstr5480⟩ := hG.strT (o := RX14) (k := 548) (tx := "range") (List.mem_of_getElem? (i := 2889) (by decide +kernel))
  have hTstr548 : jStrF base str548 5 (jChT "range") s s.heap := hstr5480.F (by decide +kernel)
  have hstr548 : jStr base str548 5 s s.heap := hTstr548.str
  have hlk_55 := (htw (.fieldLink RX14 55 "ProofServerModel" "to" "[I") (jWr_11 _ (List.mem_of_getElem? (i := 10) rfl)))
  have hlk_52 := (htw (.fieldLink RX14 52 "ProofServerModel" "from" "[I") (jWr_11 _ (List.mem_of_getElem? (i := 9) rfl)))
  have hlk_550 := (htw (.fieldLink RX14 550 "ProofServerModel" "changedUnits" "I") (jWr_72 _ (List.mem_of_getElem? (i := 22) rfl)))
  obtain ⟨str553, rstr553, hstr5530⟩ := hG.strT (o := RX14) (k := 553) (tx := "start") (List.mem_of_getElem? (i := 2890) (by decide +kernel))
  have hTstr553 : jStrF base str553 5 (jChT "start") s s.heap := hstr5530.F (by decide +kernel)
  have hstr553 : jStr base str553 5 s s.heap := hTstr553.str
  obtain ⟨str555, rstr555, hstr5550⟩ := hG.strT (o := RX14) (k := 555) (tx := "end") (List.mem_of_getElem? (i := 2897) (by decide +kernel))
  have hTstr555 : jStrF base str555 3 (jChT "end") s s.heap := hstr5550.F (by decide +kernel)
  have hstr555 : jStr base str555 3 s s.heap := hTstr555.str
  have hlk_78 := (htw (.fieldLink RX14 78 "ProofServerModel" "changed" "[I") (jWr_11 _ (List.mem_of_getElem? (i := 20) rfl)))
  have hlk_81 := (htw (.fieldLink RX14 81 "ProofServerModel" "tail" "[I") (jWr_11 _ (List.mem_of_getElem? (i := 21) rfl)))
  have hlk_65 := (htw (.fieldLink RX14 65 "ProofServerModel" "pool" "[I") (jWr_11 _ (List.mem_of_getElem? (i := 14) rfl)))
  have hrg_a1 := jb_rng a1
  refine lv_aload_n hx hb dX14_make_0 rfl (lv_at hl 0 rfl) ?_
  refine lv_iload_n hx hb dX14_make_1 rfl (lv_at hl 1 rfl) ?_
  refine j_ldcSw hx hb hown rstr519 dX14_make_2 ?_
  refine va_calli (A0 := jA base) (H0 := s.heap) (va_runV (As := [.int a1, .ref str519]) (rest := []) ⟨hx, hb, hml, hown, hts⟩ (uX14_memberKN l dC dI ca base B hB hAp hB16 hB117 hB118 hB119 hB120 hB121 hB127 G0 s.heap r0 a1 str519 4 (jChT "text") zm xh xn xf xt xp ms mh mx mf mt mp) (cwV 2 hts (jgV (jWr_55 _ (List.mem_of_getElem? (i := 15) rfl)) (jWr_55 _ (List.mem_of_getElem? (i := 16) rfl)) (jWr_55 _ (List.mem_of_getElem? (i := 17) rfl)) (jWr_1 _ (List.mem_of_getElem? (i := 5) rfl)) (jWr_55 _ (List.mem_of_getElem? (i := 18) rfl))) rfl rfl rfl (by decide +kernel) ⟨by rw [← hR]; exact Nat.le_of_ble_eq_true rfl, by rw [← hR]; exact Nat.le_of_ble_eq_true rfl⟩) ⟨fun a U g mk q => by obtain ⟨q0, q1, q2, qK, q10, q11, q12, q13, q14, q15, q16, q17, q18, q19, q20⟩ := q; exact ⟨q0, q1, q2, jG.calling g mk a qK, (q10.moved (Vm.Alike.refl U.vm)), q11, q12, q13, q14, q15, q16, q17, q18, q19, q20⟩, hh.recv (C := RX14) (T := TX14) (N := 74) hB16 rfl (by decide) hg_r0 hK, fun U hU hW => ⟨rfl, hU, hh.2.1, hG.step hW hU hh.1, (hTstr519.moved hW.alike).kept hh.1.2.1, hg_r0, hg_zm, hg_xh, hg_xn, hg_xf, hg_xt, hg_xp, (hh.2.2.1.sub (L1 := [(r0, 16, 17, .ref zm), (r0, 16, 18, .ref xh), (r0, 16, 19, .ref xn), (r0, 16, 20, .ref xf), (r0, 16, 21, .ref xt), (r0, 16, 27, .ref xp)]) [0, 1, 2, 3, 4, 5] rfl), (hh.2.2.2.2.2.2.2.1.sub (L1 := [(zm, 117, 3100, ca 1, ms), (xh, 118, 3100, ca 1, mh), (xn, 119, 3100, ca 1, mx), (xf, 120, 3100, ca 1, mf), (xt, 121, 3100, ca 1, mt), (xp, 127, 3300, ca 1, mp)]) [0, 1, 2, 3, 4, 5] rfl), by first | omega | (refine ⟨?_, ?_, ?_⟩ <;> (first | omega | rfl | assumption | decide | exact Or.inl rfl | exact Or.inr rfl | (simp only; omega)))⟩⟩ rfl rfl hl.1 rfl (lv_room (Nat.le_of_ble_eq_true rfl)) dX14_make_5 ⟨Nat.zero_le _, Nat.zero_le _⟩) hh.1 (fun q _ h => h) (fun q h => h) (fun r_2 u_1 t_1 H_1 locs_1 ht_1 hvm_1 hr_2 hb_1 hz_1 hk_1 hS_1 => ?_)
  rw [ht_1] at hb_1
  obtain ⟨hb_11, hb_12, hb_13, hb_14, hb_15⟩ := hb_1
  have hh_1 : jSt (dC, dI) B base G0 G0 EX14_makeN s.heap 0 0 [(r0, 16, 17, .ref zm), (r0, 16, 18, .ref xh), (r0, 16, 19, .ref xn), (r0, 16, 20, .ref xf), (r0, 16, 21, .ref xt), (r0, 16, 27, .ref xp), (r0, 16, 22, .ref xb), (r0, 16, 23, .ref xe)] [(zm, 117, 3100, ca 1, ms), (xh, 118, 3100, ca 1, mh), (xn, 119, 3100, ca 1, mx), (xf, 120, 3100, ca 1, mf), (xt, 121, 3100, ca 1, mt), (xp, 127, 3300, ca 1, mp), (xb, 122, 3100, ca 1, fb), (xe, 123, 3100, ca 1, fe)] [] H_1 locs_1 := ((hh.call hb_11 hb_12 hb_13 hb_14 hS_1 rfl (L1 := [(r0, 16, 17, .ref zm), (r0, 16, 18, .ref xh), (r0, 16, 19, .ref xn), (r0, 16, 20, .ref xf), (r0, 16, 21, .ref xt), (r0, 16, 27, .ref xp), (r0, 16, 22, .ref xb), (r0, 16, 23, .ref xe)]) [0, 1, 2, 3, 4, 5, 6, 7] rfl rfl (M1 := [(zm, 117, 3100, ca 1, ms), (xh, 118, 3100, ca 1, mh), (xn, 119, 3100, ca 1, mx), (xf, 120, 3100, ca 1, mf), (xt, 121, 3100, ca 1, mt), (xp, 127, 3300, ca 1, mp), (xb, 122, 3100, ca 1, fb), (xe, 123, 3100, ca 1, fe)]) [0, 1, 2, 3, 4, 5, 6, 7] rfl rfl (I1 := []) [] rfl rfl).more hb_15)
  clear hh ht_1 hvm_1 hz_1 hk_1 hS_1 hb_11 hb_12 hb_13 hb_14 hb_15
  obtain ⟨hr_2_0, hr_2_1, hr_2_2⟩ := hr_2
  refine lv_istore_n (lv' := [(2, .int r_2), (0, .ref r0), (1, .int a1)]) hx hb dX14_make_8 rfl hl (by decide) rfl (fun ls hl => ?_)
  refine lv_aload_n hx hb dX14_make_9 rfl (lv_at hl 1 rfl) ?_
  refine lv_iload_n hx hb dX14_make_10 rfl (lv_at hl 2 rfl) ?_
  refine j_ldcSw hx hb hown rstr548 dX14_make_11 ?_
  refine va_calli (A0 := jA base) (H0 := s.heap) (va_runV (As := [.int a1, .ref str548]) (rest := []) ⟨hx, hb, hml, hown, hts⟩ (uX14_memberKN l dC dI ca base B hB hAp hB16 hB117 hB118 hB119 hB120 hB121 hB127 G0 H_1 r0 a1 str548 5 (jChT "range") zm xh xn xf xt xp ms mh mx mf mt mp) (cwV 2 hts (jgV (jWr_55 _ (List.mem_of_getElem? (i := 15) rfl)) (jWr_55 _ (List.mem_of_getElem? (i := 16) rfl)) (jWr_55 _ (List.mem_of_getElem? (i := 17) rfl)) (jWr_1 _ (List.mem_of_getElem? (i := 5) rfl)) (jWr_55 _ (List.mem_of_getElem? (i := 18) rfl))) rfl rfl rfl (by decide +kernel) ⟨by rw [← hR]; exact Nat.le_of_ble_eq_true rfl, by rw [← hR]; exact Nat.le_of_ble_eq_true rfl⟩) ⟨fun a U g mk q => by obtain ⟨q0, q1, q2, qK, q10, q11, q12, q13, q14, q15, q16, q17, q18, q19, q20⟩ := q; exact ⟨q0, q1, q2, jG.calling g mk a qK, (q10.moved (Vm.Alike.refl U.vm)), q11, q12, q13, q14, q15, q16, q17, q18, q19, q20⟩, hh_1.recv (C := RX14) (T := TX14) (N := 74) hB16 rfl (by decide) hg_r0 hK, fun U hU hW => ⟨rfl, hU, hh_1.2.1, hG.step hW hU hh_1.1, (hTstr548.moved hW.alike).kept hh_1.1.2.1, hg_r0, hg_zm, hg_xh, hg_xn, hg_xf, hg_xt, hg_xp, (hh_1.2.2.1.sub (L1 := [(r0, 16, 17, .ref zm), (r0, 16, 18, .ref xh), (r0, 16, 19, .ref xn), (r0, 16, 20, .ref xf), (r0, 16, 21, .ref xt), (r0, 16, 27, .ref xp)]) [0, 1, 2, 3, 4, 5] rfl), (hh_1.2.2.2.2.2.2.2.1.sub (L1 := [(zm, 117, 3100, ca 1, ms), (xh, 118, 3100, ca 1, mh), (xn, 119, 3100, ca 1, mx), (xf, 120, 3100, ca 1, mf), (xt, 121, 3100, ca 1, mt), (xp, 127, 3300, ca 1, mp)]) [0, 1, 2, 3, 4, 5] rfl), by first | omega | (refine ⟨?_, ?_, ?_⟩ <;> (first | omega | rfl | assumption | decide | exact Or.inl rfl | exact Or.inr rfl | (simp only; omega)))⟩⟩ rfl rfl hl.1 rfl (lv_room (Nat.le_of_ble_eq_true rfl)) dX14_make_14 ⟨Nat.zero_le _, Nat.zero_le _⟩) hh_1.1 (fun q _ h => h) (fun q h => h) (fun r_4 u_3 t_3 H_3 locs_3 ht_3 hvm_3 hr_4 hb_3 hz_3 hk_3 hS_3 => ?_)
  rw [ht_3] at hb_3
  obtain ⟨hb_31, hb_32, hb_33, hb_34, hb_35⟩ := hb_3
  have hh_3 : jSt (dC, dI) B base G0 G0 EX14_makeN s.heap 0 0 [(r0, 16, 17, .ref zm), (r0, 16, 18, .ref xh), (r0, 16, 19, .ref xn), (r0, 16, 20, .ref xf), (r0, 16, 21, .ref xt), (r0, 16, 27, .ref xp), (r0, 16, 22, .ref xb), (r0, 16, 23, .ref xe)] [(zm, 117, 3100, ca 1, ms), (xh, 118, 3100, ca 1, mh), (xn, 119, 3100, ca 1, mx), (xf, 120, 3100, ca 1, mf), (xt, 121, 3100, ca 1, mt), (xp, 127, 3300, ca 1, mp), (xb, 122, 3100, ca 1, fb), (xe, 123, 3100, ca 1, fe)] [] H_3 locs_3 := ((hh_1.call hb_31 hb_32 hb_33 hb_34 hS_3 rfl (L1 := [(r0, 16, 17, .ref zm), (r0, 16, 18, .ref xh), (r0, 16, 19, .ref xn), (r0, 16, 20, .ref xf), (r0, 16, 21, .ref xt), (r0, 16, 27, .ref xp), (r0, 16, 22, .ref xb), (r0, 16, 23, .ref xe)]) [0, 1, 2, 3, 4, 5, 6, 7] rfl rfl (M1 := [(zm, 117, 3100, ca 1, ms), (xh, 118, 3100, ca 1, mh), (xn, 119, 3100, ca 1, mx), (xf, 120, 3100, ca 1, mf), (xt, 121, 3100, ca 1, mt), (xp, 127, 3300, ca 1, mp), (xb, 122, 3100, ca 1, fb), (xe, 123, 3100, ca 1, fe)]) [0, 1, 2, 3, 4, 5, 6, 7] rfl rfl (I1 := []) [] rfl rfl).more hb_35)
  clear hh_1 ht_3 hvm_3 hz_3 hk_3 hS_3 hb_31 hb_32 hb_33 hb_34 hb_35
  obtain ⟨hr_4_0, hr_4_1, hr_4_2⟩ := hr_4
  refine lv_istore_n (lv' := [(3, .int r_4), (2, .int r_2), (0, .ref r0), (1, .int a1)]) hx hb dX14_make_17 rfl hl (by decide) rfl (fun ls hl => ?_)
  obtain ⟨gh1, gh2, gh3⟩ := hp0
  have hle := hp3 r_2.toInt (by omega) (by omega)
  refine lv_aload_n hx hb dX14_make_18 rfl (lv_at hl 2 rfl) ?_
  refine j7_read hx hb hown hK (C := RX14) (T := TX14) (N := 74) rfl hly_16_23 hlk_55 (hh_3.at 7 rfl) dX14_make_19 ?_
  refine lv_iload_n hx hb dX14_make_22 rfl (lv_at hl 1 rfl) ?_
  refine j7_ialdM hx hb hK hh_3 hB123 1 rfl (by decide) hg_xe (x := r_2.toInt) (rfl) (by omega) (j := 7) rfl dX14_make_23 (fun z_5 ez_5 (hz_5 : 0 ≤ z_5.toInt ∧ z_5.toInt ≤ 3100) => ?_)
  have hqz_5 : z_5.toInt = jSo fe (r_2.toInt) := by unfold jSo; rw [ez_5]
  refine lv_aload_n hx hb dX14_make_24 rfl (lv_at hl 2 rfl) ?_
  refine j7_read hx hb hown hK (C := RX14) (T := TX14) (N := 74) rfl hly_16_22 hlk_52 (hh_3.at 6 rfl) dX14_make_25 ?_
  refine lv_iload_n hx hb dX14_make_28 rfl (lv_at hl 1 rfl) ?_
  refine j7_ialdM hx hb hK hh_3 hB122 1 rfl (by decide) hg_xb (x := r_2.toInt) (rfl) (by omega) (j := 6) rfl dX14_make_29 (fun z_6 ez_6 (hz_6 : 0 ≤ z_6.toInt ∧ z_6.toInt ≤ 3100) => ?_)
  have hqz_6 : z_6.toInt = jSo fb (r_2.toInt) := by unfold jSo; rw [ez_6]
  refine lv_isub hx hb dX14_make_30 ?_
  refine lv_topi (fun z_7 ez_7 => ?_)
  have hz_7 : z_7.toInt = z_5.toInt - z_6.toInt := by rw [ez_7]; exact jb_isub2 (rfl) (rfl) (by omega)
  refine lv_istore (lv' := [(4, .int z_7), (3, .int r_4), (2, .int r_2), (0, .ref r0), (1, .int a1)]) hx hb dX14_make_31 hl (by decide) rfl (fun ls hl => ?_)
  refine lv_iconst (v := 0) hx hb dX14_make_33 (by decide) ?_
  refine lv_istore (lv' := [(5, .int 0), (4, .int z_7), (3, .int r_4), (2, .int r_2), (0, .ref r0), (1, .int a1)]) hx hb dX14_make_34 hl (by decide) rfl (fun ls hl => ?_)
  refine lv_aload_n hx hb dX14_make_36 rfl (lv_at hl 4 rfl) ?_
  obtain ⟨v_8, hv_8, hh_9⟩ := hh_3.pin (C := RX14) (T := TX14) (N := 74) hB16 rfl (by decide) hg_r0 (i := 44) (by decide) rfl
  clear hh_3
  obtain ⟨changedUnits_10, rfl, hlochangedUnits_10, hhichangedUnits_10⟩ := hv_8
  refine j7_read hx hb hown hK (C := RX14) (T := TX14) (N := 74) rfl hly_16_44 hlk_550 (hh_9.at 0 rfl) dX14_make_37 ?_
  refine lv_istore (lv' := [(6, .int changedUnits_10), (5, .int 0), (4, .int z_7), (3, .int r_4), (2, .int r_2), (0, .ref r0), (1, .int a1)]) hx hb dX14_make_40 hl (by decide) rfl (fun ls hl => ?_)
  refine lv_iload_n hx hb dX14_make_42 rfl (lv_at hl 3 rfl) ?_
  have C130 : ∀ (v5_11 : Int32) (v6_11 : Int32) (H_11 : Heap) (locs_11 : List Loc), jSt (dC, dI) B base G0 G0 EX14_makeN s.heap 0 0 [(r0, 16, 44, .int changedUnits_10), (r0, 16, 17, .ref zm), (r0, 16, 18, .ref xh), (r0, 16, 19, .ref xn), (r0, 16, 20, .ref xf), (r0, 16, 21, .ref xt), (r0, 16, 27, .ref xp), (r0, 16, 22, .ref xb), (r0, 16, 23, .ref xe)] [(zm, 117, 3100, ca 1, ms), (xh, 118, 3100, ca 1, mh), (xn, 119, 3100, ca 1, mx), (xf, 120, 3100, ca 1, mf), (xt, 121, 3100, ca 1, mt), (xp, 127, 3300, ca 1, mp), (xb, 122, 3100, ca 1, fb), (xe, 123, 3100, ca 1, fe)] [] H_11 locs_11 → (0 ≤ v5_11.toInt ∧ v5_11.toInt ≤ v6_11.toInt ∧ v6_11.toInt ≤ changedUnits_10.toInt) → ∀ ls : Array Slot, lv_has ls 10 [(0, .ref r0), (1, .int a1), (2, .int r_2), (3, .int r_4), (4, .int z_7), (5, .int v5_11), (6, .int v6_11)] → W p l e R s m ([.ref r0, .int a1] : List Value).toArray below meth c H_11 locs_11 0 0 Q (F0 m 130 ls []) := by
    intro v5_11 v6_11 H_11 locs_11 hh_11  hi_11 ls hl
    obtain ⟨hi_11_0, hi_11_1, hi_11_2⟩ := hi_11
    refine lv_aload_n hx hb dX14_make_130 rfl (lv_at hl 0 rfl) ?_
    refine j7_read hx hb hown hK (C := RX14) (T := TX14) (N := 74) rfl hly_16_44 hlk_550 (hh_11.at 0 rfl) dX14_make_131 ?_
    refine lv_iload hx hb dX14_make_134 (lv_at hl 6 rfl) ?_
    refine lv_iload hx hb dX14_make_136 (lv_at hl 5 rfl) ?_
    refine lv_isub hx hb dX14_make_138 ?_
    refine lv_topi (fun z_12 ez_12 => ?_)
    have hz_12 : z_12.toInt = v6_11.toInt - v5_11.toInt := by rw [ez_12]; exact jb_isub2 (rfl) (rfl) (by omega)
    refine lv_isub hx hb dX14_make_139 ?_
    refine lv_topi (fun z_13 ez_13 => ?_)
    have hz_13 : z_13.toInt = changedUnits_10.toInt - z_12.toInt := by rw [ez_13]; exact jb_isub2 (rfl) (rfl) (by omega)
    refine lv_iload hx hb dX14_make_140 (lv_at hl 4 rfl) ?_
    refine lv_iadd hx hb dX14_make_142 ?_
    refine lv_topi (fun z_14 ez_14 => ?_)
    have hz_14 : z_14.toInt = z_13.toInt + z_7.toInt := by rw [ez_14]; exact jb_iadd2 (rfl) (rfl) (by omega)
    refine lv_istore (lv' := [(7, .int z_14), (0, .ref r0), (1, .int a1), (2, .int r_2), (3, .int r_4), (4, .int z_7), (5, .int v5_11), (6, .int v6_11)]) hx hb dX14_make_143 hl (by decide) rfl (fun ls hl => ?_)
    refine lv_iload hx hb dX14_make_145 (lv_at hl 0 rfl) ?_
    refine lv_sipush (v := 1500) hx hb dX14_make_147 (by decide) ?_
    refine lv_icmp_le (tgt := 155) hx hb dX14_make_150 (by decide) (fun c_15 => ?_) (fun c_15 => ?_)
    · skip
      have c_15' : z_14.toInt ≤ 1500 := jb_le (rfl) ((by decide)) c_15
      refine lv_aload_n hx hb dX14_make_155 rfl (lv_at hl 1 rfl) ?_
      refine j7_read hx hb hown hK (C := RX14) (T := TX14) (N := 74) rfl hly_16_44 hlk_550 (hh_11.at 0 rfl) dX14_make_156 ?_
      refine lv_iload hx hb dX14_make_159 (lv_at hl 7 rfl) ?_
      refine lv_isub hx hb dX14_make_161 ?_
      refine lv_topi (fun z_16 ez_16 => ?_)
      have hz_16 : z_16.toInt = changedUnits_10.toInt - v6_11.toInt := by rw [ez_16]; exact jb_isub2 (rfl) (rfl) (by omega)
      refine lv_istore (lv' := [(8, .int z_16), (7, .int z_14), (0, .ref r0), (1, .int a1), (2, .int r_2), (3, .int r_4), (4, .int z_7), (5, .int v5_11), (6, .int v6_11)]) hx hb dX14_make_162 hl (by decide) rfl (fun ls hl => ?_)
      refine lv_iconst (v := 0) hx hb dX14_make_164 (by decide) ?_
      refine lv_istore (lv' := [(9, .int 0), (8, .int z_16), (7, .int z_14), (0, .ref r0), (1, .int a1), (2, .int r_2), (3, .int r_4), (4, .int z_7), (5, .int v5_11), (6, .int v6_11)]) hx hb dX14_make_165 hl (by decide) rfl (fun ls hl => ?_)
      have L167 : ∀ (N : Nat) (v9_17 : Int32) (H_17 : Heap) (locs_17 : List Loc), jSt (dC, dI) B base G0 G0 EX14_makeN s.heap 0 0 [(r0, 16, 44, .int changedUnits_10), (r0, 16, 17, .ref zm), (r0, 16, 18, .ref xh), (r0, 16, 19, .ref xn), (r0, 16, 20, .ref xf), (r0, 16, 21, .ref xt), (r0, 16, 27, .ref xp), (r0, 16, 22, .ref xb), (r0, 16, 23, .ref xe)] [(zm, 117, 3100, ca 1, ms), (xh, 118, 3100, ca 1, mh), (xn, 119, 3100, ca 1, mx), (xf, 120, 3100, ca 1, mf), (xt, 121, 3100, ca 1, mt), (xp, 127, 3300, ca 1, mp), (xb, 122, 3100, ca 1, fb), (xe, 123, 3100, ca 1, fe)] [] H_17 locs_17 → (0 ≤ v9_17.toInt ∧ v9_17.toInt ≤ 1500) → (1500 - v9_17.toInt : Int) < N → ∀ ls : Array Slot, lv_has ls 10 [(0, .ref r0), (1, .int a1), (2, .int r_2), (3, .int r_4), (4, .int z_7), (5, .int v5_11), (6, .int v6_11), (7, .int z_14), (8, .int z_16), (9, .int v9_17)] → W p l e R s m ([.ref r0, .int a1] : List Value).toArray below meth c H_17 locs_17 0 0 Q (F0 m 167 ls []) := by
        intro N
        induction N with
        | zero => intro v9_17 H_17 locs_17 hh_17  hi_17 hm; exact absurd hm (by omega)
        | succ N L167 =>
          intro v9_17 H_17 locs_17 hh_17  hi_17 hm_17 ls hl
          obtain ⟨hi_17_0, hi_17_1⟩ := hi_17
          refine lv_iload hx hb dX14_make_167 (lv_at hl 9 rfl) ?_
          refine lv_iload hx hb dX14_make_169 (lv_at hl 8 rfl) ?_
          refine lv_icmp_ge (tgt := 197) hx hb dX14_make_171 (by decide) (fun c_18 => ?_) (fun c_18 => ?_)
          · skip
            have c_18' : v9_17.toInt ≥ z_16.toInt := jb_ge (rfl) (rfl) c_18
            refine lv_iconst (v := 0) hx hb dX14_make_197 (by decide) ?_
            refine lv_istore (lv' := [(9, .int 0), (0, .ref r0), (1, .int a1), (2, .int r_2), (3, .int r_4), (4, .int z_7), (5, .int v5_11), (6, .int v6_11), (7, .int z_14), (8, .int z_16)]) hx hb dX14_make_198 hl (by decide) rfl (fun ls hl => ?_)
            have L200 : ∀ (N : Nat) (v9_19 : Int32) (H_19 : Heap) (locs_19 : List Loc), jSt (dC, dI) B base G0 G0 EX14_makeN s.heap 0 0 [(r0, 16, 44, .int changedUnits_10), (r0, 16, 17, .ref zm), (r0, 16, 18, .ref xh), (r0, 16, 19, .ref xn), (r0, 16, 20, .ref xf), (r0, 16, 21, .ref xt), (r0, 16, 27, .ref xp), (r0, 16, 22, .ref xb), (r0, 16, 23, .ref xe)] [(zm, 117, 3100, ca 1, ms), (xh, 118, 3100, ca 1, mh), (xn, 119, 3100, ca 1, mx), (xf, 120, 3100, ca 1, mf), (xt, 121, 3100, ca 1, mt), (xp, 127, 3300, ca 1, mp), (xb, 122, 3100, ca 1, fb), (xe, 123, 3100, ca 1, fe)] [] H_19 locs_19 → (0 ≤ v9_19.toInt ∧ v9_19.toInt ≤ 3100) → (3100 - v9_19.toInt : Int) < N → ∀ ls : Array Slot, lv_has ls 10 [(0, .ref r0), (1, .int a1), (2, .int r_2), (3, .int r_4), (4, .int z_7), (5, .int v5_11), (6, .int v6_11), (7, .int z_14), (8, .int z_16), (9, .int v9_19)] → W p l e R s m ([.ref r0, .int a1] : List Value).toArray below meth c H_19 locs_19 0 0 Q (F0 m 200 ls []) := by
              intro N
              induction N with
              | zero => intro v9_19 H_19 locs_19 hh_19  hi_19 hm; exact absurd hm (by omega)
              | succ N L200 =>
                intro v9_19 H_19 locs_19 hh_19  hi_19 hm_19 ls hl
                obtain ⟨hi_19_0, hi_19_1⟩ := hi_19
                refine lv_iload hx hb dX14_make_200 (lv_at hl 9 rfl) ?_
                refine lv_iload hx hb dX14_make_202 (lv_at hl 4 rfl) ?_
                refine lv_icmp_ge (tgt := 237) hx hb dX14_make_204 (by decide) (fun c_20 => ?_) (fun c_20 => ?_)
                · skip
                  have c_20' : v9_19.toInt ≥ z_7.toInt := jb_ge (rfl) (rfl) c_20
                  refine lv_iconst (v := 0) hx hb dX14_make_237 (by decide) ?_
                  refine lv_istore (lv' := [(9, .int 0), (0, .ref r0), (1, .int a1), (2, .int r_2), (3, .int r_4), (4, .int z_7), (5, .int v5_11), (6, .int v6_11), (7, .int z_14), (8, .int z_16)]) hx hb dX14_make_238 hl (by decide) rfl (fun ls hl => ?_)
                  have L240 : ∀ (N : Nat) (v9_21 : Int32) (H_21 : Heap) (locs_21 : List Loc), jSt (dC, dI) B base G0 G0 EX14_makeN s.heap 0 0 [(r0, 16, 44, .int changedUnits_10), (r0, 16, 17, .ref zm), (r0, 16, 18, .ref xh), (r0, 16, 19, .ref xn), (r0, 16, 20, .ref xf), (r0, 16, 21, .ref xt), (r0, 16, 27, .ref xp), (r0, 16, 22, .ref xb), (r0, 16, 23, .ref xe)] [(zm, 117, 3100, ca 1, ms), (xh, 118, 3100, ca 1, mh), (xn, 119, 3100, ca 1, mx), (xf, 120, 3100, ca 1, mf), (xt, 121, 3100, ca 1, mt), (xp, 127, 3300, ca 1, mp), (xb, 122, 3100, ca 1, fb), (xe, 123, 3100, ca 1, fe)] [] H_21 locs_21 → (0 ≤ v9_21.toInt ∧ v9_21.toInt ≤ 1500) → (1500 - v9_21.toInt : Int) < N → ∀ ls : Array Slot, lv_has ls 10 [(0, .ref r0), (1, .int a1), (2, .int r_2), (3, .int r_4), (4, .int z_7), (5, .int v5_11), (6, .int v6_11), (7, .int z_14), (8, .int z_16), (9, .int v9_21)] → W p l e R s m ([.ref r0, .int a1] : List Value).toArray below meth c H_21 locs_21 0 0 Q (F0 m 240 ls []) := by
                    intro N
                    induction N with
                    | zero => intro v9_21 H_21 locs_21 hh_21  hi_21 hm; exact absurd hm (by omega)
                    | succ N L240 =>
                      intro v9_21 H_21 locs_21 hh_21  hi_21 hm_21 ls hl
                      obtain ⟨hi_21_0, hi_21_1⟩ := hi_21
                      refine lv_iload hx hb dX14_make_240 (lv_at hl 9 rfl) ?_
                      refine lv_iload hx hb dX14_make_242 (lv_at hl 8 rfl) ?_
                      refine lv_icmp_ge (tgt := 273) hx hb dX14_make_244 (by decide) (fun c_22 => ?_) (fun c_22 => ?_)
                      · skip
                        have c_22' : v9_21.toInt ≥ z_16.toInt := jb_ge (rfl) (rfl) c_22
                        refine lv_aload_n hx hb dX14_make_273 rfl (lv_at hl 0 rfl) ?_
                        refine lv_iload hx hb dX14_make_274 (lv_at hl 7 rfl) ?_
                        refine j7_put hx hb hown hK hh_21 hB hAp hB16 (C := RX14) (T := TX14) (N := 74) rfl (by decide) hg_r0 (i := 44) (by decide) hly_16_44 rfl hlk_550 rfl (ty := .int) (v := .int z_14) (by decide +kernel) rfl rfl (⟨_, rfl, by omega, by omega⟩) rfl (L1 := [(r0, 16, 17, .ref zm), (r0, 16, 18, .ref xh), (r0, 16, 19, .ref xn), (r0, 16, 20, .ref xf), (r0, 16, 21, .ref xt), (r0, 16, 27, .ref xp), (r0, 16, 22, .ref xb), (r0, 16, 23, .ref xe)]) [1, 2, 3, 4, 5, 6, 7, 8] rfl rfl rfl dX14_make_276 (fun H_23 locs_23 hh_23 => ?_)
                        clear hh_21
                        refine lv_iconst (v := 1) hx hb dX14_make_279 (by decide) ?_
                        rw [hQ]
                        exact W.zret (v := 1) hx hb hr (jb_nz (Or.inr rfl)) (fun t ht hW => ⟨⟨1, (), rfl, ⟨(Or.inr rfl), trivial⟩, hh_23.rt (M1 := []) [] rfl ht⟩, by rw [ht]; try exact hh_23.1.1, fun q h9 hq => by rw [ht]; try exact hh_23.1.2.1 q h9 hq⟩) hh_23.1.2.2 dX14_make_280
                      · skip
                        have c_22' : v9_21.toInt < z_16.toInt := jb_ge_n (rfl) (rfl) c_22
                        refine lv_aload_n hx hb dX14_make_247 rfl (lv_at hl 0 rfl) ?_
                        obtain ⟨v_24, hv_24, hh_25⟩ := hh_21.pin (C := RX14) (T := TX14) (N := 74) hB16 rfl (by decide) hg_r0 (i := 43) (by decide) rfl
                        clear hh_21
                        obtain ⟨changed_26, rfl, hg_changed_26⟩ := hv_24
                        refine j7_read hx hb hown hK (C := RX14) (T := TX14) (N := 74) rfl hly_16_43 hlk_78 (hh_25.at 0 rfl) dX14_make_248 ?_
                        refine lv_iload hx hb dX14_make_251 (lv_at hl 5 rfl) ?_
                        refine lv_iload hx hb dX14_make_253 (lv_at hl 4 rfl) ?_
                        refine lv_iadd hx hb dX14_make_255 ?_
                        refine lv_topi (fun z_27 ez_27 => ?_)
                        have hz_27 : z_27.toInt = v5_11.toInt + z_7.toInt := by rw [ez_27]; exact jb_iadd2 (rfl) (rfl) (by omega)
                        refine lv_iload hx hb dX14_make_256 (lv_at hl 9 rfl) ?_
                        refine lv_iadd hx hb dX14_make_258 ?_
                        refine lv_topi (fun z_28 ez_28 => ?_)
                        have hz_28 : z_28.toInt = z_27.toInt + v9_21.toInt := by rw [ez_28]; exact jb_iadd2 (rfl) (rfl) (by omega)
                        refine lv_aload_n hx hb dX14_make_259 rfl (lv_at hl 0 rfl) ?_
                        obtain ⟨v_29, hv_29, hh_30⟩ := hh_25.pin (C := RX14) (T := TX14) (N := 74) hB16 rfl (by decide) hg_r0 (i := 45) (by decide) rfl
                        clear hh_25
                        obtain ⟨tail_31, rfl, hg_tail_31⟩ := hv_29
                        refine j7_read hx hb hown hK (C := RX14) (T := TX14) (N := 74) rfl hly_16_45 hlk_81 (hh_30.at 0 rfl) dX14_make_260 ?_
                        refine lv_iload hx hb dX14_make_263 (lv_at hl 9 rfl) ?_
                        refine j7_iald hx hb hK hh_30 hB101 1 rfl (by decide) hg_tail_31 (x := v9_21.toInt) (rfl) (by omega) dX14_make_265 (fun z_32 (hz_32 : True) => ?_)
                        refine j7_iast hx hb hK hh_30 hB hB101 1 rfl (by decide) (by decide) rfl rfl rfl hg_changed_26 (x := z_28.toInt) (rfl) (by omega) (trivial) dX14_make_266 (fun H_33 locs_33 hh_33 => ?_)
                        clear hh_30
                        obtain ⟨z_34, ez_34⟩ : ∃ y : Int32, y = v9_21 + 1 := ⟨_, rfl⟩
                        refine lv_iinc (v := z_34) (lv' := [(9, .int z_34), (0, .ref r0), (1, .int a1), (2, .int r_2), (3, .int r_4), (4, .int z_7), (5, .int v5_11), (6, .int v6_11), (7, .int z_14), (8, .int z_16)]) hx hb dX14_make_267 hl (k := 9) rfl (by rw [ez_34]; rfl) (by decide) rfl (fun ls hl => ?_)
                        have hz_34 : z_34.toInt = v9_21.toInt + 1 := by rw [ez_34]; exact jb_iadd2 (rfl) (by decide) (by omega)
                        refine lv_goto (tgt := 240) hx hb dX14_make_270 (by decide) ?_
                        exact L240 z_34 _ _ (hh_33.sub (L1 := [(r0, 16, 44, .int changedUnits_10), (r0, 16, 17, .ref zm), (r0, 16, 18, .ref xh), (r0, 16, 19, .ref xn), (r0, 16, 20, .ref xf), (r0, 16, 21, .ref xt), (r0, 16, 27, .ref xp), (r0, 16, 22, .ref xb), (r0, 16, 23, .ref xe)]) [2, 3, 4, 5, 6, 7, 8, 9, 10] rfl (M1 := [(zm, 117, 3100, ca 1, ms), (xh, 118, 3100, ca 1, mh), (xn, 119, 3100, ca 1, mx), (xf, 120, 3100, ca 1, mf), (xt, 121, 3100, ca 1, mt), (xp, 127, 3300, ca 1, mp), (xb, 122, 3100, ca 1, fb), (xe, 123, 3100, ca 1, fe)]) [0, 1, 2, 3, 4, 5, 6, 7] rfl (I1 := []) [] rfl) (by first | omega | (refine ⟨?_, ?_⟩ <;> (first | omega | rfl | assumption | decide | exact Or.inl rfl | exact Or.inr rfl | (simp only; omega)))) (by omega) _ (lv_sub hl [1, 2, 3, 4, 5, 6, 7, 8, 9, 0] rfl)
                  exact L240 (1500 - (0 : Int32).toInt : Int).toNat.succ 0 _ _ hh_19 (by first | omega | (refine ⟨?_, ?_⟩ <;> (first | omega | rfl | assumption | decide | exact Or.inl rfl | exact Or.inr rfl | (simp only; omega)))) (by omega) _ (lv_sub hl [1, 2, 3, 4, 5, 6, 7, 8, 9, 0] rfl)
                · skip
                  have c_20' : v9_19.toInt < z_7.toInt := jb_ge_n (rfl) (rfl) c_20
                  refine lv_aload_n hx hb dX14_make_207 rfl (lv_at hl 0 rfl) ?_
                  obtain ⟨v_35, hv_35, hh_36⟩ := hh_19.pin (C := RX14) (T := TX14) (N := 74) hB16 rfl (by decide) hg_r0 (i := 43) (by decide) rfl
                  clear hh_19
                  obtain ⟨changed_37, rfl, hg_changed_37⟩ := hv_35
                  refine j7_read hx hb hown hK (C := RX14) (T := TX14) (N := 74) rfl hly_16_43 hlk_78 (hh_36.at 0 rfl) dX14_make_208 ?_
                  refine lv_iload hx hb dX14_make_211 (lv_at hl 5 rfl) ?_
                  refine lv_iload hx hb dX14_make_213 (lv_at hl 9 rfl) ?_
                  refine lv_iadd hx hb dX14_make_215 ?_
                  refine lv_topi (fun z_38 ez_38 => ?_)
                  have hz_38 : z_38.toInt = v5_11.toInt + v9_19.toInt := by rw [ez_38]; exact jb_iadd2 (rfl) (rfl) (by omega)
                  refine lv_aload_n hx hb dX14_make_216 rfl (lv_at hl 0 rfl) ?_
                  refine j7_read hx hb hown hK (C := RX14) (T := TX14) (N := 74) rfl hly_16_27 hlk_65 (hh_36.at 7 rfl) dX14_make_217 ?_
                  refine lv_aload_n hx hb dX14_make_220 rfl (lv_at hl 0 rfl) ?_
                  refine j7_read hx hb hown hK (C := RX14) (T := TX14) (N := 74) rfl hly_16_22 hlk_52 (hh_36.at 8 rfl) dX14_make_221 ?_
                  refine lv_iload_n hx hb dX14_make_224 rfl (lv_at hl 2 rfl) ?_
                  refine j7_ialdM hx hb hK hh_36 hB122 1 rfl (by decide) hg_xb (x := r_2.toInt) (rfl) (by omega) (j := 6) rfl dX14_make_225 (fun z_39 ez_39 (hz_39 : 0 ≤ z_39.toInt ∧ z_39.toInt ≤ 3100) => ?_)
                  have hqz_39 : z_39.toInt = jSo fb (r_2.toInt) := by unfold jSo; rw [ez_39]
                  refine lv_iload hx hb dX14_make_226 (lv_at hl 9 rfl) ?_
                  refine lv_iadd hx hb dX14_make_228 ?_
                  refine lv_topi (fun z_40 ez_40 => ?_)
                  have hz_40 : z_40.toInt = z_39.toInt + v9_19.toInt := by rw [ez_40]; exact jb_iadd2 (rfl) (rfl) (by omega)
                  refine j7_ialdM hx hb hK hh_36 hB127 1 rfl (by decide) hg_xp (x := z_40.toInt) (rfl) (by omega) (j := 5) rfl dX14_make_229 (fun z_41 ez_41 (hz_41 : True) => ?_)
                  have hqz_41 : z_41.toInt = jSo mp ((z_39.toInt + v9_19.toInt)) := by unfold jSo; rw [ez_41, show z_40.toInt = (z_39.toInt + v9_19.toInt) by omega]
                  refine j7_iast hx hb hK hh_36 hB hB101 1 rfl (by decide) (by decide) rfl rfl rfl hg_changed_37 (x := z_38.toInt) (rfl) (by omega) (trivial) dX14_make_230 (fun H_42 locs_42 hh_42 => ?_)
                  clear hh_36
                  obtain ⟨z_43, ez_43⟩ : ∃ y : Int32, y = v9_19 + 1 := ⟨_, rfl⟩
                  refine lv_iinc (v := z_43) (lv' := [(9, .int z_43), (0, .ref r0), (1, .int a1), (2, .int r_2), (3, .int r_4), (4, .int z_7), (5, .int v5_11), (6, .int v6_11), (7, .int z_14), (8, .int z_16)]) hx hb dX14_make_231 hl (k := 9) rfl (by rw [ez_43]; rfl) (by decide) rfl (fun ls hl => ?_)
                  have hz_43 : z_43.toInt = v9_19.toInt + 1 := by rw [ez_43]; exact jb_iadd2 (rfl) (by decide) (by omega)
                  refine lv_goto (tgt := 200) hx hb dX14_make_234 (by decide) ?_
                  exact L200 z_43 _ _ (hh_42.sub (L1 := [(r0, 16, 44, .int changedUnits_10), (r0, 16, 17, .ref zm), (r0, 16, 18, .ref xh), (r0, 16, 19, .ref xn), (r0, 16, 20, .ref xf), (r0, 16, 21, .ref xt), (r0, 16, 27, .ref xp), (r0, 16, 22, .ref xb), (r0, 16, 23, .ref xe)]) [1, 2, 3, 4, 5, 6, 7, 8, 9] rfl (M1 := [(zm, 117, 3100, ca 1, ms), (xh, 118, 3100, ca 1, mh), (xn, 119, 3100, ca 1, mx), (xf, 120, 3100, ca 1, mf), (xt, 121, 3100, ca 1, mt), (xp, 127, 3300, ca 1, mp), (xb, 122, 3100, ca 1, fb), (xe, 123, 3100, ca 1, fe)]) [0, 1, 2, 3, 4, 5, 6, 7] rfl (I1 := []) [] rfl) (by first | omega | (refine ⟨?_, ?_⟩ <;> (first | omega | rfl | assumption | decide | exact Or.inl rfl | exact Or.inr rfl | (simp only; omega)))) (by omega) _ (lv_sub hl [1, 2, 3, 4, 5, 6, 7, 8, 9, 0] rfl)
            exact L200 (3100 - (0 : Int32).toInt : Int).toNat.succ 0 _ _ hh_17 (by first | omega | (refine ⟨?_, ?_⟩ <;> (first | omega | rfl | assumption | decide | exact Or.inl rfl | exact Or.inr rfl | (simp only; omega)))) (by omega) _ (lv_sub hl [1, 2, 3, 4, 5, 6, 7, 8, 9, 0] rfl)
          · skip
            have c_18' : v9_17.toInt < z_16.toInt := jb_ge_n (rfl) (rfl) c_18
            refine lv_aload_n hx hb dX14_make_174 rfl (lv_at hl 0 rfl) ?_
            obtain ⟨v_44, hv_44, hh_45⟩ := hh_17.pin (C := RX14) (T := TX14) (N := 74) hB16 rfl (by decide) hg_r0 (i := 45) (by decide) rfl
            clear hh_17
            obtain ⟨tail_46, rfl, hg_tail_46⟩ := hv_44
            refine j7_read hx hb hown hK (C := RX14) (T := TX14) (N := 74) rfl hly_16_45 hlk_81 (hh_45.at 0 rfl) dX14_make_175 ?_
            refine lv_iload hx hb dX14_make_178 (lv_at hl 9 rfl) ?_
            refine lv_aload_n hx hb dX14_make_180 rfl (lv_at hl 0 rfl) ?_
            obtain ⟨v_47, hv_47, hh_48⟩ := hh_45.pin (C := RX14) (T := TX14) (N := 74) hB16 rfl (by decide) hg_r0 (i := 43) (by decide) rfl
            clear hh_45
            obtain ⟨changed_49, rfl, hg_changed_49⟩ := hv_47
            refine j7_read hx hb hown hK (C := RX14) (T := TX14) (N := 74) rfl hly_16_43 hlk_78 (hh_48.at 0 rfl) dX14_make_181 ?_
            refine lv_iload hx hb dX14_make_184 (lv_at hl 6 rfl) ?_
            refine lv_iload hx hb dX14_make_186 (lv_at hl 9 rfl) ?_
            refine lv_iadd hx hb dX14_make_188 ?_
            refine lv_topi (fun z_50 ez_50 => ?_)
            have hz_50 : z_50.toInt = v6_11.toInt + v9_17.toInt := by rw [ez_50]; exact jb_iadd2 (rfl) (rfl) (by omega)
            refine j7_iald hx hb hK hh_48 hB101 1 rfl (by decide) hg_changed_49 (x := z_50.toInt) (rfl) (by omega) dX14_make_189 (fun z_51 (hz_51 : True) => ?_)
            refine j7_iast hx hb hK hh_48 hB hB101 1 rfl (by decide) (by decide) rfl rfl rfl hg_tail_46 (x := v9_17.toInt) (rfl) (by omega) (trivial) dX14_make_190 (fun H_52 locs_52 hh_52 => ?_)
            clear hh_48
            obtain ⟨z_53, ez_53⟩ : ∃ y : Int32, y = v9_17 + 1 := ⟨_, rfl⟩
            refine lv_iinc (v := z_53) (lv' := [(9, .int z_53), (0, .ref r0), (1, .int a1), (2, .int r_2), (3, .int r_4), (4, .int z_7), (5, .int v5_11), (6, .int v6_11), (7, .int z_14), (8, .int z_16)]) hx hb dX14_make_191 hl (k := 9) rfl (by rw [ez_53]; rfl) (by decide) rfl (fun ls hl => ?_)
            have hz_53 : z_53.toInt = v9_17.toInt + 1 := by rw [ez_53]; exact jb_iadd2 (rfl) (by decide) (by omega)
            refine lv_goto (tgt := 167) hx hb dX14_make_194 (by decide) ?_
            exact L167 z_53 _ _ (hh_52.sub (L1 := [(r0, 16, 44, .int changedUnits_10), (r0, 16, 17, .ref zm), (r0, 16, 18, .ref xh), (r0, 16, 19, .ref xn), (r0, 16, 20, .ref xf), (r0, 16, 21, .ref xt), (r0, 16, 27, .ref xp), (r0, 16, 22, .ref xb), (r0, 16, 23, .ref xe)]) [2, 3, 4, 5, 6, 7, 8, 9, 10] rfl (M1 := [(zm, 117, 3100, ca 1, ms), (xh, 118, 3100, ca 1, mh), (xn, 119, 3100, ca 1, mx), (xf, 120, 3100, ca 1, mf), (xt, 121, 3100, ca 1, mt), (xp, 127, 3300, ca 1, mp), (xb, 122, 3100, ca 1, fb), (xe, 123, 3100, ca 1, fe)]) [0, 1, 2, 3, 4, 5, 6, 7] rfl (I1 := []) [] rfl) (by first | omega | (refine ⟨?_, ?_⟩ <;> (first | omega | rfl | assumption | decide | exact Or.inl rfl | exact Or.inr rfl | (simp only; omega)))) (by omega) _ (lv_sub hl [1, 2, 3, 4, 5, 6, 7, 8, 9, 0] rfl)
      exact L167 (1500 - (0 : Int32).toInt : Int).toNat.succ 0 _ _ hh_11 (by first | omega | (refine ⟨?_, ?_⟩ <;> (first | omega | rfl | assumption | decide | exact Or.inl rfl | exact Or.inr rfl | (simp only; omega)))) (by omega) _ (lv_sub hl [3, 4, 5, 6, 7, 8, 9, 2, 1, 0] rfl)
    · skip
      have c_15' : z_14.toInt > 1500 := jb_le_n (rfl) ((by decide)) c_15
      refine lv_iconst (v := 0) hx hb dX14_make_153 (by decide) ?_
      rw [hQ]
      exact W.zret (v := 0) hx hb hr (jb_nz (Or.inl rfl)) (fun t ht hW => ⟨⟨0, (), rfl, ⟨(Or.inl rfl), trivial⟩, hh_11.rt (M1 := []) [] rfl ht⟩, by rw [ht]; try exact hh_11.1.1, fun q h9 hq => by rw [ht]; try exact hh_11.1.2.1 q h9 hq⟩) hh_11.1.2.2 dX14_make_154
  refine lv_if_lt (tgt := 130) hx hb dX14_make_43 (by decide) (fun c_54 => ?_) (fun c_54 => ?_)
  · skip
    have c_54' : r_4.toInt < 0 := jb_lt (rfl) ((by decide)) c_54
    exact C130 0 changedUnits_10 _ _ hh_9 (by first | omega | (refine ⟨?_, ?_, ?_⟩ <;> (first | omega | rfl | assumption | decide | exact Or.inl rfl | exact Or.inr rfl | (simp only; omega)))) _ (lv_sub hl [5, 6, 4, 3, 2, 1, 0] rfl)
  · skip
    have c_54' : r_4.toInt ≥ 0 := jb_lt_n (rfl) ((by decide)) c_54
    obtain ⟨gp, gq⟩ := gh3 (by omega)
    rw [← hr_4_0] at gp gq
    refine lv_aload_n hx hb dX14_make_46 rfl (lv_at hl 5 rfl) ?_
    refine lv_iload_n hx hb dX14_make_47 rfl (lv_at hl 3 rfl) ?_
    refine j_ldcSw hx hb hown rstr553 dX14_make_48 ?_
    refine va_calli (A0 := jA base) (H0 := s.heap) (va_runV (As := [.int r_4, .ref str553]) (rest := []) ⟨hx, hb, hml, hown, hts⟩ (uX14_memberKN l dC dI ca base B hB hAp hB16 hB117 hB118 hB119 hB120 hB121 hB127 G0 H_3 r0 r_4 str553 5 (jChT "start") zm xh xn xf xt xp ms mh mx mf mt mp) (cwV 2 hts (jgV (jWr_55 _ (List.mem_of_getElem? (i := 15) rfl)) (jWr_55 _ (List.mem_of_getElem? (i := 16) rfl)) (jWr_55 _ (List.mem_of_getElem? (i := 17) rfl)) (jWr_1 _ (List.mem_of_getElem? (i := 5) rfl)) (jWr_55 _ (List.mem_of_getElem? (i := 18) rfl))) rfl rfl rfl (by decide +kernel) ⟨by rw [← hR]; exact Nat.le_of_ble_eq_true rfl, by rw [← hR]; exact Nat.le_of_ble_eq_true rfl⟩) ⟨fun a U g mk q => by obtain ⟨q0, q1, q2, qK, q10, q11, q12, q13, q14, q15, q16, q17, q18, q19, q20⟩ := q; exact ⟨q0, q1, q2, jG.calling g mk a qK, (q10.moved (Vm.Alike.refl U.vm)), q11, q12, q13, q14, q15, q16, q17, q18, q19, q20⟩, hh_9.recv (C := RX14) (T := TX14) (N := 74) hB16 rfl (by decide) hg_r0 hK, fun U hU hW => ⟨rfl, hU, hh_9.2.1, hG.step hW hU hh_9.1, (hTstr553.moved hW.alike).kept hh_9.1.2.1, hg_r0, hg_zm, hg_xh, hg_xn, hg_xf, hg_xt, hg_xp, (hh_9.2.2.1.sub (L1 := [(r0, 16, 17, .ref zm), (r0, 16, 18, .ref xh), (r0, 16, 19, .ref xn), (r0, 16, 20, .ref xf), (r0, 16, 21, .ref xt), (r0, 16, 27, .ref xp)]) [1, 2, 3, 4, 5, 6] rfl), (hh_9.2.2.2.2.2.2.2.1.sub (L1 := [(zm, 117, 3100, ca 1, ms), (xh, 118, 3100, ca 1, mh), (xn, 119, 3100, ca 1, mx), (xf, 120, 3100, ca 1, mf), (xt, 121, 3100, ca 1, mt), (xp, 127, 3300, ca 1, mp)]) [0, 1, 2, 3, 4, 5] rfl), by first | omega | (refine ⟨?_, ?_, ?_⟩ <;> (first | omega | rfl | assumption | decide | exact Or.inl rfl | exact Or.inr rfl | (simp only; omega)))⟩⟩ rfl rfl hl.1 rfl (lv_room (Nat.le_of_ble_eq_true rfl)) dX14_make_51 ⟨Nat.zero_le _, Nat.zero_le _⟩) hh_9.1 (fun q _ h => h) (fun q h => h) (fun r_56 u_55 t_55 H_55 locs_55 ht_55 hvm_55 hr_56 hb_55 hz_55 hk_55 hS_55 => ?_)
    rw [ht_55] at hb_55
    obtain ⟨hb_551, hb_552, hb_553, hb_554, hb_555⟩ := hb_55
    have hh_55 : jSt (dC, dI) B base G0 G0 EX14_makeN s.heap 0 0 [(r0, 16, 44, .int changedUnits_10), (r0, 16, 17, .ref zm), (r0, 16, 18, .ref xh), (r0, 16, 19, .ref xn), (r0, 16, 20, .ref xf), (r0, 16, 21, .ref xt), (r0, 16, 27, .ref xp), (r0, 16, 22, .ref xb), (r0, 16, 23, .ref xe)] [(zm, 117, 3100, ca 1, ms), (xh, 118, 3100, ca 1, mh), (xn, 119, 3100, ca 1, mx), (xf, 120, 3100, ca 1, mf), (xt, 121, 3100, ca 1, mt), (xp, 127, 3300, ca 1, mp), (xb, 122, 3100, ca 1, fb), (xe, 123, 3100, ca 1, fe)] [] H_55 locs_55 := ((hh_9.call hb_551 hb_552 hb_553 hb_554 hS_55 rfl (L1 := [(r0, 16, 44, .int changedUnits_10), (r0, 16, 17, .ref zm), (r0, 16, 18, .ref xh), (r0, 16, 19, .ref xn), (r0, 16, 20, .ref xf), (r0, 16, 21, .ref xt), (r0, 16, 27, .ref xp), (r0, 16, 22, .ref xb), (r0, 16, 23, .ref xe)]) [0, 1, 2, 3, 4, 5, 6, 7, 8] rfl rfl (M1 := [(zm, 117, 3100, ca 1, ms), (xh, 118, 3100, ca 1, mh), (xn, 119, 3100, ca 1, mx), (xf, 120, 3100, ca 1, mf), (xt, 121, 3100, ca 1, mt), (xp, 127, 3300, ca 1, mp), (xb, 122, 3100, ca 1, fb), (xe, 123, 3100, ca 1, fe)]) [0, 1, 2, 3, 4, 5, 6, 7] rfl rfl (I1 := []) [] rfl rfl).more hb_555)
    clear hh_9 ht_55 hvm_55 hz_55 hk_55 hS_55 hb_551 hb_552 hb_553 hb_554 hb_555
    obtain ⟨hr_56_0, hr_56_1, hr_56_2⟩ := hr_56
    rw [← hr_56_0] at gp
    refine lv_istore (lv' := [(7, .int r_56), (6, .int changedUnits_10), (5, .int 0), (4, .int z_7), (3, .int r_4), (2, .int r_2), (0, .ref r0), (1, .int a1)]) hx hb dX14_make_54 hl (by decide) rfl (fun ls hl => ?_)
    refine lv_aload_n hx hb dX14_make_56 rfl (lv_at hl 6 rfl) ?_
    refine lv_iload_n hx hb dX14_make_57 rfl (lv_at hl 4 rfl) ?_
    refine j_ldcSw hx hb hown rstr555 dX14_make_58 ?_
    refine va_calli (A0 := jA base) (H0 := s.heap) (va_runV (As := [.int r_4, .ref str555]) (rest := []) ⟨hx, hb, hml, hown, hts⟩ (uX14_memberKN l dC dI ca base B hB hAp hB16 hB117 hB118 hB119 hB120 hB121 hB127 G0 H_55 r0 r_4 str555 3 (jChT "end") zm xh xn xf xt xp ms mh mx mf mt mp) (cwV 2 hts (jgV (jWr_55 _ (List.mem_of_getElem? (i := 15) rfl)) (jWr_55 _ (List.mem_of_getElem? (i := 16) rfl)) (jWr_55 _ (List.mem_of_getElem? (i := 17) rfl)) (jWr_1 _ (List.mem_of_getElem? (i := 5) rfl)) (jWr_55 _ (List.mem_of_getElem? (i := 18) rfl))) rfl rfl rfl (by decide +kernel) ⟨by rw [← hR]; exact Nat.le_of_ble_eq_true rfl, by rw [← hR]; exact Nat.le_of_ble_eq_true rfl⟩) ⟨fun a U g mk q => by obtain ⟨q0, q1, q2, qK, q10, q11, q12, q13, q14, q15, q16, q17, q18, q19, q20⟩ := q; exact ⟨q0, q1, q2, jG.calling g mk a qK, (q10.moved (Vm.Alike.refl U.vm)), q11, q12, q13, q14, q15, q16, q17, q18, q19, q20⟩, hh_55.recv (C := RX14) (T := TX14) (N := 74) hB16 rfl (by decide) hg_r0 hK, fun U hU hW => ⟨rfl, hU, hh_55.2.1, hG.step hW hU hh_55.1, (hTstr555.moved hW.alike).kept hh_55.1.2.1, hg_r0, hg_zm, hg_xh, hg_xn, hg_xf, hg_xt, hg_xp, (hh_55.2.2.1.sub (L1 := [(r0, 16, 17, .ref zm), (r0, 16, 18, .ref xh), (r0, 16, 19, .ref xn), (r0, 16, 20, .ref xf), (r0, 16, 21, .ref xt), (r0, 16, 27, .ref xp)]) [1, 2, 3, 4, 5, 6] rfl), (hh_55.2.2.2.2.2.2.2.1.sub (L1 := [(zm, 117, 3100, ca 1, ms), (xh, 118, 3100, ca 1, mh), (xn, 119, 3100, ca 1, mx), (xf, 120, 3100, ca 1, mf), (xt, 121, 3100, ca 1, mt), (xp, 127, 3300, ca 1, mp)]) [0, 1, 2, 3, 4, 5] rfl), by first | omega | (refine ⟨?_, ?_, ?_⟩ <;> (first | omega | rfl | assumption | decide | exact Or.inl rfl | exact Or.inr rfl | (simp only; omega)))⟩⟩ rfl rfl hl.1 rfl (lv_room (Nat.le_of_ble_eq_true rfl)) dX14_make_61 ⟨Nat.zero_le _, Nat.zero_le _⟩) hh_55.1 (fun q _ h => h) (fun q h => h) (fun r_58 u_57 t_57 H_57 locs_57 ht_57 hvm_57 hr_58 hb_57 hz_57 hk_57 hS_57 => ?_)
    rw [ht_57] at hb_57
    obtain ⟨hb_571, hb_572, hb_573, hb_574, hb_575⟩ := hb_57
    have hh_57 : jSt (dC, dI) B base G0 G0 EX14_makeN s.heap 0 0 [(r0, 16, 44, .int changedUnits_10), (r0, 16, 17, .ref zm), (r0, 16, 18, .ref xh), (r0, 16, 19, .ref xn), (r0, 16, 20, .ref xf), (r0, 16, 21, .ref xt), (r0, 16, 27, .ref xp), (r0, 16, 22, .ref xb), (r0, 16, 23, .ref xe)] [(zm, 117, 3100, ca 1, ms), (xh, 118, 3100, ca 1, mh), (xn, 119, 3100, ca 1, mx), (xf, 120, 3100, ca 1, mf), (xt, 121, 3100, ca 1, mt), (xp, 127, 3300, ca 1, mp), (xb, 122, 3100, ca 1, fb), (xe, 123, 3100, ca 1, fe)] [] H_57 locs_57 := ((hh_55.call hb_571 hb_572 hb_573 hb_574 hS_57 rfl (L1 := [(r0, 16, 44, .int changedUnits_10), (r0, 16, 17, .ref zm), (r0, 16, 18, .ref xh), (r0, 16, 19, .ref xn), (r0, 16, 20, .ref xf), (r0, 16, 21, .ref xt), (r0, 16, 27, .ref xp), (r0, 16, 22, .ref xb), (r0, 16, 23, .ref xe)]) [0, 1, 2, 3, 4, 5, 6, 7, 8] rfl rfl (M1 := [(zm, 117, 3100, ca 1, ms), (xh, 118, 3100, ca 1, mh), (xn, 119, 3100, ca 1, mx), (xf, 120, 3100, ca 1, mf), (xt, 121, 3100, ca 1, mt), (xp, 127, 3300, ca 1, mp), (xb, 122, 3100, ca 1, fb), (xe, 123, 3100, ca 1, fe)]) [0, 1, 2, 3, 4, 5, 6, 7] rfl rfl (I1 := []) [] rfl rfl).more hb_575)
    clear hh_55 ht_57 hvm_57 hz_57 hk_57 hS_57 hb_571 hb_572 hb_573 hb_574 hb_575
    obtain ⟨hr_58_0, hr_58_1, hr_58_2⟩ := hr_58
    rw [← hr_58_0] at gq
    refine lv_istore (lv' := [(8, .int r_58), (7, .int r_56), (6, .int changedUnits_10), (5, .int 0), (4, .int z_7), (3, .int r_4), (2, .int r_2), (0, .ref r0), (1, .int a1)]) hx hb dX14_make_64 hl (by decide) rfl (fun ls hl => ?_)
    refine lv_aload_n hx hb dX14_make_66 rfl (lv_at hl 7 rfl) ?_
    obtain ⟨v_59, hv_59, hh_60⟩ := hh_57.pin (C := RX14) (T := TX14) (N := 74) hB16 rfl (by decide) hg_r0 (i := 43) (by decide) rfl
    clear hh_57
    obtain ⟨changed_61, rfl, hg_changed_61⟩ := hv_59
    refine j7_read hx hb hown hK (C := RX14) (T := TX14) (N := 74) rfl hly_16_43 hlk_78 (hh_60.at 0 rfl) dX14_make_67 ?_
    refine lv_aload_n hx hb dX14_make_70 rfl (lv_at hl 7 rfl) ?_
    refine j7_read hx hb hown hK (C := RX14) (T := TX14) (N := 74) rfl hly_16_44 hlk_550 (hh_60.at 1 rfl) dX14_make_71 ?_
    refine lv_aload_n hx hb dX14_make_74 rfl (lv_at hl 7 rfl) ?_
    refine lv_iload hx hb dX14_make_75 (lv_at hl 1 rfl) ?_
    refine va_calli (A0 := jA base) (H0 := s.heap) (va_runV (As := [.int r_56]) (rest := [.int changedUnits_10, .ref changed_61]) ⟨hx, hb, hml, hown, hts⟩ (uX14_lineOfN l dC dI ca base B hB hAp hB16 hB117 hB118 hB119 hB120 hB121 hB125 hB127 G0 H_57 r0 r_56 zm xh xn xf xt xp ms mh mx mf mt mp) (cwV 1 hts (jgV (jWr_73 _ (List.mem_of_getElem? (i := 11) rfl)) (jWr_73 _ (List.mem_of_getElem? (i := 12) rfl)) (jWr_73 _ (List.mem_of_getElem? (i := 13) rfl)) (jWr_1 _ (List.mem_of_getElem? (i := 5) rfl)) (jWr_73 _ (List.mem_of_getElem? (i := 14) rfl))) rfl rfl rfl (by decide +kernel) ⟨by rw [← hR]; exact Nat.le_of_ble_eq_true rfl, by rw [← hR]; exact Nat.le_of_ble_eq_true rfl⟩) ⟨fun a U g mk q => by obtain ⟨q0, q1, q2, qK, q10, q11, q12, q13, q14, q15, q16, q17, q18, q19⟩ := q; exact ⟨q0, q1, q2, jG.calling g mk a qK, q10, q11, q12, q13, q14, q15, q16, q17, q18, q19⟩, hh_60.recv (C := RX14) (T := TX14) (N := 74) hB16 rfl (by decide) hg_r0 hK, fun U hU hW => ⟨rfl, hU, hh_60.2.1, hG.step hW hU hh_60.1, hg_r0, hg_zm, hg_xh, hg_xn, hg_xf, hg_xt, hg_xp, (hh_60.2.2.1.sub (L1 := [(r0, 16, 17, .ref zm), (r0, 16, 18, .ref xh), (r0, 16, 19, .ref xn), (r0, 16, 20, .ref xf), (r0, 16, 21, .ref xt), (r0, 16, 27, .ref xp)]) [2, 3, 4, 5, 6, 7] rfl), (hh_60.2.2.2.2.2.2.2.1.sub (L1 := [(zm, 117, 3100, ca 1, ms), (xh, 118, 3100, ca 1, mh), (xn, 119, 3100, ca 1, mx), (xf, 120, 3100, ca 1, mf), (xt, 121, 3100, ca 1, mt), (xp, 127, 3300, ca 1, mp)]) [0, 1, 2, 3, 4, 5] rfl), ⟨(by first | assumption | exact gp.1 | omega), (by first | omega | rfl | assumption | exact gp.1), (by first | omega | rfl | assumption | exact gp.1)⟩⟩⟩ rfl rfl hl.1 rfl (lv_room (Nat.le_of_ble_eq_true rfl)) dX14_make_77 ⟨Nat.zero_le _, Nat.zero_le _⟩) hh_60.1 (fun q _ h => h) (fun q h => h) (fun r_63 u_62 t_62 H_62 locs_62 ht_62 hvm_62 hr_63 hb_62 hz_62 hk_62 hS_62 => ?_)
    rw [ht_62] at hb_62
    obtain ⟨hb_621, hb_622, hb_623, hb_624, hb_625⟩ := hb_62
    have hh_62 : jSt (dC, dI) B base G0 G0 EX14_makeN s.heap 0 0 [(r0, 16, 43, .ref changed_61), (r0, 16, 44, .int changedUnits_10), (r0, 16, 17, .ref zm), (r0, 16, 18, .ref xh), (r0, 16, 19, .ref xn), (r0, 16, 20, .ref xf), (r0, 16, 21, .ref xt), (r0, 16, 27, .ref xp), (r0, 16, 22, .ref xb), (r0, 16, 23, .ref xe)] [(zm, 117, 3100, ca 1, ms), (xh, 118, 3100, ca 1, mh), (xn, 119, 3100, ca 1, mx), (xf, 120, 3100, ca 1, mf), (xt, 121, 3100, ca 1, mt), (xp, 127, 3300, ca 1, mp), (xb, 122, 3100, ca 1, fb), (xe, 123, 3100, ca 1, fe)] [] H_62 locs_62 := ((hh_60.call hb_621 hb_622 hb_623 hb_624 hS_62 rfl (L1 := [(r0, 16, 43, .ref changed_61), (r0, 16, 44, .int changedUnits_10), (r0, 16, 17, .ref zm), (r0, 16, 18, .ref xh), (r0, 16, 19, .ref xn), (r0, 16, 20, .ref xf), (r0, 16, 21, .ref xt), (r0, 16, 27, .ref xp), (r0, 16, 22, .ref xb), (r0, 16, 23, .ref xe)]) [0, 1, 2, 3, 4, 5, 6, 7, 8, 9] rfl rfl (M1 := [(zm, 117, 3100, ca 1, ms), (xh, 118, 3100, ca 1, mh), (xn, 119, 3100, ca 1, mx), (xf, 120, 3100, ca 1, mf), (xt, 121, 3100, ca 1, mt), (xp, 127, 3300, ca 1, mp), (xb, 122, 3100, ca 1, fb), (xe, 123, 3100, ca 1, fe)]) [0, 1, 2, 3, 4, 5, 6, 7] rfl rfl (I1 := []) [] rfl rfl).more hb_625)
    clear hh_60 ht_62 hvm_62 hz_62 hk_62 hS_62 hb_621 hb_622 hb_623 hb_624 hb_625
    refine lv_aload_n hx hb dX14_make_80 rfl (lv_at hl 7 rfl) ?_
    refine lv_iload hx hb dX14_make_81 (lv_at hl 1 rfl) ?_
    refine va_calli (A0 := jA base) (H0 := s.heap) (va_runV (As := [.int r_56]) (rest := [.int r_63, .int changedUnits_10, .ref changed_61]) ⟨hx, hb, hml, hown, hts⟩ (uX14_characterOfN l dC dI ca base B hB hAp hB16 hB117 hB118 hB119 hB120 hB121 hB125 hB127 G0 H_62 r0 r_56 zm xh xn xf xt xp ms mh mx mf mt mp) (cwV 1 hts (jgV (jWr_73 _ (List.mem_of_getElem? (i := 15) rfl)) (jWr_73 _ (List.mem_of_getElem? (i := 16) rfl)) (jWr_73 _ (List.mem_of_getElem? (i := 17) rfl)) (jWr_1 _ (List.mem_of_getElem? (i := 5) rfl)) (jWr_73 _ (List.mem_of_getElem? (i := 18) rfl))) rfl rfl rfl (by decide +kernel) ⟨by rw [← hR]; exact Nat.le_of_ble_eq_true rfl, by rw [← hR]; exact Nat.le_of_ble_eq_true rfl⟩) ⟨fun a U g mk q => by obtain ⟨q0, q1, q2, qK, q10, q11, q12, q13, q14, q15, q16, q17, q18, q19⟩ := q; exact ⟨q0, q1, q2, jG.calling g mk a qK, q10, q11, q12, q13, q14, q15, q16, q17, q18, q19⟩, hh_62.recv (C := RX14) (T := TX14) (N := 74) hB16 rfl (by decide) hg_r0 hK, fun U hU hW => ⟨rfl, hU, hh_62.2.1, hG.step hW hU hh_62.1, hg_r0, hg_zm, hg_xh, hg_xn, hg_xf, hg_xt, hg_xp, (hh_62.2.2.1.sub (L1 := [(r0, 16, 17, .ref zm), (r0, 16, 18, .ref xh), (r0, 16, 19, .ref xn), (r0, 16, 20, .ref xf), (r0, 16, 21, .ref xt), (r0, 16, 27, .ref xp)]) [2, 3, 4, 5, 6, 7] rfl), (hh_62.2.2.2.2.2.2.2.1.sub (L1 := [(zm, 117, 3100, ca 1, ms), (xh, 118, 3100, ca 1, mh), (xn, 119, 3100, ca 1, mx), (xf, 120, 3100, ca 1, mf), (xt, 121, 3100, ca 1, mt), (xp, 127, 3300, ca 1, mp)]) [0, 1, 2, 3, 4, 5] rfl), ⟨(by first | assumption | exact gp.2 | omega), (by first | omega | rfl | assumption | exact gp.2), (by first | omega | rfl | assumption | exact gp.2)⟩⟩⟩ rfl rfl hl.1 rfl (lv_room (Nat.le_of_ble_eq_true rfl)) dX14_make_83 ⟨Nat.zero_le _, Nat.zero_le _⟩) hh_62.1 (fun q _ h => h) (fun q h => h) (fun r_65 u_64 t_64 H_64 locs_64 ht_64 hvm_64 hr_65 hb_64 hz_64 hk_64 hS_64 => ?_)
    rw [ht_64] at hb_64
    obtain ⟨hb_641, hb_642, hb_643, hb_644, hb_645⟩ := hb_64
    have hh_64 : jSt (dC, dI) B base G0 G0 EX14_makeN s.heap 0 0 [(r0, 16, 43, .ref changed_61), (r0, 16, 44, .int changedUnits_10), (r0, 16, 17, .ref zm), (r0, 16, 18, .ref xh), (r0, 16, 19, .ref xn), (r0, 16, 20, .ref xf), (r0, 16, 21, .ref xt), (r0, 16, 27, .ref xp), (r0, 16, 22, .ref xb), (r0, 16, 23, .ref xe)] [(zm, 117, 3100, ca 1, ms), (xh, 118, 3100, ca 1, mh), (xn, 119, 3100, ca 1, mx), (xf, 120, 3100, ca 1, mf), (xt, 121, 3100, ca 1, mt), (xp, 127, 3300, ca 1, mp), (xb, 122, 3100, ca 1, fb), (xe, 123, 3100, ca 1, fe)] [] H_64 locs_64 := ((hh_62.call hb_641 hb_642 hb_643 hb_644 hS_64 rfl (L1 := [(r0, 16, 43, .ref changed_61), (r0, 16, 44, .int changedUnits_10), (r0, 16, 17, .ref zm), (r0, 16, 18, .ref xh), (r0, 16, 19, .ref xn), (r0, 16, 20, .ref xf), (r0, 16, 21, .ref xt), (r0, 16, 27, .ref xp), (r0, 16, 22, .ref xb), (r0, 16, 23, .ref xe)]) [0, 1, 2, 3, 4, 5, 6, 7, 8, 9] rfl rfl (M1 := [(zm, 117, 3100, ca 1, ms), (xh, 118, 3100, ca 1, mh), (xn, 119, 3100, ca 1, mx), (xf, 120, 3100, ca 1, mf), (xt, 121, 3100, ca 1, mt), (xp, 127, 3300, ca 1, mp), (xb, 122, 3100, ca 1, fb), (xe, 123, 3100, ca 1, fe)]) [0, 1, 2, 3, 4, 5, 6, 7] rfl rfl (I1 := []) [] rfl rfl).more hb_645)
    clear hh_62 ht_64 hvm_64 hz_64 hk_64 hS_64 hb_641 hb_642 hb_643 hb_644 hb_645
    refine va_calli (A0 := jA base) (H0 := s.heap) (va_runS (As := [.ref changed_61, .int changedUnits_10, .int r_63, .int r_65]) (rest := []) ⟨hx, hb, hml, hown, hts⟩ (uX14_placeOf l dC dI ca base B hB hAp hB101 G0 H_64 changed_61 changedUnits_10 r_63 r_65 3100) (va_cwS 4 hts (jgS (jWr_73 _ (List.mem_of_getElem? (i := 19) rfl)) (jWr_73 _ (List.mem_of_getElem? (i := 20) rfl)) (jWr_1 _ (List.mem_of_getElem? (i := 5) rfl)) (jWr_73 _ (List.mem_of_getElem? (i := 21) rfl))) rfl rfl rfl (by decide +kernel) ⟨by rw [← hR]; exact Nat.le_of_ble_eq_true rfl, by rw [← hR]; exact Nat.le_of_ble_eq_true rfl⟩) ⟨fun a U g mk q => by obtain ⟨q0, q1, q2, qK, q10, q11, q12⟩ := q; exact ⟨q0, q1, q2, jG.calling g mk a qK, q10, q11, q12⟩, fun U hU hW => ⟨rfl, hU, hh_64.2.1, hG.step hW hU hh_64.1, hg_changed_61, jP.nil, by first | omega | (refine ⟨?_, ?_, ?_⟩ <;> (first | omega | rfl | assumption | decide | exact Or.inl rfl | exact Or.inr rfl | (simp only; omega)))⟩⟩ rfl rfl hl.1 rfl (lv_room (Nat.le_of_ble_eq_true rfl)) dX14_make_86 ⟨Nat.zero_le _, Nat.zero_le _⟩) hh_64.1 (fun q _ h => h) (fun q h => h) (fun r_67 u_66 t_66 H_66 locs_66 ht_66 hvm_66 hr_67 hb_66 hz_66 hk_66 hS_66 => ?_)
    rw [ht_66] at hb_66
    obtain ⟨hb_661, hb_662, hb_663, hb_664, hb_665⟩ := hb_66
    have hh_66 : jSt (dC, dI) B base G0 G0 EX14_makeN s.heap 0 0 [(r0, 16, 43, .ref changed_61), (r0, 16, 44, .int changedUnits_10), (r0, 16, 17, .ref zm), (r0, 16, 18, .ref xh), (r0, 16, 19, .ref xn), (r0, 16, 20, .ref xf), (r0, 16, 21, .ref xt), (r0, 16, 27, .ref xp), (r0, 16, 22, .ref xb), (r0, 16, 23, .ref xe)] [(zm, 117, 3100, ca 1, ms), (xh, 118, 3100, ca 1, mh), (xn, 119, 3100, ca 1, mx), (xf, 120, 3100, ca 1, mf), (xt, 121, 3100, ca 1, mt), (xp, 127, 3300, ca 1, mp), (xb, 122, 3100, ca 1, fb), (xe, 123, 3100, ca 1, fe)] [] H_66 locs_66 := ((hh_64.call hb_661 hb_662 hb_663 hb_664 hS_66 rfl (L1 := [(r0, 16, 43, .ref changed_61), (r0, 16, 44, .int changedUnits_10), (r0, 16, 17, .ref zm), (r0, 16, 18, .ref xh), (r0, 16, 19, .ref xn), (r0, 16, 20, .ref xf), (r0, 16, 21, .ref xt), (r0, 16, 27, .ref xp), (r0, 16, 22, .ref xb), (r0, 16, 23, .ref xe)]) [0, 1, 2, 3, 4, 5, 6, 7, 8, 9] rfl rfl (M1 := [(zm, 117, 3100, ca 1, ms), (xh, 118, 3100, ca 1, mh), (xn, 119, 3100, ca 1, mx), (xf, 120, 3100, ca 1, mf), (xt, 121, 3100, ca 1, mt), (xp, 127, 3300, ca 1, mp), (xb, 122, 3100, ca 1, fb), (xe, 123, 3100, ca 1, fe)]) [0, 1, 2, 3, 4, 5, 6, 7] rfl rfl (I1 := []) [] rfl rfl).more hb_665)
    clear hh_64 ht_66 hvm_66 hz_66 hk_66 hS_66 hb_661 hb_662 hb_663 hb_664 hb_665
    obtain ⟨hr_67_0, hr_67_1⟩ := hr_67
    refine lv_istore (lv' := [(5, .int r_67), (8, .int r_58), (7, .int r_56), (6, .int changedUnits_10), (4, .int z_7), (3, .int r_4), (2, .int r_2), (0, .ref r0), (1, .int a1)]) hx hb dX14_make_89 hl (by decide) rfl (fun ls hl => ?_)
    refine lv_aload_n hx hb dX14_make_91 rfl (lv_at hl 7 rfl) ?_
    refine j7_read hx hb hown hK (C := RX14) (T := TX14) (N := 74) rfl hly_16_43 hlk_78 (hh_66.at 0 rfl) dX14_make_92 ?_
    refine lv_aload_n hx hb dX14_make_95 rfl (lv_at hl 7 rfl) ?_
    refine j7_read hx hb hown hK (C := RX14) (T := TX14) (N := 74) rfl hly_16_44 hlk_550 (hh_66.at 1 rfl) dX14_make_96 ?_
    refine lv_aload_n hx hb dX14_make_99 rfl (lv_at hl 7 rfl) ?_
    refine lv_iload hx hb dX14_make_100 (lv_at hl 1 rfl) ?_
    refine va_calli (A0 := jA base) (H0 := s.heap) (va_runV (As := [.int r_58]) (rest := [.int changedUnits_10, .ref changed_61]) ⟨hx, hb, hml, hown, hts⟩ (uX14_lineOfN l dC dI ca base B hB hAp hB16 hB117 hB118 hB119 hB120 hB121 hB125 hB127 G0 H_66 r0 r_58 zm xh xn xf xt xp ms mh mx mf mt mp) (cwV 1 hts (jgV (jWr_73 _ (List.mem_of_getElem? (i := 11) rfl)) (jWr_73 _ (List.mem_of_getElem? (i := 12) rfl)) (jWr_73 _ (List.mem_of_getElem? (i := 13) rfl)) (jWr_1 _ (List.mem_of_getElem? (i := 5) rfl)) (jWr_73 _ (List.mem_of_getElem? (i := 14) rfl))) rfl rfl rfl (by decide +kernel) ⟨by rw [← hR]; exact Nat.le_of_ble_eq_true rfl, by rw [← hR]; exact Nat.le_of_ble_eq_true rfl⟩) ⟨fun a U g mk q => by obtain ⟨q0, q1, q2, qK, q10, q11, q12, q13, q14, q15, q16, q17, q18, q19⟩ := q; exact ⟨q0, q1, q2, jG.calling g mk a qK, q10, q11, q12, q13, q14, q15, q16, q17, q18, q19⟩, hh_66.recv (C := RX14) (T := TX14) (N := 74) hB16 rfl (by decide) hg_r0 hK, fun U hU hW => ⟨rfl, hU, hh_66.2.1, hG.step hW hU hh_66.1, hg_r0, hg_zm, hg_xh, hg_xn, hg_xf, hg_xt, hg_xp, (hh_66.2.2.1.sub (L1 := [(r0, 16, 17, .ref zm), (r0, 16, 18, .ref xh), (r0, 16, 19, .ref xn), (r0, 16, 20, .ref xf), (r0, 16, 21, .ref xt), (r0, 16, 27, .ref xp)]) [2, 3, 4, 5, 6, 7] rfl), (hh_66.2.2.2.2.2.2.2.1.sub (L1 := [(zm, 117, 3100, ca 1, ms), (xh, 118, 3100, ca 1, mh), (xn, 119, 3100, ca 1, mx), (xf, 120, 3100, ca 1, mf), (xt, 121, 3100, ca 1, mt), (xp, 127, 3300, ca 1, mp)]) [0, 1, 2, 3, 4, 5] rfl), ⟨(by first | assumption | exact gq.1 | omega), (by first | omega | rfl | assumption | exact gq.1), (by first | omega | rfl | assumption | exact gq.1)⟩⟩⟩ rfl rfl hl.1 rfl (lv_room (Nat.le_of_ble_eq_true rfl)) dX14_make_102 ⟨Nat.zero_le _, Nat.zero_le _⟩) hh_66.1 (fun q _ h => h) (fun q h => h) (fun r_69 u_68 t_68 H_68 locs_68 ht_68 hvm_68 hr_69 hb_68 hz_68 hk_68 hS_68 => ?_)
    rw [ht_68] at hb_68
    obtain ⟨hb_681, hb_682, hb_683, hb_684, hb_685⟩ := hb_68
    have hh_68 : jSt (dC, dI) B base G0 G0 EX14_makeN s.heap 0 0 [(r0, 16, 43, .ref changed_61), (r0, 16, 44, .int changedUnits_10), (r0, 16, 17, .ref zm), (r0, 16, 18, .ref xh), (r0, 16, 19, .ref xn), (r0, 16, 20, .ref xf), (r0, 16, 21, .ref xt), (r0, 16, 27, .ref xp), (r0, 16, 22, .ref xb), (r0, 16, 23, .ref xe)] [(zm, 117, 3100, ca 1, ms), (xh, 118, 3100, ca 1, mh), (xn, 119, 3100, ca 1, mx), (xf, 120, 3100, ca 1, mf), (xt, 121, 3100, ca 1, mt), (xp, 127, 3300, ca 1, mp), (xb, 122, 3100, ca 1, fb), (xe, 123, 3100, ca 1, fe)] [] H_68 locs_68 := ((hh_66.call hb_681 hb_682 hb_683 hb_684 hS_68 rfl (L1 := [(r0, 16, 43, .ref changed_61), (r0, 16, 44, .int changedUnits_10), (r0, 16, 17, .ref zm), (r0, 16, 18, .ref xh), (r0, 16, 19, .ref xn), (r0, 16, 20, .ref xf), (r0, 16, 21, .ref xt), (r0, 16, 27, .ref xp), (r0, 16, 22, .ref xb), (r0, 16, 23, .ref xe)]) [0, 1, 2, 3, 4, 5, 6, 7, 8, 9] rfl rfl (M1 := [(zm, 117, 3100, ca 1, ms), (xh, 118, 3100, ca 1, mh), (xn, 119, 3100, ca 1, mx), (xf, 120, 3100, ca 1, mf), (xt, 121, 3100, ca 1, mt), (xp, 127, 3300, ca 1, mp), (xb, 122, 3100, ca 1, fb), (xe, 123, 3100, ca 1, fe)]) [0, 1, 2, 3, 4, 5, 6, 7] rfl rfl (I1 := []) [] rfl rfl).more hb_685)
    clear hh_66 ht_68 hvm_68 hz_68 hk_68 hS_68 hb_681 hb_682 hb_683 hb_684 hb_685
    refine lv_aload_n hx hb dX14_make_105 rfl (lv_at hl 7 rfl) ?_
    refine lv_iload hx hb dX14_make_106 (lv_at hl 1 rfl) ?_
    refine va_calli (A0 := jA base) (H0 := s.heap) (va_runV (As := [.int r_58]) (rest := [.int r_69, .int changedUnits_10, .ref changed_61]) ⟨hx, hb, hml, hown, hts⟩ (uX14_characterOfN l dC dI ca base B hB hAp hB16 hB117 hB118 hB119 hB120 hB121 hB125 hB127 G0 H_68 r0 r_58 zm xh xn xf xt xp ms mh mx mf mt mp) (cwV 1 hts (jgV (jWr_73 _ (List.mem_of_getElem? (i := 15) rfl)) (jWr_73 _ (List.mem_of_getElem? (i := 16) rfl)) (jWr_73 _ (List.mem_of_getElem? (i := 17) rfl)) (jWr_1 _ (List.mem_of_getElem? (i := 5) rfl)) (jWr_73 _ (List.mem_of_getElem? (i := 18) rfl))) rfl rfl rfl (by decide +kernel) ⟨by rw [← hR]; exact Nat.le_of_ble_eq_true rfl, by rw [← hR]; exact Nat.le_of_ble_eq_true rfl⟩) ⟨fun a U g mk q => by obtain ⟨q0, q1, q2, qK, q10, q11, q12, q13, q14, q15, q16, q17, q18, q19⟩ := q; exact ⟨q0, q1, q2, jG.calling g mk a qK, q10, q11, q12, q13, q14, q15, q16, q17, q18, q19⟩, hh_68.recv (C := RX14) (T := TX14) (N := 74) hB16 rfl (by decide) hg_r0 hK, fun U hU hW => ⟨rfl, hU, hh_68.2.1, hG.step hW hU hh_68.1, hg_r0, hg_zm, hg_xh, hg_xn, hg_xf, hg_xt, hg_xp, (hh_68.2.2.1.sub (L1 := [(r0, 16, 17, .ref zm), (r0, 16, 18, .ref xh), (r0, 16, 19, .ref xn), (r0, 16, 20, .ref xf), (r0, 16, 21, .ref xt), (r0, 16, 27, .ref xp)]) [2, 3, 4, 5, 6, 7] rfl), (hh_68.2.2.2.2.2.2.2.1.sub (L1 := [(zm, 117, 3100, ca 1, ms), (xh, 118, 3100, ca 1, mh), (xn, 119, 3100, ca 1, mx), (xf, 120, 3100, ca 1, mf), (xt, 121, 3100, ca 1, mt), (xp, 127, 3300, ca 1, mp)]) [0, 1, 2, 3, 4, 5] rfl), ⟨(by first | assumption | exact gq.2 | omega), (by first | omega | rfl | assumption | exact gq.2), (by first | omega | rfl | assumption | exact gq.2)⟩⟩⟩ rfl rfl hl.1 rfl (lv_room (Nat.le_of_ble_eq_true rfl)) dX14_make_108 ⟨Nat.zero_le _, Nat.zero_le _⟩) hh_68.1 (fun q _ h => h) (fun q h => h) (fun r_71 u_70 t_70 H_70 locs_70 ht_70 hvm_70 hr_71 hb_70 hz_70 hk_70 hS_70 => ?_)
    rw [ht_70] at hb_70
    obtain ⟨hb_701, hb_702, hb_703, hb_704, hb_705⟩ := hb_70
    have hh_70 : jSt (dC, dI) B base G0 G0 EX14_makeN s.heap 0 0 [(r0, 16, 43, .ref changed_61), (r0, 16, 44, .int changedUnits_10), (r0, 16, 17, .ref zm), (r0, 16, 18, .ref xh), (r0, 16, 19, .ref xn), (r0, 16, 20, .ref xf), (r0, 16, 21, .ref xt), (r0, 16, 27, .ref xp), (r0, 16, 22, .ref xb), (r0, 16, 23, .ref xe)] [(zm, 117, 3100, ca 1, ms), (xh, 118, 3100, ca 1, mh), (xn, 119, 3100, ca 1, mx), (xf, 120, 3100, ca 1, mf), (xt, 121, 3100, ca 1, mt), (xp, 127, 3300, ca 1, mp), (xb, 122, 3100, ca 1, fb), (xe, 123, 3100, ca 1, fe)] [] H_70 locs_70 := ((hh_68.call hb_701 hb_702 hb_703 hb_704 hS_70 rfl (L1 := [(r0, 16, 43, .ref changed_61), (r0, 16, 44, .int changedUnits_10), (r0, 16, 17, .ref zm), (r0, 16, 18, .ref xh), (r0, 16, 19, .ref xn), (r0, 16, 20, .ref xf), (r0, 16, 21, .ref xt), (r0, 16, 27, .ref xp), (r0, 16, 22, .ref xb), (r0, 16, 23, .ref xe)]) [0, 1, 2, 3, 4, 5, 6, 7, 8, 9] rfl rfl (M1 := [(zm, 117, 3100, ca 1, ms), (xh, 118, 3100, ca 1, mh), (xn, 119, 3100, ca 1, mx), (xf, 120, 3100, ca 1, mf), (xt, 121, 3100, ca 1, mt), (xp, 127, 3300, ca 1, mp), (xb, 122, 3100, ca 1, fb), (xe, 123, 3100, ca 1, fe)]) [0, 1, 2, 3, 4, 5, 6, 7] rfl rfl (I1 := []) [] rfl rfl).more hb_705)
    clear hh_68 ht_70 hvm_70 hz_70 hk_70 hS_70 hb_701 hb_702 hb_703 hb_704 hb_705
    refine va_calli (A0 := jA base) (H0 := s.heap) (va_runS (As := [.ref changed_61, .int changedUnits_10, .int r_69, .int r_71]) (rest := []) ⟨hx, hb, hml, hown, hts⟩ (uX14_placeOf l dC dI ca base B hB hAp hB101 G0 H_70 changed_61 changedUnits_10 r_69 r_71 3100) (va_cwS 4 hts (jgS (jWr_73 _ (List.mem_of_getElem? (i := 19) rfl)) (jWr_73 _ (List.mem_of_getElem? (i := 20) rfl)) (jWr_1 _ (List.mem_of_getElem? (i := 5) rfl)) (jWr_73 _ (List.mem_of_getElem? (i := 21) rfl))) rfl rfl rfl (by decide +kernel) ⟨by rw [← hR]; exact Nat.le_of_ble_eq_true rfl, by rw [← hR]; exact Nat.le_of_ble_eq_true rfl⟩) ⟨fun a U g mk q => by obtain ⟨q0, q1, q2, qK, q10, q11, q12⟩ := q; exact ⟨q0, q1, q2, jG.calling g mk a qK, q10, q11, q12⟩, fun U hU hW => ⟨rfl, hU, hh_70.2.1, hG.step hW hU hh_70.1, hg_changed_61, jP.nil, by first | omega | (refine ⟨?_, ?_, ?_⟩ <;> (first | omega | rfl | assumption | decide | exact Or.inl rfl | exact Or.inr rfl | (simp only; omega)))⟩⟩ rfl rfl hl.1 rfl (lv_room (Nat.le_of_ble_eq_true rfl)) dX14_make_111 ⟨Nat.zero_le _, Nat.zero_le _⟩) hh_70.1 (fun q _ h => h) (fun q h => h) (fun r_73 u_72 t_72 H_72 locs_72 ht_72 hvm_72 hr_73 hb_72 hz_72 hk_72 hS_72 => ?_)
    rw [ht_72] at hb_72
    obtain ⟨hb_721, hb_722, hb_723, hb_724, hb_725⟩ := hb_72
    have hh_72 : jSt (dC, dI) B base G0 G0 EX14_makeN s.heap 0 0 [(r0, 16, 43, .ref changed_61), (r0, 16, 44, .int changedUnits_10), (r0, 16, 17, .ref zm), (r0, 16, 18, .ref xh), (r0, 16, 19, .ref xn), (r0, 16, 20, .ref xf), (r0, 16, 21, .ref xt), (r0, 16, 27, .ref xp), (r0, 16, 22, .ref xb), (r0, 16, 23, .ref xe)] [(zm, 117, 3100, ca 1, ms), (xh, 118, 3100, ca 1, mh), (xn, 119, 3100, ca 1, mx), (xf, 120, 3100, ca 1, mf), (xt, 121, 3100, ca 1, mt), (xp, 127, 3300, ca 1, mp), (xb, 122, 3100, ca 1, fb), (xe, 123, 3100, ca 1, fe)] [] H_72 locs_72 := ((hh_70.call hb_721 hb_722 hb_723 hb_724 hS_72 rfl (L1 := [(r0, 16, 43, .ref changed_61), (r0, 16, 44, .int changedUnits_10), (r0, 16, 17, .ref zm), (r0, 16, 18, .ref xh), (r0, 16, 19, .ref xn), (r0, 16, 20, .ref xf), (r0, 16, 21, .ref xt), (r0, 16, 27, .ref xp), (r0, 16, 22, .ref xb), (r0, 16, 23, .ref xe)]) [0, 1, 2, 3, 4, 5, 6, 7, 8, 9] rfl rfl (M1 := [(zm, 117, 3100, ca 1, ms), (xh, 118, 3100, ca 1, mh), (xn, 119, 3100, ca 1, mx), (xf, 120, 3100, ca 1, mf), (xt, 121, 3100, ca 1, mt), (xp, 127, 3300, ca 1, mp), (xb, 122, 3100, ca 1, fb), (xe, 123, 3100, ca 1, fe)]) [0, 1, 2, 3, 4, 5, 6, 7] rfl rfl (I1 := []) [] rfl rfl).more hb_725)
    clear hh_70 ht_72 hvm_72 hz_72 hk_72 hS_72 hb_721 hb_722 hb_723 hb_724 hb_725
    obtain ⟨hr_73_0, hr_73_1⟩ := hr_73
    refine lv_istore (lv' := [(6, .int r_73), (5, .int r_67), (8, .int r_58), (7, .int r_56), (4, .int z_7), (3, .int r_4), (2, .int r_2), (0, .ref r0), (1, .int a1)]) hx hb dX14_make_114 hl (by decide) rfl (fun ls hl => ?_)
    refine lv_iload hx hb dX14_make_116 (lv_at hl 1 rfl) ?_
    refine lv_if_lt (tgt := 128) hx hb dX14_make_118 (by decide) (fun c_74 => ?_) (fun c_74 => ?_)
    · skip
      have c_74' : r_67.toInt < 0 := jb_lt (rfl) ((by decide)) c_74
      refine lv_iconst (v := 0) hx hb dX14_make_128 (by decide) ?_
      rw [hQ]
      exact W.zret (v := 0) hx hb hr (jb_nz (Or.inl rfl)) (fun t ht hW => ⟨⟨0, (), rfl, ⟨(Or.inl rfl), trivial⟩, hh_72.rt (M1 := []) [] rfl ht⟩, by rw [ht]; try exact hh_72.1.1, fun q h9 hq => by rw [ht]; try exact hh_72.1.2.1 q h9 hq⟩) hh_72.1.2.2 dX14_make_129
    · skip
      have c_74' : r_67.toInt ≥ 0 := jb_lt_n (rfl) ((by decide)) c_74
      refine lv_iload hx hb dX14_make_121 (lv_at hl 0 rfl) ?_
      refine lv_iload hx hb dX14_make_123 (lv_at hl 1 rfl) ?_
      refine lv_icmp_ge (tgt := 130) hx hb dX14_make_125 (by decide) (fun c_75 => ?_) (fun c_75 => ?_)
      · skip
        have c_75' : r_73.toInt ≥ r_67.toInt := jb_ge (rfl) (rfl) c_75
        exact C130 r_67 r_73 _ _ (hh_72.sub (L1 := [(r0, 16, 44, .int changedUnits_10), (r0, 16, 17, .ref zm), (r0, 16, 18, .ref xh), (r0, 16, 19, .ref xn), (r0, 16, 20, .ref xf), (r0, 16, 21, .ref xt), (r0, 16, 27, .ref xp), (r0, 16, 22, .ref xb), (r0, 16, 23, .ref xe)]) [1, 2, 3, 4, 5, 6, 7, 8, 9] rfl (M1 := [(zm, 117, 3100, ca 1, ms), (xh, 118, 3100, ca 1, mh), (xn, 119, 3100, ca 1, mx), (xf, 120, 3100, ca 1, mf), (xt, 121, 3100, ca 1, mt), (xp, 127, 3300, ca 1, mp), (xb, 122, 3100, ca 1, fb), (xe, 123, 3100, ca 1, fe)]) [0, 1, 2, 3, 4, 5, 6, 7] rfl (I1 := []) [] rfl) (by first | omega | (refine ⟨?_, ?_, ?_⟩ <;> (first | omega | rfl | assumption | decide | exact Or.inl rfl | exact Or.inr rfl | (simp only; omega)))) _ (lv_sub hl [7, 8, 6, 5, 4, 1, 0] rfl)
      · skip
        have c_75' : r_73.toInt < r_67.toInt := jb_ge_n (rfl) (rfl) c_75
        refine lv_iconst (v := 0) hx hb dX14_make_128 (by decide) ?_
        rw [hQ]
        exact W.zret (v := 0) hx hb hr (jb_nz (Or.inl rfl)) (fun t ht hW => ⟨⟨0, (), rfl, ⟨(Or.inl rfl), trivial⟩, hh_72.rt (M1 := []) [] rfl ht⟩, by rw [ht]; try exact hh_72.1.1, fun q h9 hq => by rw [ht]; try exact hh_72.1.2.1 q h9 hq⟩) hh_72.1.2.2 dX14_make_129
end
