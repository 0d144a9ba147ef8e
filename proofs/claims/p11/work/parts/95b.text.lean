def EX14_isTextK : List (Nat × Nat) := []
def EX14_memberK : List (Nat × Nat) := []
set_option maxHeartbeats 4000000 in
set_option maxRecDepth 20000 in
theorem uX14_isTextK (l : Launch) (dC : Nat → ClassId) (dI : Nat → Nat → Nat) (ca : Nat → ClassId) (base : Nat) (B : jF) (hB : jBok B) (hAp : jAp (dC, dI)) (hB16 : ∀ n G a H, B 16 n G a H ↔ jOb (dC, dI) 16 74 (F16 n G) a H) (hB127 : ∀ n G a H, B 127 n G a H ↔ jAr (dC, dI) (ca 1) (fun j z => True) n a H) (G0 : jT) (H0 : Heap) (r0 : Nat) (a1 : Int32) (a2 : Int32) (r3 : Nat) (n3 : Nat) (f3 : Nat → Int32) (xp : Nat) (mp : Nat → Int32) : Met l yX14_isText (jw yX14_isText cX14_isText 5 (some .boolean)) ({ frames := 4, cells := 0, slots := 0, locals := 141 }) (va_Pc [.ref r0, .int a1, .int a2, .ref r3] (fun U => U.heap = H0 ∧ jX B base G0 [] H0 ∧ jG dC dI ca base U ∧ jStrF base r3 n3 f3 U H0 ∧ G0 r0 = some (16, 0) ∧ G0 xp = some (127, 3300) ∧ jP (dC, dI) G0 H0 [(r0, 16, 27, .ref xp)] ∧ jMc (dC, dI) G0 H0 [(xp, 127, 3300, ca 1, mp)] ∧ 0 ≤ a1.toInt ∧ a2.toInt ≤ 3300 ∧ a1.toInt ≤ 3300 ∧ 0 ≤ a2.toInt ∧ n3 < 2147483648)) (va_Qi (S := Unit) (fun r u => (r = 0 ∨ r = 1) ∧ (r.toInt = jIT mp f3 n3 a1.toInt a2.toInt)) (fun u t => jRt (dC, dI) B base G0 EX14_isTextK H0 [] t.heap) (jA base)) 0 0 (jA base) := by
  refine Met.ofW (cc := cX14_isText) (maxL := 5) (ret := (some .boolean)) (by decide) rfl ?_
  intro p e s m args below meth c s₁ Bd hml hv
  obtain ⟨rfl, hH0, hX, hG, hstrF_r3, hg_r0, hg_xp, hP0, hM0, hp0, hp1, hp2, hp3, hp4⟩ := hv
  have hK := hG.1
  have hx := Bd.exec
  have hb := Bd.bytes
  have hr := Bd.returns
  have hts := atoms_spec (ws := (jw yX14_isText cX14_isText 5 (some .boolean))) Bd.pre
  have htw : ∀ w ∈ jWl, w.before _ s = true := fun w h => hts w (List.mem_cons_of_mem _ h)
  have hown : s.vm.findClass RX14 = some m.cls := findClass_of_methodNamed Bd.named
  have hlocks := Bd.notSynchronized
  obtain ⟨Q, hQ⟩ : ∃ Q, Q = MQ below (va_Qi (S := Unit) (fun r u => (r = 0 ∨ r = 1) ∧ (r.toInt = jIT mp f3 n3 a1.toInt a2.toInt)) (fun u t => jRt (dC, dI) B base G0 EX14_isTextK H0 [] t.heap) (jA base)) ([.ref r0, .int a1, .int a2, .ref r3] : List Value).toArray s 0 0 (jA base) := ⟨_, rfl⟩
  rw [← hQ]
  have hl := lv_entry ([.ref r0, .int a1, .int a2, .ref r3]) (n := 5) (Nat.le_of_ble_eq_true rfl)
  rw [lg_entry_eq]
  generalize (lg_sl ([.ref r0, .int a1, .int a2, .ref r3]) ++ List.replicate (5 - (lg_sl ([.ref r0, .int a1, .int a2, .ref r3])).length) Slot.unset).toArray = ls at hl ⊢
  have hstr_r3 := hstrF_r3.str
  have hl : lv_has ls 5 [(0, .ref r0), (1, .int a1), (2, .int a2), (3, .ref r3)] := hl
  generalize hR : (headSpec (jw yX14_isText cX14_isText 5 (some .boolean)) ({ frames := 4, cells := 0, slots := 0, locals := 141 })).room = R
  subst hH0
  have hh : jSt (dC, dI) B base G0 G0 EX14_isTextK s.heap 0 0 [(r0, 16, 27, .ref xp)] [(xp, 127, 3300, ca 1, mp)] [] s.heap [] := jSt.start hX hP0 hM0 jIs.nil
  clear hX hP0
  have hk0 : (0 : Int32).toInt = 0 := by decide
  have hk1 : (1 : Int32).toInt = 1 := by decide
  have hly_16_27 := htw (u_lay RX14 TX14 27) (jWc_wsX140 _ (u_in_lay (by decide)))
  have hlk_65 := (htw (.fieldLink RX14 65 "ProofServerModel" "pool" "[I") (jWr_11 _ (List.mem_of_getElem? (i := 14) rfl)))
  have hrg_a1 := jb_rng a1
  have hrg_a2 := jb_rng a2
  refine lv_iload_n hx hb dX14_isText_0 rfl (lv_at hl 2 rfl) ?_
  refine lv_iload_n hx hb dX14_isText_1 rfl (lv_at hl 1 rfl) ?_
  refine lv_isub hx hb dX14_isText_2 ?_
  refine lv_topi (fun z_1 ez_1 => ?_)
  have hz_1 : z_1.toInt = a2.toInt - a1.toInt := by rw [ez_1]; exact jb_isub2 (rfl) (rfl) (by omega)
  refine lv_aload_n hx hb dX14_isText_3 rfl (lv_at hl 3 rfl) ?_
  refine vp_callSi (W.runV (As := []) (rest := [.int z_1]) ⟨hx, hb, hml, hown, hts⟩ (wJ0_length_8abf5 l dC dI ca base s.heap r3 n3) (cwV 0 hts (jgV (jWr_49 _ (List.mem_of_getElem? (i := 1) rfl)) (jWr_5 _ (List.mem_of_getElem? (i := 13) rfl)) (jWr_5 _ (List.mem_of_getElem? (i := 14) rfl)) (jWr_5 _ (List.mem_of_getElem? (i := 15) rfl)) (jWr_5 _ (List.mem_of_getElem? (i := 16) rfl))) rfl rfl rfl (by decide +kernel) ⟨by rw [← hR]; exact Nat.le_of_ble_eq_true rfl, by rw [← hR]; exact Nat.le_of_ble_eq_true rfl⟩) ⟨fun a U g mk q => by obtain ⟨q0, q1, q2, qK, q9⟩ := q; exact ⟨q0, q1, (q2.moved (Vm.Alike.refl U.vm)), jG.calling g mk a qK, q9⟩, jStr_recv hstr_r3 hh.1, fun U hU hW => ⟨rfl, hU, (hstr_r3.moved hW.alike).kept hh.1.2.1, hG.step hW hU hh.1, by omega⟩⟩ rfl rfl hl.1 rfl (lv_room (Nat.le_of_ble_eq_true rfl)) dX14_isText_4 ⟨Nat.zero_le _, Nat.zero_le _⟩) (fun r_2 hr_2 => ?_)
  refine lv_icmp_eq (tgt := 12) hx hb dX14_isText_7 (by decide) (fun c_3 => ?_) (fun c_3 => ?_)
  · skip
    have c_3' : z_1.toInt = r_2.toInt := jb_eq (rfl) (rfl) c_3
    refine lv_iconst (v := 0) hx hb dX14_isText_12 (by decide) ?_
    refine lv_istore (lv' := [(4, .int 0), (0, .ref r0), (1, .int a1), (2, .int a2), (3, .ref r3)]) hx hb dX14_isText_13 hl (by decide) rfl (fun ls hl => ?_)
    have L15 : ∀ (N : Nat) (v4_4 : Int32) (H_4 : Heap) (locs_4 : List Loc), jSt (dC, dI) B base G0 G0 EX14_isTextK s.heap 0 0 [(r0, 16, 27, .ref xp)] [(xp, 127, 3300, ca 1, mp)] [] H_4 locs_4 → (0 ≤ v4_4.toInt ∧ v4_4.toInt ≤ n3 ∧ jTx mp f3 a1.toInt (v4_4.toInt).toNat = 1) → (n3 - v4_4.toInt : Int) < N → ∀ ls : Array Slot, lv_has ls 5 [(0, .ref r0), (1, .int a1), (2, .int a2), (3, .ref r3), (4, .int v4_4)] → W p l e R s m ([.ref r0, .int a1, .int a2, .ref r3] : List Value).toArray below meth c H_4 locs_4 0 0 Q (F0 m 15 ls []) := by
      intro N
      induction N with
      | zero => intro v4_4 H_4 locs_4 hh_4  hi_4 hm; exact absurd hm (by omega)
      | succ N L15 =>
        intro v4_4 H_4 locs_4 hh_4  hi_4 hm_4 ls hl
        obtain ⟨hi_4_0, hi_4_1, hi_4_2⟩ := hi_4
        refine lv_iload hx hb dX14_isText_15 (lv_at hl 4 rfl) ?_
        refine lv_aload_n hx hb dX14_isText_17 rfl (lv_at hl 3 rfl) ?_
        refine vp_callSi (W.runV (As := []) (rest := [.int v4_4]) ⟨hx, hb, hml, hown, hts⟩ (wJ0_length_8abf5 l dC dI ca base H_4 r3 n3) (cwV 0 hts (jgV (jWr_49 _ (List.mem_of_getElem? (i := 1) rfl)) (jWr_5 _ (List.mem_of_getElem? (i := 13) rfl)) (jWr_5 _ (List.mem_of_getElem? (i := 14) rfl)) (jWr_5 _ (List.mem_of_getElem? (i := 15) rfl)) (jWr_5 _ (List.mem_of_getElem? (i := 16) rfl))) rfl rfl rfl (by decide +kernel) ⟨by rw [← hR]; exact Nat.le_of_ble_eq_true rfl, by rw [← hR]; exact Nat.le_of_ble_eq_true rfl⟩) ⟨fun a U g mk q => by obtain ⟨q0, q1, q2, qK, q9⟩ := q; exact ⟨q0, q1, (q2.moved (Vm.Alike.refl U.vm)), jG.calling g mk a qK, q9⟩, jStr_recv hstr_r3 hh_4.1, fun U hU hW => ⟨rfl, hU, (hstr_r3.moved hW.alike).kept hh_4.1.2.1, hG.step hW hU hh_4.1, by omega⟩⟩ rfl rfl hl.1 rfl (lv_room (Nat.le_of_ble_eq_true rfl)) dX14_isText_18 ⟨Nat.zero_le _, Nat.zero_le _⟩) (fun r_5 hr_5 => ?_)
        refine lv_icmp_ge (tgt := 50) hx hb dX14_isText_21 (by decide) (fun c_6 => ?_) (fun c_6 => ?_)
        · skip
          have c_6' : v4_4.toInt ≥ r_5.toInt := jb_ge (rfl) (rfl) c_6
          refine lv_iconst (v := 1) hx hb dX14_isText_50 (by decide) ?_
          rw [hQ]
          exact W.zret (v := 1) hx hb hr (jb_nz (Or.inr rfl)) (fun t ht hW => ⟨⟨1, (), rfl, ⟨(Or.inr rfl), by unfold jIT; rw [if_pos (by omega), show n3 = v4_4.toInt.toNat by omega, hi_4_2]; exact hk1⟩, hh_4.rt (M1 := []) [] rfl ht⟩, by rw [ht]; try exact hh_4.1.1, fun q h9 hq => by rw [ht]; try exact hh_4.1.2.1 q h9 hq⟩) hh_4.1.2.2 dX14_isText_51
        · skip
          have c_6' : v4_4.toInt < r_5.toInt := jb_ge_n (rfl) (rfl) c_6
          refine lv_aload_n hx hb dX14_isText_24 rfl (lv_at hl 0 rfl) ?_
          refine j7_read hx hb hown hK (C := RX14) (T := TX14) (N := 74) rfl hly_16_27 hlk_65 (hh_4.at 0 rfl) dX14_isText_25 ?_
          refine lv_iload_n hx hb dX14_isText_28 rfl (lv_at hl 1 rfl) ?_
          refine lv_iload hx hb dX14_isText_29 (lv_at hl 4 rfl) ?_
          refine lv_iadd hx hb dX14_isText_31 ?_
          refine lv_topi (fun z_7 ez_7 => ?_)
          have hz_7 : z_7.toInt = a1.toInt + v4_4.toInt := by rw [ez_7]; exact jb_iadd2 (rfl) (rfl) (by omega)
          refine j7_ialdM hx hb hK hh_4 hB127 1 rfl (by decide) hg_xp (x := z_7.toInt) (rfl) (by omega) (j := 0) rfl dX14_isText_32 (fun z_8 ez_8 (hz_8 : True) => ?_)
          have hqz_8 : z_8.toInt = jSo mp ((a1.toInt + v4_4.toInt)) := by unfold jSo; rw [ez_8, show z_7.toInt = (a1.toInt + v4_4.toInt) by omega]
          refine lv_aload_n hx hb dX14_isText_33 rfl (lv_at hl 3 rfl) ?_
          refine lv_iload hx hb dX14_isText_34 (lv_at hl 4 rfl) ?_
          refine vp_callSi (W.runV (As := [.int v4_4]) (rest := [.int z_8]) ⟨hx, hb, hml, hown, hts⟩ (eJ0_charAt_5068e l dC dI ca base H_4 r3 n3 f3 v4_4) (cwV 1 hts (jgV (jWr_49 _ (List.mem_of_getElem? (i := 13) rfl)) (jWr_6 _ (List.mem_of_getElem? (i := 1) rfl)) (jWr_6 _ (List.mem_of_getElem? (i := 2) rfl)) (jWr_5 _ (List.mem_of_getElem? (i := 15) rfl)) (jWr_6 _ (List.mem_of_getElem? (i := 3) rfl))) rfl rfl rfl (by decide +kernel) ⟨by rw [← hR]; exact Nat.le_of_ble_eq_true rfl, by rw [← hR]; exact Nat.le_of_ble_eq_true rfl⟩) ⟨fun a U g mk q => by obtain ⟨q0, q1, q2, qK, q9⟩ := q; exact ⟨q0, q1, (q2.moved (Vm.Alike.refl U.vm)), jG.calling g mk a qK, q9⟩, jStr_recv hstr_r3 hh_4.1, fun U hU hW => ⟨rfl, hU, (hstrF_r3.moved hW.alike).kept hh_4.1.2.1, hG.step hW hU hh_4.1, ⟨by omega, by omega, by omega⟩⟩⟩ rfl rfl hl.1 rfl (lv_room (Nat.le_of_ble_eq_true rfl)) dX14_isText_36 ⟨Nat.zero_le _, Nat.zero_le _⟩) (fun r_9 hr_9 => ?_)
          refine lv_icmp_eq (tgt := 44) hx hb dX14_isText_39 (by decide) (fun c_10 => ?_) (fun c_10 => ?_)
          · skip
            have c_10' : z_8.toInt = r_9.toInt := jb_eq (rfl) (rfl) c_10
            obtain ⟨z_11, ez_11⟩ : ∃ y : Int32, y = v4_4 + 1 := ⟨_, rfl⟩
            refine lv_iinc (v := z_11) (lv' := [(4, .int z_11), (0, .ref r0), (1, .int a1), (2, .int a2), (3, .ref r3)]) hx hb dX14_isText_44 hl (k := 4) rfl (by rw [ez_11]; rfl) (by decide) rfl (fun ls hl => ?_)
            have hz_11 : z_11.toInt = v4_4.toInt + 1 := by rw [ez_11]; exact jb_iadd2 (rfl) (by decide) (by omega)
            refine lv_goto (tgt := 15) hx hb dX14_isText_47 (by decide) ?_
            exact L15 z_11 _ _ hh_4 (by refine ⟨by omega, by omega, ?_⟩; rw [show (z_11).toInt.toNat = v4_4.toInt.toNat + 1 by omega]; exact jTx_1 hi_4_2 (by rw [show a1.toInt + ((v4_4.toInt.toNat : Nat) : Int) = a1.toInt + v4_4.toInt by omega, ← hqz_8, ← hr_9]; omega)) (by omega) _ (lv_sub hl [1, 2, 3, 4, 0] rfl)
          · skip
            have c_10' : z_8.toInt ≠ r_9.toInt := jb_eq_n (rfl) (rfl) c_10
            refine lv_iconst (v := 0) hx hb dX14_isText_42 (by decide) ?_
            rw [hQ]
            exact W.zret (v := 0) hx hb hr (jb_nz (Or.inl rfl)) (fun t ht hW => ⟨⟨0, (), rfl, ⟨(Or.inl rfl), by unfold jIT; rw [if_pos (by omega), jTx_0 (m := v4_4.toInt.toNat) (by omega) (by rw [show a1.toInt + ((v4_4.toInt.toNat : Nat) : Int) = a1.toInt + v4_4.toInt by omega, ← hqz_8, ← hr_9]; omega)]; exact hk0⟩, hh_4.rt (M1 := []) [] rfl ht⟩, by rw [ht]; try exact hh_4.1.1, fun q h9 hq => by rw [ht]; try exact hh_4.1.2.1 q h9 hq⟩) hh_4.1.2.2 dX14_isText_43
    exact L15 (n3 - (0 : Int32).toInt : Int).toNat.succ 0 _ _ hh (by refine ⟨by omega, by omega, ?_⟩; rw [hk0]; rfl) (by omega) _ (lv_sub hl [1, 2, 3, 4, 0] rfl)
  · skip
    have c_3' : z_1.toInt ≠ r_2.toInt := jb_eq_n (rfl) (rfl) c_3
    refine lv_iconst (v := 0) hx hb dX14_isText_10 (by decide) ?_
    rw [hQ]
    exact W.zret (v := 0) hx hb hr (jb_nz (Or.inl rfl)) (fun t ht hW => ⟨⟨0, (), rfl, ⟨(Or.inl rfl), by unfold jIT; rw [if_neg (by omega)]; exact hk0⟩, hh.rt (M1 := []) [] rfl ht⟩, by rw [ht]; try exact hh.1.1, fun q h9 hq => by rw [ht]; try exact hh.1.2.1 q h9 hq⟩) hh.1.2.2 dX14_isText_11
set_option maxHeartbeats 4000000 in
set_option maxRecDepth 20000 in
theorem uX14_memberK (l : Launch) (dC : Nat → ClassId) (dI : Nat → Nat → Nat) (ca : Nat → ClassId) (base : Nat) (B : jF) (hB : jBok B) (hAp : jAp (dC, dI)) (hB16 : ∀ n G a H, B 16 n G a H ↔ jOb (dC, dI) 16 74 (F16 n G) a H) (hB117 : ∀ n G a H, B 117 n G a H ↔ jAr (dC, dI) (ca 1) (fun j z => True) n a H) (hB118 : ∀ n G a H, B 118 n G a H ↔ jAr (dC, dI) (ca 1) (fun j z => -1 ≤ z.toInt ∧ z.toInt ≤ 3099) n a H) (hB119 : ∀ n G a H, B 119 n G a H ↔ jAr (dC, dI) (ca 1) (fun j z => z.toInt = -1 ∨ (j < z.toInt ∧ z.toInt ≤ 3099)) n a H) (hB120 : ∀ n G a H, B 120 n G a H ↔ jAr (dC, dI) (ca 1) (fun j z => 0 ≤ z.toInt ∧ z.toInt ≤ 3300) n a H) (hB121 : ∀ n G a H, B 121 n G a H ↔ jAr (dC, dI) (ca 1) (fun j z => 0 ≤ z.toInt ∧ z.toInt ≤ 3300) n a H) (hB127 : ∀ n G a H, B 127 n G a H ↔ jAr (dC, dI) (ca 1) (fun j z => True) n a H) (G0 : jT) (H0 : Heap) (r0 : Nat) (a1 : Int32) (r2 : Nat) (n2 : Nat) (f2 : Nat → Int32) (zm : Nat) (xh : Nat) (xn : Nat) (xf : Nat) (xt : Nat) (xp : Nat) (ms : Nat → Int32) (mh : Nat → Int32) (mx : Nat → Int32) (mf : Nat → Int32) (mt : Nat → Int32) (mp : Nat → Int32) : Met l yX14_member (jw yX14_member cX14_member 5 (some .int)) ({ frames := 5, cells := 0, slots := 0, locals := 165 }) (va_Pc [.ref r0, .int a1, .ref r2] (fun U => U.heap = H0 ∧ jX B base G0 [] H0 ∧ jG dC dI ca base U ∧ jStrF base r2 n2 f2 U H0 ∧ G0 r0 = some (16, 0) ∧ G0 zm = some (117, 3100) ∧ G0 xh = some (118, 3100) ∧ G0 xn = some (119, 3100) ∧ G0 xf = some (120, 3100) ∧ G0 xt = some (121, 3100) ∧ G0 xp = some (127, 3300) ∧ jP (dC, dI) G0 H0 [(r0, 16, 17, .ref zm), (r0, 16, 18, .ref xh), (r0, 16, 19, .ref xn), (r0, 16, 20, .ref xf), (r0, 16, 21, .ref xt), (r0, 16, 27, .ref xp)] ∧ jMc (dC, dI) G0 H0 [(zm, 117, 3100, ca 1, ms), (xh, 118, 3100, ca 1, mh), (xn, 119, 3100, ca 1, mx), (xf, 120, 3100, ca 1, mf), (xt, 121, 3100, ca 1, mt), (xp, 127, 3300, ca 1, mp)] ∧ a1.toInt ≤ 3099 ∧ n2 < 2147483648)) (va_Qi (S := Unit) (fun r u => (r.toInt = jMb ms mh mf mt mx mp f2 n2 a1.toInt ∧ -1 ≤ r.toInt ∧ r.toInt ≤ 3099)) (fun u t => jRt (dC, dI) B base G0 EX14_memberK H0 [] t.heap) (jA base)) 0 0 (jA base) := by
  refine Met.ofW (cc := cX14_member) (maxL := 5) (ret := (some .int)) (by decide) rfl ?_
  intro p e s m args below meth c s₁ Bd hml hv
  obtain ⟨rfl, hH0, hX, hG, hstrF_r2, hg_r0, hg_zm, hg_xh, hg_xn, hg_xf, hg_xt, hg_xp, hP0, hM0, hp0, hp1⟩ := hv
  have hK := hG.1
  have hx := Bd.exec
  have hb := Bd.bytes
  have hr := Bd.returns
  have hts := atoms_spec (ws := (jw yX14_member cX14_member 5 (some .int))) Bd.pre
  have htw : ∀ w ∈ jWl, w.before _ s = true := fun w h => hts w (List.mem_cons_of_mem _ h)
  have hown : s.vm.findClass RX14 = some m.cls := findClass_of_methodNamed Bd.named
  have hlocks := Bd.notSynchronized
  obtain ⟨Q, hQ⟩ : ∃ Q, Q = MQ below (va_Qi (S := Unit) (fun r u => (r.toInt = jMb ms mh mf mt mx mp f2 n2 a1.toInt ∧ -1 ≤ r.toInt ∧ r.toInt ≤ 3099)) (fun u t => jRt (dC, dI) B base G0 EX14_memberK H0 [] t.heap) (jA base)) ([.ref r0, .int a1, .ref r2] : List Value).toArray s 0 0 (jA base) := ⟨_, rfl⟩
  rw [← hQ]
  have hl := lv_entry ([.ref r0, .int a1, .ref r2]) (n := 5) (Nat.le_of_ble_eq_true rfl)
  rw [lg_entry_eq]
  generalize (lg_sl ([.ref r0, .int a1, .ref r2]) ++ List.replicate (5 - (lg_sl ([.ref r0, .int a1, .ref r2])).length) Slot.unset).toArray = ls at hl ⊢
  have hstr_r2 := hstrF_r2.str
  have hl : lv_has ls 5 [(0, .ref r0), (1, .int a1), (2, .ref r2)] := hl
  generalize hR : (headSpec (jw yX14_member cX14_member 5 (some .int)) ({ frames := 5, cells := 0, slots := 0, locals := 165 })).room = R
  subst hH0
  have hh : jSt (dC, dI) B base G0 G0 EX14_memberK s.heap 0 0 [(r0, 16, 17, .ref zm), (r0, 16, 18, .ref xh), (r0, 16, 19, .ref xn), (r0, 16, 20, .ref xf), (r0, 16, 21, .ref xt), (r0, 16, 27, .ref xp)] [(zm, 117, 3100, ca 1, ms), (xh, 118, 3100, ca 1, mh), (xn, 119, 3100, ca 1, mx), (xf, 120, 3100, ca 1, mf), (xt, 121, 3100, ca 1, mt), (xp, 127, 3300, ca 1, mp)] [] s.heap [] := jSt.start hX hP0 hM0 jIs.nil
  clear hX hP0
  have hkm1 : ((-1) : Int32).toInt = (-1) := by decide
  have hk0 : (0 : Int32).toInt = 0 := by decide
  have hk1 : (1 : Int32).toInt = 1 := by decide
  have hk6 : (6 : Int32).toInt = 6 := by decide
  have hly_16_17 := htw (u_lay RX14 TX14 17) (jWc_wsX140 _ (u_in_lay (by decide)))
  have hly_16_18 := htw (u_lay RX14 TX14 18) (jWc_wsX140 _ (u_in_lay (by decide)))
  have hly_16_19 := htw (u_lay RX14 TX14 19) (jWc_wsX140 _ (u_in_lay (by decide)))
  have hly_16_20 := htw (u_lay RX14 TX14 20) (jWc_wsX140 _ (u_in_lay (by decide)))
  have hly_16_21 := htw (u_lay RX14 TX14 21) (jWc_wsX140 _ (u_in_lay (by decide)))
  have hlk_37 := (htw (.fieldLink RX14 37 "ProofServerModel" "sort" "[I") (jWr_11 _ (List.mem_of_getElem? (i := 4) rfl)))
  have hlk_40 := (htw (.fieldLink RX14 40 "ProofServerModel" "heir" "[I") (jWr_11 _ (List.mem_of_getElem? (i := 5) rfl)))
  have hlk_46 := (htw (.fieldLink RX14 46 "ProofServerModel" "nameFrom" "[I") (jWr_11 _ (List.mem_of_getElem? (i := 7) rfl)))
  have hlk_49 := (htw (.fieldLink RX14 49 "ProofServerModel" "nameTo" "[I") (jWr_11 _ (List.mem_of_getElem? (i := 8) rfl)))
  have hlk_43 := (htw (.fieldLink RX14 43 "ProofServerModel" "next" "[I") (jWr_11 _ (List.mem_of_getElem? (i := 6) rfl)))
  have hrg_a1 := jb_rng a1
  refine lv_iconst (v := (-1)) hx hb dX14_member_0 (by decide) ?_
  refine lv_istore_n (lv' := [(3, .int (-1)), (0, .ref r0), (1, .int a1), (2, .ref r2)]) hx hb dX14_member_1 rfl hl (by decide) rfl (fun ls hl => ?_)
  refine lv_iload_n hx hb dX14_member_2 rfl (lv_at hl 2 rfl) ?_
  refine lv_if_lt (tgt := 17) hx hb dX14_member_3 (by decide) (fun c_1 => ?_) (fun c_1 => ?_)
  · skip
    have c_1' : a1.toInt < 0 := jb_lt (rfl) ((by decide)) c_1
    refine lv_iconst (v := (-1)) hx hb dX14_member_17 (by decide) ?_
    rw [hQ]
    exact W.iret (v := (-1)) hx hb hr (fun t ht hW => ⟨⟨(-1), (), rfl, by refine ⟨?_, by omega, by omega⟩; unfold jMb; rw [if_pos (by exact Or.inl (by omega))]; exact hkm1, hh.rt (M1 := []) [] rfl ht⟩, by rw [ht]; try exact hh.1.1, fun q h9 hq => by rw [ht]; try exact hh.1.2.1 q h9 hq⟩) hh.1.2.2 dX14_member_18
  · skip
    have c_1' : a1.toInt ≥ 0 := jb_lt_n (rfl) ((by decide)) c_1
    refine lv_aload_n hx hb dX14_member_6 rfl (lv_at hl 1 rfl) ?_
    refine j7_read hx hb hown hK (C := RX14) (T := TX14) (N := 74) rfl hly_16_17 hlk_37 (hh.at 0 rfl) dX14_member_7 ?_
    refine lv_iload_n hx hb dX14_member_10 rfl (lv_at hl 2 rfl) ?_
    refine j7_ialdM hx hb hK hh hB117 1 rfl (by decide) hg_zm (x := a1.toInt) (rfl) (by omega) (j := 0) rfl dX14_member_11 (fun z_2 ez_2 (hz_2 : True) => ?_)
    have hqz_2 : z_2.toInt = jSo ms (a1.toInt) := by unfold jSo; rw [ez_2]
    refine lv_bipush (v := 6) hx hb dX14_member_12 (by decide) ?_
    refine lv_icmp_eq (tgt := 19) hx hb dX14_member_14 (by decide) (fun c_3 => ?_) (fun c_3 => ?_)
    · skip
      have c_3' : z_2.toInt = 6 := jb_eq (rfl) ((by decide)) c_3
      refine lv_aload_n hx hb dX14_member_19 rfl (lv_at hl 1 rfl) ?_
      refine j7_read hx hb hown hK (C := RX14) (T := TX14) (N := 74) rfl hly_16_18 hlk_40 (hh.at 1 rfl) dX14_member_20 ?_
      refine lv_iload_n hx hb dX14_member_23 rfl (lv_at hl 2 rfl) ?_
      refine j7_ialdM hx hb hK hh hB118 1 rfl (by decide) hg_xh (x := a1.toInt) (rfl) (by omega) (j := 1) rfl dX14_member_24 (fun z_4 ez_4 (hz_4 : -1 ≤ z_4.toInt ∧ z_4.toInt ≤ 3099) => ?_)
      have hqz_4 : z_4.toInt = jSo mh (a1.toInt) := by unfold jSo; rw [ez_4]
      refine lv_istore (lv' := [(4, .int z_4), (3, .int (-1)), (0, .ref r0), (1, .int a1), (2, .ref r2)]) hx hb dX14_member_25 hl (by decide) rfl (fun ls hl => ?_)
      have L27 : ∀ (N : Nat) (v3_5 : Int32) (v4_5 : Int32) (kf : Nat) (H_5 : Heap) (locs_5 : List Loc), jSt (dC, dI) B base G0 G0 EX14_memberK s.heap 0 0 [(r0, 16, 17, .ref zm), (r0, 16, 18, .ref xh), (r0, 16, 19, .ref xn), (r0, 16, 20, .ref xf), (r0, 16, 21, .ref xt), (r0, 16, 27, .ref xp)] [(zm, 117, 3100, ca 1, ms), (xh, 118, 3100, ca 1, mh), (xn, 119, 3100, ca 1, mx), (xf, 120, 3100, ca 1, mf), (xt, 121, 3100, ca 1, mt), (xp, 127, 3300, ca 1, mp)] [] H_5 locs_5 → (-1 ≤ v4_5.toInt ∧ v4_5.toInt ≤ 3099 ∧ -1 ≤ v3_5.toInt ∧ v3_5.toInt ≤ 3099 ∧ (v4_5.toInt = -1 ∨ 3100 - v4_5.toInt < kf) ∧ 0 < kf ∧ jMn mf mt mx mp f2 n2 kf v4_5.toInt v3_5.toInt = jMn mf mt mx mp f2 n2 3102 (jSo mh a1.toInt) (-1)) → (3100 - v4_5.toInt % 3101 : Int) < N → ∀ ls : Array Slot, lv_has ls 5 [(0, .ref r0), (1, .int a1), (2, .ref r2), (3, .int v3_5), (4, .int v4_5)] → W p l e R s m ([.ref r0, .int a1, .ref r2] : List Value).toArray below meth c H_5 locs_5 0 0 Q (F0 m 27 ls []) := by
        intro N
        induction N with
        | zero => intro v3_5 v4_5 kf H_5 locs_5 hh_5  hi_5 hm; exact absurd hm (by omega)
        | succ N L27 =>
          intro v3_5 v4_5 kf H_5 locs_5 hh_5  hi_5 hm_5 ls hl
          obtain ⟨hi_5_0, hi_5_1, hi_5_2, hi_5_3, hi_5_4, hi_5_5, hi_5_6⟩ := hi_5
          refine lv_iload hx hb dX14_member_27 (lv_at hl 4 rfl) ?_
          refine lv_if_lt (tgt := 73) hx hb dX14_member_29 (by decide) (fun c_6 => ?_) (fun c_6 => ?_)
          · skip
            have c_6' : v4_5.toInt < 0 := jb_lt (rfl) ((by decide)) c_6
            refine lv_iload_n hx hb dX14_member_73 rfl (lv_at hl 3 rfl) ?_
            rw [hQ]
            exact W.iret (v := v3_5) hx hb hr (fun t ht hW => ⟨⟨v3_5, (), rfl, by refine ⟨?_, by omega, by omega⟩; unfold jMb; rw [if_neg (by rw [← hqz_2]; omega)]; exact (jMn_e (by omega) (by omega) rfl).trans hi_5_6, hh_5.rt (M1 := []) [] rfl ht⟩, by rw [ht]; try exact hh_5.1.1, fun q h9 hq => by rw [ht]; try exact hh_5.1.2.1 q h9 hq⟩) hh_5.1.2.2 dX14_member_74
          · skip
            have c_6' : v4_5.toInt ≥ 0 := jb_lt_n (rfl) ((by decide)) c_6
            refine lv_aload_n hx hb dX14_member_32 rfl (lv_at hl 0 rfl) ?_
            refine lv_aload_n hx hb dX14_member_33 rfl (lv_at hl 0 rfl) ?_
            refine j7_read hx hb hown hK (C := RX14) (T := TX14) (N := 74) rfl hly_16_20 hlk_46 (hh_5.at 3 rfl) dX14_member_34 ?_
            refine lv_iload hx hb dX14_member_37 (lv_at hl 4 rfl) ?_
            refine j7_ialdM hx hb hK hh_5 hB120 1 rfl (by decide) hg_xf (x := v4_5.toInt) (rfl) (by omega) (j := 3) rfl dX14_member_39 (fun z_7 ez_7 (hz_7 : 0 ≤ z_7.toInt ∧ z_7.toInt ≤ 3300) => ?_)
            have hqz_7 : z_7.toInt = jSo mf (v4_5.toInt) := by unfold jSo; rw [ez_7]
            refine lv_aload_n hx hb dX14_member_40 rfl (lv_at hl 0 rfl) ?_
            refine j7_read hx hb hown hK (C := RX14) (T := TX14) (N := 74) rfl hly_16_21 hlk_49 (hh_5.at 4 rfl) dX14_member_41 ?_
            refine lv_iload hx hb dX14_member_44 (lv_at hl 4 rfl) ?_
            refine j7_ialdM hx hb hK hh_5 hB121 1 rfl (by decide) hg_xt (x := v4_5.toInt) (rfl) (by omega) (j := 4) rfl dX14_member_46 (fun z_8 ez_8 (hz_8 : 0 ≤ z_8.toInt ∧ z_8.toInt ≤ 3300) => ?_)
            have hqz_8 : z_8.toInt = jSo mt (v4_5.toInt) := by unfold jSo; rw [ez_8]
            refine lv_aload_n hx hb dX14_member_47 rfl (lv_at hl 2 rfl) ?_
            refine va_calli (A0 := jA base) (H0 := s.heap) (va_runV (As := [.int z_7, .int z_8, .ref r2]) (rest := []) ⟨hx, hb, hml, hown, hts⟩ (uX14_isTextK l dC dI ca base B hB hAp hB16 hB127 G0 H_5 r0 z_7 z_8 r2 n2 f2 xp mp) (cwV 3 hts (jgV (jWr_55 _ (List.mem_of_getElem? (i := 19) rfl)) (jWr_55 _ (List.mem_of_getElem? (i := 20) rfl)) (jWr_55 _ (List.mem_of_getElem? (i := 21) rfl)) (jWr_1 _ (List.mem_of_getElem? (i := 5) rfl)) (jWr_55 _ (List.mem_of_getElem? (i := 22) rfl))) rfl rfl rfl (by decide +kernel) ⟨by rw [← hR]; exact Nat.le_of_ble_eq_true rfl, by rw [← hR]; exact Nat.le_of_ble_eq_true rfl⟩) ⟨fun a U g mk q => by obtain ⟨q0, q1, q2, qK, q10, q11, q12, q13, q14, q15⟩ := q; exact ⟨q0, q1, q2, jG.calling g mk a qK, (q10.moved (Vm.Alike.refl U.vm)), q11, q12, q13, q14, q15⟩, hh_5.recv (C := RX14) (T := TX14) (N := 74) hB16 rfl (by decide) hg_r0 hK, fun U hU hW => ⟨rfl, hU, hh_5.2.1, hG.step hW hU hh_5.1, (hstrF_r2.moved hW.alike).kept hh_5.1.2.1, hg_r0, hg_xp, (hh_5.2.2.1.sub (L1 := [(r0, 16, 27, .ref xp)]) [5] rfl), (hh_5.2.2.2.2.2.2.2.1.sub (L1 := [(xp, 127, 3300, ca 1, mp)]) [5] rfl), by first | omega | (refine ⟨?_, ?_, ?_, ?_, ?_⟩ <;> (first | omega | rfl | assumption | decide | exact Or.inl rfl | exact Or.inr rfl | (simp only; omega)))⟩⟩ rfl rfl hl.1 rfl (lv_room (Nat.le_of_ble_eq_true rfl)) dX14_member_48 ⟨Nat.zero_le _, Nat.zero_le _⟩) hh_5.1 (fun q _ h => h) (fun q h => h) (fun r_10 u_9 t_9 H_9 locs_9 ht_9 hvm_9 hr_10 hb_9 hz_9 hk_9 hS_9 => ?_)
            rw [ht_9] at hb_9
            obtain ⟨hb_91, hb_92, hb_93, hb_94, hb_95⟩ := hb_9
            have hh_9 : jSt (dC, dI) B base G0 G0 EX14_memberK s.heap 0 0 [(r0, 16, 17, .ref zm), (r0, 16, 18, .ref xh), (r0, 16, 19, .ref xn), (r0, 16, 20, .ref xf), (r0, 16, 21, .ref xt), (r0, 16, 27, .ref xp)] [(zm, 117, 3100, ca 1, ms), (xh, 118, 3100, ca 1, mh), (xn, 119, 3100, ca 1, mx), (xf, 120, 3100, ca 1, mf), (xt, 121, 3100, ca 1, mt), (xp, 127, 3300, ca 1, mp)] [] H_9 locs_9 := ((hh_5.call hb_91 hb_92 hb_93 hb_94 hS_9 rfl (L1 := [(r0, 16, 17, .ref zm), (r0, 16, 18, .ref xh), (r0, 16, 19, .ref xn), (r0, 16, 20, .ref xf), (r0, 16, 21, .ref xt), (r0, 16, 27, .ref xp)]) [0, 1, 2, 3, 4, 5] rfl rfl (M1 := [(zm, 117, 3100, ca 1, ms), (xh, 118, 3100, ca 1, mh), (xn, 119, 3100, ca 1, mx), (xf, 120, 3100, ca 1, mf), (xt, 121, 3100, ca 1, mt), (xp, 127, 3300, ca 1, mp)]) [0, 1, 2, 3, 4, 5] rfl rfl (I1 := []) [] rfl rfl).more hb_95)
            clear hh_5 ht_9 hvm_9 hz_9 hk_9 hS_9 hb_91 hb_92 hb_93 hb_94 hb_95
            obtain ⟨hr_10b, hr_10p⟩ := hr_10
            have hr_10' := jb_01 hr_10b
            refine lv_if_eq (tgt := 59) hx hb dX14_member_51 (by decide) (fun c_11 => ?_) (fun c_11 => ?_)
            · skip
              have c_11' : r_10.toInt = 0 := jb_eq (rfl) ((by decide)) c_11
              refine lv_iload_n hx hb dX14_member_59 rfl (lv_at hl 3 rfl) ?_
              refine lv_istore_n (lv' := [(3, .int v3_5), (0, .ref r0), (1, .int a1), (2, .ref r2), (4, .int v4_5)]) hx hb dX14_member_60 rfl hl (by decide) rfl (fun ls hl => ?_)
              refine lv_aload_n hx hb dX14_member_61 rfl (lv_at hl 1 rfl) ?_
              refine j7_read hx hb hown hK (C := RX14) (T := TX14) (N := 74) rfl hly_16_19 hlk_43 (hh_9.at 2 rfl) dX14_member_62 ?_
              refine lv_iload hx hb dX14_member_65 (lv_at hl 4 rfl) ?_
              refine j7_ialdM hx hb hK hh_9 hB119 1 rfl (by decide) hg_xn (x := v4_5.toInt) (rfl) (by omega) (j := 2) rfl dX14_member_67 (fun z_12 ez_12 (hz_12 : z_12.toInt = -1 ∨ ((v4_5.toInt).toNat < z_12.toInt ∧ z_12.toInt ≤ 3099)) => ?_)
              have hqz_12 : z_12.toInt = jSo mx (v4_5.toInt) := by unfold jSo; rw [ez_12]
              refine lv_istore (lv' := [(4, .int z_12), (3, .int v3_5), (0, .ref r0), (1, .int a1), (2, .ref r2)]) hx hb dX14_member_68 hl (by decide) rfl (fun ls hl => ?_)
              refine lv_goto (tgt := 27) hx hb dX14_member_70 (by decide) ?_
              exact L27 v3_5 z_12 (kf - 1) _ _ hh_9 (by refine ⟨by omega, by omega, by omega, by omega, by omega, by omega, ?_⟩; first | exact (jMn_s (by omega) (by omega) hqz_12 (Or.inl ⟨(by rw [← hqz_7, ← hqz_8, ← hr_10p]; omega), by omega⟩)).trans hi_5_6 | exact (jMn_s (by omega) (by omega) hqz_12 (Or.inr ⟨(by rw [← hqz_7, ← hqz_8, ← hr_10p]; omega), by omega⟩)).trans hi_5_6) (by omega) _ (lv_sub hl [2, 3, 4, 1, 0] rfl)
            · skip
              have c_11' : r_10.toInt ≠ 0 := jb_eq_n (rfl) ((by decide)) c_11
              refine lv_iload hx hb dX14_member_54 (lv_at hl 4 rfl) ?_
              refine lv_goto (tgt := 60) hx hb dX14_member_56 (by decide) ?_
              refine lv_istore_n (lv' := [(3, .int v4_5), (0, .ref r0), (1, .int a1), (2, .ref r2), (4, .int v4_5)]) hx hb dX14_member_60 rfl hl (by decide) rfl (fun ls hl => ?_)
              refine lv_aload_n hx hb dX14_member_61 rfl (lv_at hl 1 rfl) ?_
              refine j7_read hx hb hown hK (C := RX14) (T := TX14) (N := 74) rfl hly_16_19 hlk_43 (hh_9.at 2 rfl) dX14_member_62 ?_
              refine lv_iload hx hb dX14_member_65 (lv_at hl 4 rfl) ?_
              refine j7_ialdM hx hb hK hh_9 hB119 1 rfl (by decide) hg_xn (x := v4_5.toInt) (rfl) (by omega) (j := 2) rfl dX14_member_67 (fun z_13 ez_13 (hz_13 : z_13.toInt = -1 ∨ ((v4_5.toInt).toNat < z_13.toInt ∧ z_13.toInt ≤ 3099)) => ?_)
              have hqz_13 : z_13.toInt = jSo mx (v4_5.toInt) := by unfold jSo; rw [ez_13]
              refine lv_istore (lv' := [(4, .int z_13), (3, .int v4_5), (0, .ref r0), (1, .int a1), (2, .ref r2)]) hx hb dX14_member_68 hl (by decide) rfl (fun ls hl => ?_)
              refine lv_goto (tgt := 27) hx hb dX14_member_70 (by decide) ?_
              exact L27 v4_5 z_13 (kf - 1) _ _ hh_9 (by refine ⟨by omega, by omega, by omega, by omega, by omega, by omega, ?_⟩; first | exact (jMn_s (by omega) (by omega) hqz_13 (Or.inl ⟨(by rw [← hqz_7, ← hqz_8, ← hr_10p]; omega), by omega⟩)).trans hi_5_6 | exact (jMn_s (by omega) (by omega) hqz_13 (Or.inr ⟨(by rw [← hqz_7, ← hqz_8, ← hr_10p]; omega), by omega⟩)).trans hi_5_6) (by omega) _ (lv_sub hl [2, 3, 4, 1, 0] rfl)
      exact L27 (3100 - (z_4 : Int32).toInt % 3101 : Int).toNat.succ (-1) z_4 (3102) _ _ hh (by refine ⟨by omega, by omega, by omega, by omega, by omega, by omega, ?_⟩; rw [hqz_4, hkm1]) (by omega) _ (lv_sub hl [2, 3, 4, 1, 0] rfl)
    · skip
      have c_3' : z_2.toInt ≠ 6 := jb_eq_n (rfl) ((by decide)) c_3
      refine lv_iconst (v := (-1)) hx hb dX14_member_17 (by decide) ?_
      rw [hQ]
      exact W.iret (v := (-1)) hx hb hr (fun t ht hW => ⟨⟨(-1), (), rfl, by refine ⟨?_, by omega, by omega⟩; unfold jMb; rw [if_pos (by exact Or.inr (by rw [← hqz_2]; omega))]; exact hkm1, hh.rt (M1 := []) [] rfl ht⟩, by rw [ht]; try exact hh.1.1, fun q h9 hq => by rw [ht]; try exact hh.1.2.1 q h9 hq⟩) hh.1.2.2 dX14_member_18
