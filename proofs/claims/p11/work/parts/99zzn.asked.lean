def EX4_areUnitsQ : List (Nat × Nat) := []
def EX4_memberQ : List (Nat × Nat) := []
def EX4_isTextQ : List (Nat × Nat) := []
set_option maxHeartbeats 4000000 in
set_option maxRecDepth 20000 in
theorem uX4_areUnitsQ (l : Launch) (dC : Nat → ClassId) (dI : Nat → Nat → Nat) (ca : Nat → ClassId) (base : Nat) (B : jF) (hB : jBok B) (hAp : jAp (dC, dI)) (hB6 : ∀ n G a H, B 6 n G a H ↔ jOb (dC, dI) 6 12 (F6 n G) a H) (hB146 : ∀ n G a H, B 146 n G a H ↔ jAr (dC, dI) (ca 1) (fun j z => True) n a H) (G0 : jT) (H0 : Heap) (r0 : Nat) (a1 : Int32) (a2 : Int32) (r3 : Nat) (n3 : Nat) : Met l yX4_areUnits (jw yX4_areUnits cX4_areUnits 5 (some .boolean)) ({ frames := 4, cells := 0, slots := 0, locals := 141 }) (va_Pc [.ref r0, .int a1, .int a2, .ref r3] (fun U => U.heap = H0 ∧ jX B base G0 [] H0 ∧ jG dC dI ca base U ∧ jStr base r3 n3 U H0 ∧ G0 r0 = some (6, 0) ∧ jP (dC, dI) G0 H0 [] ∧ a1.toInt ≤ 1000000 ∧ n3 ≤ 1000)) (va_Qi (S := Unit) (fun r u => (r = 0 ∨ r = 1) ∧ (r.toInt = 0 ∨ a2.toInt = n3)) (fun u t => (jRt (dC, dI) B base G0 EX4_areUnitsQ H0 [] t.heap) ∧ jKl [] H0 t.heap) (jA base)) 0 0 (jA base) := by
  refine Met.ofW (cc := cX4_areUnits) (maxL := 5) (ret := (some .boolean)) (by decide) rfl ?_
  intro p e s m args below meth c s₁ Bd hml hv
  obtain ⟨rfl, hH0, hX, hG, hstr_r3, hg_r0, hP0, hp0, hp1⟩ := hv
  have hK := hG.1
  have hx := Bd.exec
  have hb := Bd.bytes
  have hr := Bd.returns
  have hts := atoms_spec (ws := (jw yX4_areUnits cX4_areUnits 5 (some .boolean))) Bd.pre
  have htw : ∀ w ∈ jWl, w.before _ s = true := fun w h => hts w (List.mem_cons_of_mem _ h)
  have hown : s.vm.findClass RX4 = some m.cls := findClass_of_methodNamed Bd.named
  have hlocks := Bd.notSynchronized
  obtain ⟨Q, hQ⟩ : ∃ Q, Q = MQ below (va_Qi (S := Unit) (fun r u => (r = 0 ∨ r = 1) ∧ (r.toInt = 0 ∨ a2.toInt = n3)) (fun u t => (jRt (dC, dI) B base G0 EX4_areUnitsQ H0 [] t.heap) ∧ jKl [] H0 t.heap) (jA base)) ([.ref r0, .int a1, .int a2, .ref r3] : List Value).toArray s 0 0 (jA base) := ⟨_, rfl⟩
  rw [← hQ]
  have hl := lv_entry ([.ref r0, .int a1, .int a2, .ref r3]) (n := 5) (Nat.le_of_ble_eq_true rfl)
  rw [lg_entry_eq]
  generalize (lg_sl ([.ref r0, .int a1, .int a2, .ref r3]) ++ List.replicate (5 - (lg_sl ([.ref r0, .int a1, .int a2, .ref r3])).length) Slot.unset).toArray = ls at hl ⊢
  have hl : lv_has ls 5 [(0, .ref r0), (1, .int a1), (2, .int a2), (3, .ref r3)] := hl
  generalize hR : (headSpec (jw yX4_areUnits cX4_areUnits 5 (some .boolean)) ({ frames := 4, cells := 0, slots := 0, locals := 141 })).room = R
  subst hH0
  have hh : jSt (dC, dI) B base G0 G0 EX4_areUnitsQ s.heap 0 0 [] [] [] s.heap [] := jSt.start hX hP0 jMc.nil jIs.nil
  clear hX hP0
  have hk0 : (0 : Int32).toInt = 0 := by decide
  have hk1 : (1 : Int32).toInt = 1 := by decide
  have hly_6_6 := htw (u_lay RX4 TX4 6) (jWc_wsX40 _ (u_in_lay (by decide)))
  have hlk_30 := (htw (.fieldLink RX4 30 "ProofServer$Json" "units" "[I") (jWr_4 _ (List.mem_of_getElem? (i := 3) rfl)))
  have hrg_a1 := jb_rng a1
  have hrg_a2 := jb_rng a2
  have hfl : jKl [] s.heap s.heap := jKl.rf
  refine lv_iload_n hx hb dX4_areUnits_0 rfl (lv_at hl 2 rfl) ?_
  refine lv_aload_n hx hb dX4_areUnits_1 rfl (lv_at hl 3 rfl) ?_
  refine vp_callSi (W.runV (As := []) (rest := [.int a2]) ⟨hx, hb, hml, hown, hts⟩ (wJ0_length_8abf5 l dC dI ca base s.heap r3 n3) (cwV 0 hts (jgV (jWr_20 _ (List.mem_of_getElem? (i := 23) rfl)) (jWr_5 _ (List.mem_of_getElem? (i := 13) rfl)) (jWr_5 _ (List.mem_of_getElem? (i := 14) rfl)) (jWr_5 _ (List.mem_of_getElem? (i := 15) rfl)) (jWr_5 _ (List.mem_of_getElem? (i := 16) rfl))) rfl rfl rfl (by decide +kernel) ⟨by rw [← hR]; exact Nat.le_of_ble_eq_true rfl, by rw [← hR]; exact Nat.le_of_ble_eq_true rfl⟩) ⟨fun a U g mk q => by obtain ⟨q0, q1, q2, qK, q9⟩ := q; exact ⟨q0, q1, (q2.moved (Vm.Alike.refl U.vm)), jG.calling g mk a qK, q9⟩, jStr_recv hstr_r3 hh.1, fun U hU hW => ⟨rfl, hU, (hstr_r3.moved hW.alike).kept hh.1.2.1, hG.step hW hU hh.1, by omega⟩⟩ rfl rfl hl.1 rfl (lv_room (Nat.le_of_ble_eq_true rfl)) dX4_areUnits_2 ⟨Nat.zero_le _, Nat.zero_le _⟩) (fun r_1 hr_1 => ?_)
  refine lv_icmp_ne (tgt := 23) hx hb dX4_areUnits_5 (by decide) (fun c_2 => ?_) (fun c_2 => ?_)
  · skip
    have c_2' : a2.toInt ≠ r_1.toInt := jb_ne (rfl) (rfl) c_2
    refine lv_iconst (v := 0) hx hb dX4_areUnits_23 (by decide) ?_
    rw [hQ]
    exact W.zret (v := 0) hx hb hr (jb_nz (Or.inl rfl)) (fun t ht hW => ⟨⟨0, (), rfl, ⟨(Or.inl rfl), by first | omega | rfl | assumption | decide | exact Or.inl rfl | exact Or.inr rfl | (simp only; omega)⟩, ⟨hh.rt (M1 := []) [] rfl ht, by rw [ht]; exact hfl⟩⟩, by rw [ht]; try exact hh.1.1, fun q h9 hq => by rw [ht]; try exact hh.1.2.1 q h9 hq⟩) hh.1.2.2 dX4_areUnits_24
  · skip
    have c_2' : a2.toInt = r_1.toInt := jb_ne_n (rfl) (rfl) c_2
    refine lv_iload_n hx hb dX4_areUnits_8 rfl (lv_at hl 1 rfl) ?_
    refine lv_if_lt (tgt := 23) hx hb dX4_areUnits_9 (by decide) (fun c_3 => ?_) (fun c_3 => ?_)
    · skip
      have c_3' : a1.toInt < 0 := jb_lt (rfl) ((by decide)) c_3
      refine lv_iconst (v := 0) hx hb dX4_areUnits_23 (by decide) ?_
      rw [hQ]
      exact W.zret (v := 0) hx hb hr (jb_nz (Or.inl rfl)) (fun t ht hW => ⟨⟨0, (), rfl, ⟨(Or.inl rfl), by first | omega | rfl | assumption | decide | exact Or.inl rfl | exact Or.inr rfl | (simp only; omega)⟩, ⟨hh.rt (M1 := []) [] rfl ht, by rw [ht]; exact hfl⟩⟩, by rw [ht]; try exact hh.1.1, fun q h9 hq => by rw [ht]; try exact hh.1.2.1 q h9 hq⟩) hh.1.2.2 dX4_areUnits_24
    · skip
      have c_3' : a1.toInt ≥ 0 := jb_lt_n (rfl) ((by decide)) c_3
      refine lv_iload_n hx hb dX4_areUnits_12 rfl (lv_at hl 1 rfl) ?_
      refine lv_iload_n hx hb dX4_areUnits_13 rfl (lv_at hl 2 rfl) ?_
      refine lv_iadd hx hb dX4_areUnits_14 ?_
      refine lv_topi (fun z_4 ez_4 => ?_)
      have hz_4 : z_4.toInt = a1.toInt + a2.toInt := by rw [ez_4]; exact jb_iadd2 (rfl) (rfl) (by omega)
      refine lv_aload_n hx hb dX4_areUnits_15 rfl (lv_at hl 0 rfl) ?_
      obtain ⟨v_5, hv_5, hh_6⟩ := hh.pin (C := RX4) (T := TX4) (N := 12) hB6 rfl (by decide) hg_r0 (i := 6) (by decide) rfl
      clear hh
      obtain ⟨units_7, rfl, hg_units_7⟩ := hv_5
      refine j7_read hx hb hown hK (C := RX4) (T := TX4) (N := 12) rfl hly_6_6 hlk_30 (hh_6.at 0 rfl) dX4_areUnits_16 ?_
      refine j7_len hx hb hK hh_6 hB146 1 rfl (by decide) hg_units_7 (by omega) dX4_areUnits_19 (fun z_8 hz_8 => ?_)
      refine lv_icmp_le (tgt := 25) hx hb dX4_areUnits_20 (by decide) (fun c_9 => ?_) (fun c_9 => ?_)
      · skip
        have c_9' : z_4.toInt ≤ z_8.toInt := jb_le (rfl) (rfl) c_9
        refine lv_iconst (v := 0) hx hb dX4_areUnits_25 (by decide) ?_
        refine lv_istore (lv' := [(4, .int 0), (0, .ref r0), (1, .int a1), (2, .int a2), (3, .ref r3)]) hx hb dX4_areUnits_26 hl (by decide) rfl (fun ls hl => ?_)
        have L28 : ∀ (N : Nat) (v4_10 : Int32) (H_10 : Heap) (locs_10 : List Loc), jSt (dC, dI) B base G0 G0 EX4_areUnitsQ s.heap 0 0 [(r0, 6, 6, .ref units_7)] [] [] H_10 locs_10 → jKl [] s.heap H_10 → (0 ≤ v4_10.toInt) → (((a2.toInt - v4_10.toInt).toNat : Int) : Int) < N → ∀ ls : Array Slot, lv_has ls 5 [(0, .ref r0), (1, .int a1), (2, .int a2), (3, .ref r3), (4, .int v4_10)] → W p l e R s m ([.ref r0, .int a1, .int a2, .ref r3] : List Value).toArray below meth c H_10 locs_10 0 0 Q (F0 m 28 ls []) := by
          intro N
          induction N with
          | zero => intro v4_10 H_10 locs_10 hh_10 hfl_10 hi_10 hm; exact absurd hm (by omega)
          | succ N L28 =>
            intro v4_10 H_10 locs_10 hh_10 hfl_10 hi_10 hm_10 ls hl
            refine lv_iload hx hb dX4_areUnits_28 (lv_at hl 4 rfl) ?_
            refine lv_iload_n hx hb dX4_areUnits_30 rfl (lv_at hl 2 rfl) ?_
            refine lv_icmp_ge (tgt := 60) hx hb dX4_areUnits_31 (by decide) (fun c_11 => ?_) (fun c_11 => ?_)
            · skip
              have c_11' : v4_10.toInt ≥ a2.toInt := jb_ge (rfl) (rfl) c_11
              refine lv_iconst (v := 1) hx hb dX4_areUnits_60 (by decide) ?_
              rw [hQ]
              exact W.zret (v := 1) hx hb hr (jb_nz (Or.inr rfl)) (fun t ht hW => ⟨⟨1, (), rfl, ⟨(Or.inr rfl), by first | omega | rfl | assumption | decide | exact Or.inl rfl | exact Or.inr rfl | (simp only; omega)⟩, ⟨hh_10.rt (M1 := []) [] rfl ht, by rw [ht]; exact hfl_10⟩⟩, by rw [ht]; try exact hh_10.1.1, fun q h9 hq => by rw [ht]; try exact hh_10.1.2.1 q h9 hq⟩) hh_10.1.2.2 dX4_areUnits_61
            · skip
              have c_11' : v4_10.toInt < a2.toInt := jb_ge_n (rfl) (rfl) c_11
              refine lv_aload_n hx hb dX4_areUnits_34 rfl (lv_at hl 0 rfl) ?_
              refine j7_read hx hb hown hK (C := RX4) (T := TX4) (N := 12) rfl hly_6_6 hlk_30 (hh_10.at 0 rfl) dX4_areUnits_35 ?_
              refine lv_iload_n hx hb dX4_areUnits_38 rfl (lv_at hl 1 rfl) ?_
              refine lv_iload hx hb dX4_areUnits_39 (lv_at hl 4 rfl) ?_
              refine lv_iadd hx hb dX4_areUnits_41 ?_
              refine lv_topi (fun z_12 ez_12 => ?_)
              have hz_12 : z_12.toInt = a1.toInt + v4_10.toInt := by rw [ez_12]; exact jb_iadd2 (rfl) (rfl) (by omega)
              refine j7_iald hx hb hK hh_10 hB146 1 rfl (by decide) hg_units_7 (x := z_12.toInt) (rfl) (by omega) dX4_areUnits_42 (fun z_13 (hz_13 : True) => ?_)
              refine lv_aload_n hx hb dX4_areUnits_43 rfl (lv_at hl 3 rfl) ?_
              refine lv_iload hx hb dX4_areUnits_44 (lv_at hl 4 rfl) ?_
              refine vp_callSi (W.runV (As := [.int v4_10]) (rest := [.int z_13]) ⟨hx, hb, hml, hown, hts⟩ (wJ0_charAt_5068e l dC dI ca base H_10 r3 n3 v4_10) (cwV 1 hts (jgV (jWr_21 _ (List.mem_of_getElem? (i := 0) rfl)) (jWr_6 _ (List.mem_of_getElem? (i := 1) rfl)) (jWr_6 _ (List.mem_of_getElem? (i := 2) rfl)) (jWr_5 _ (List.mem_of_getElem? (i := 15) rfl)) (jWr_6 _ (List.mem_of_getElem? (i := 3) rfl))) rfl rfl rfl (by decide +kernel) ⟨by rw [← hR]; exact Nat.le_of_ble_eq_true rfl, by rw [← hR]; exact Nat.le_of_ble_eq_true rfl⟩) ⟨fun a U g mk q => by obtain ⟨q0, q1, q2, qK, q9⟩ := q; exact ⟨q0, q1, (q2.moved (Vm.Alike.refl U.vm)), jG.calling g mk a qK, q9⟩, jStr_recv hstr_r3 hh_10.1, fun U hU hW => ⟨rfl, hU, (hstr_r3.moved hW.alike).kept hh_10.1.2.1, hG.step hW hU hh_10.1, ⟨by omega, by omega, by omega⟩⟩⟩ rfl rfl hl.1 rfl (lv_room (Nat.le_of_ble_eq_true rfl)) dX4_areUnits_46 ⟨Nat.zero_le _, Nat.zero_le _⟩) (fun r_14 hr_14 => ?_)
              refine lv_icmp_eq (tgt := 54) hx hb dX4_areUnits_49 (by decide) (fun c_15 => ?_) (fun c_15 => ?_)
              · skip
                have c_15' : z_13.toInt = r_14.toInt := jb_eq (rfl) (rfl) c_15
                obtain ⟨z_16, ez_16⟩ : ∃ y : Int32, y = v4_10 + 1 := ⟨_, rfl⟩
                refine lv_iinc (v := z_16) (lv' := [(4, .int z_16), (0, .ref r0), (1, .int a1), (2, .int a2), (3, .ref r3)]) hx hb dX4_areUnits_54 hl (k := 4) rfl (by rw [ez_16]; rfl) (by decide) rfl (fun ls hl => ?_)
                have hz_16 : z_16.toInt = v4_10.toInt + 1 := by rw [ez_16]; exact jb_iadd2 (rfl) (by decide) (by omega)
                refine lv_goto (tgt := 28) hx hb dX4_areUnits_57 (by decide) ?_
                exact L28 z_16 _ _ hh_10 (hfl_10) (by first | omega | rfl | assumption | decide | exact Or.inl rfl | exact Or.inr rfl | (simp only; omega)) (by omega) _ (lv_sub hl [1, 2, 3, 4, 0] rfl)
              · skip
                have c_15' : z_13.toInt ≠ r_14.toInt := jb_eq_n (rfl) (rfl) c_15
                refine lv_iconst (v := 0) hx hb dX4_areUnits_52 (by decide) ?_
                rw [hQ]
                exact W.zret (v := 0) hx hb hr (jb_nz (Or.inl rfl)) (fun t ht hW => ⟨⟨0, (), rfl, ⟨(Or.inl rfl), by first | omega | rfl | assumption | decide | exact Or.inl rfl | exact Or.inr rfl | (simp only; omega)⟩, ⟨hh_10.rt (M1 := []) [] rfl ht, by rw [ht]; exact hfl_10⟩⟩, by rw [ht]; try exact hh_10.1.1, fun q h9 hq => by rw [ht]; try exact hh_10.1.2.1 q h9 hq⟩) hh_10.1.2.2 dX4_areUnits_53
        exact L28 (((a2.toInt - (0 : Int32).toInt).toNat : Int) : Int).toNat.succ 0 _ _ hh_6 (hfl) (by first | omega | rfl | assumption | decide | exact Or.inl rfl | exact Or.inr rfl | (simp only; omega)) (by omega) _ (lv_sub hl [1, 2, 3, 4, 0] rfl)
      · skip
        have c_9' : z_4.toInt > z_8.toInt := jb_le_n (rfl) (rfl) c_9
        refine lv_iconst (v := 0) hx hb dX4_areUnits_23 (by decide) ?_
        rw [hQ]
        exact W.zret (v := 0) hx hb hr (jb_nz (Or.inl rfl)) (fun t ht hW => ⟨⟨0, (), rfl, ⟨(Or.inl rfl), by first | omega | rfl | assumption | decide | exact Or.inl rfl | exact Or.inr rfl | (simp only; omega)⟩, ⟨hh_6.rt (M1 := []) [] rfl ht, by rw [ht]; exact hfl⟩⟩, by rw [ht]; try exact hh_6.1.1, fun q h9 hq => by rw [ht]; try exact hh_6.1.2.1 q h9 hq⟩) hh_6.1.2.2 dX4_areUnits_24
set_option maxHeartbeats 4000000 in
set_option maxRecDepth 20000 in
theorem uX4_memberQ (l : Launch) (dC : Nat → ClassId) (dI : Nat → Nat → Nat) (ca : Nat → ClassId) (base : Nat) (B : jF) (hB : jBok B) (hAp : jAp (dC, dI)) (hB6 : ∀ n G a H, B 6 n G a H ↔ jOb (dC, dI) 6 12 (F6 n G) a H) (hB140 : ∀ n G a H, B 140 n G a H ↔ jAr (dC, dI) (ca 1) (fun j z => True) n a H) (hB141 : ∀ n G a H, B 141 n G a H ↔ jAr (dC, dI) (ca 1) (fun j z => True) n a H) (hB142 : ∀ n G a H, B 142 n G a H ↔ jAr (dC, dI) (ca 1) (fun j z => True) n a H) (hB143 : ∀ n G a H, B 143 n G a H ↔ jAr (dC, dI) (ca 1) (fun j z => True) n a H) (hB144 : ∀ n G a H, B 144 n G a H ↔ jAr (dC, dI) (ca 1) (fun j z => 0 ≤ z.toInt ∧ z.toInt ≤ 3000) n a H) (hB145 : ∀ n G a H, B 145 n G a H ↔ jAr (dC, dI) (ca 1) (fun j z => True) n a H) (hB146 : ∀ n G a H, B 146 n G a H ↔ jAr (dC, dI) (ca 1) (fun j z => True) n a H) (G0 : jT) (H0 : Heap) (r0 : Nat) (a1 : Int32) (r2 : Nat) (n2 : Nat) (pv : Int32) (wk : Nat) (wi : Nat) (wz : Nat) (jks : Nat) (fk : Nat → Int32) (fi : Nat → Int32) (fz : Nat → Int32) (fs : Nat → Int32) : Met l yX4_member (jw yX4_member cX4_member 6 (some .int)) ({ frames := 5, cells := 0, slots := 0, locals := 165 }) (va_Pc [.ref r0, .int a1, .ref r2] (fun U => U.heap = H0 ∧ jX B base G0 [] H0 ∧ jG dC dI ca base U ∧ jStr base r2 n2 U H0 ∧ G0 r0 = some (6, 0) ∧ G0 wk = some (140, 1502) ∧ G0 wi = some (141, 1502) ∧ G0 wz = some (142, 1502) ∧ G0 jks = some (145, 1502) ∧ jP (dC, dI) G0 H0 [(r0, 6, 7, .int pv), (r0, 6, 0, .ref wk), (r0, 6, 1, .ref wi), (r0, 6, 2, .ref wz), (r0, 6, 5, .ref jks)] ∧ jMc (dC, dI) G0 H0 [(wk, 140, 1502, ca 1, fk), (wi, 141, 1502, ca 1, fi), (wz, 142, 1502, ca 1, fz), (jks, 145, 1502, ca 1, fs)] ∧ 0 ≤ pv.toInt ∧ pv.toInt ≤ 1502 ∧ n2 ≤ 1000)) (va_Qi (S := Unit) (fun r u => (-1 ≤ r.toInt ∧ r.toInt ≤ 1501 ∧ (r.toInt < 0 ∨ (r.toInt < pv.toInt ∧ jSo fs r.toInt = n2 ∧ 0 ≤ a1.toInt ∧ a1.toInt < pv.toInt ∧ jSo fk a1.toInt = 1)))) (fun u t => (jRt (dC, dI) B base G0 EX4_memberQ H0 [] t.heap) ∧ jKl [] H0 t.heap) (jA base)) 0 0 (jA base) := by
  refine Met.ofW (cc := cX4_member) (maxL := 6) (ret := (some .int)) (by decide) rfl ?_
  intro p e s m args below meth c s₁ Bd hml hv
  obtain ⟨rfl, hH0, hX, hG, hstr_r2, hg_r0, hg_wk, hg_wi, hg_wz, hg_jks, hP0, hM0, hp0, hp1, hp2⟩ := hv
  have hK := hG.1
  have hx := Bd.exec
  have hb := Bd.bytes
  have hr := Bd.returns
  have hts := atoms_spec (ws := (jw yX4_member cX4_member 6 (some .int))) Bd.pre
  have htw : ∀ w ∈ jWl, w.before _ s = true := fun w h => hts w (List.mem_cons_of_mem _ h)
  have hown : s.vm.findClass RX4 = some m.cls := findClass_of_methodNamed Bd.named
  have hlocks := Bd.notSynchronized
  obtain ⟨Q, hQ⟩ : ∃ Q, Q = MQ below (va_Qi (S := Unit) (fun r u => (-1 ≤ r.toInt ∧ r.toInt ≤ 1501 ∧ (r.toInt < 0 ∨ (r.toInt < pv.toInt ∧ jSo fs r.toInt = n2 ∧ 0 ≤ a1.toInt ∧ a1.toInt < pv.toInt ∧ jSo fk a1.toInt = 1)))) (fun u t => (jRt (dC, dI) B base G0 EX4_memberQ H0 [] t.heap) ∧ jKl [] H0 t.heap) (jA base)) ([.ref r0, .int a1, .ref r2] : List Value).toArray s 0 0 (jA base) := ⟨_, rfl⟩
  rw [← hQ]
  have hl := lv_entry ([.ref r0, .int a1, .ref r2]) (n := 6) (Nat.le_of_ble_eq_true rfl)
  rw [lg_entry_eq]
  generalize (lg_sl ([.ref r0, .int a1, .ref r2]) ++ List.replicate (6 - (lg_sl ([.ref r0, .int a1, .ref r2])).length) Slot.unset).toArray = ls at hl ⊢
  have hl : lv_has ls 6 [(0, .ref r0), (1, .int a1), (2, .ref r2)] := hl
  generalize hR : (headSpec (jw yX4_member cX4_member 6 (some .int)) ({ frames := 5, cells := 0, slots := 0, locals := 165 })).room = R
  subst hH0
  have hh : jSt (dC, dI) B base G0 G0 EX4_memberQ s.heap 0 0 [(r0, 6, 7, .int pv), (r0, 6, 0, .ref wk), (r0, 6, 1, .ref wi), (r0, 6, 2, .ref wz), (r0, 6, 5, .ref jks)] [(wk, 140, 1502, ca 1, fk), (wi, 141, 1502, ca 1, fi), (wz, 142, 1502, ca 1, fz), (jks, 145, 1502, ca 1, fs)] [] s.heap [] := jSt.start hX hP0 hM0 jIs.nil
  clear hX hP0
  have hkm1 : ((-1) : Int32).toInt = (-1) := by decide
  have hk0 : (0 : Int32).toInt = 0 := by decide
  have hk1 : (1 : Int32).toInt = 1 := by decide
  have hly_6_1 := htw (u_lay RX4 TX4 1) (jWc_wsX40 _ (u_in_lay (by decide)))
  have hly_6_2 := htw (u_lay RX4 TX4 2) (jWc_wsX40 _ (u_in_lay (by decide)))
  have hly_6_3 := htw (u_lay RX4 TX4 3) (jWc_wsX40 _ (u_in_lay (by decide)))
  have hly_6_4 := htw (u_lay RX4 TX4 4) (jWc_wsX40 _ (u_in_lay (by decide)))
  have hly_6_5 := htw (u_lay RX4 TX4 5) (jWc_wsX40 _ (u_in_lay (by decide)))
  have hly_6_7 := htw (u_lay RX4 TX4 7) (jWc_wsX40 _ (u_in_lay (by decide)))
  have hlk_15 := (htw (.fieldLink RX4 15 "ProofServer$Json" "firsts" "[I") (jWr_3 _ (List.mem_of_getElem? (i := 22) rfl)))
  have hlk_18 := (htw (.fieldLink RX4 18 "ProofServer$Json" "sizes" "[I") (jWr_3 _ (List.mem_of_getElem? (i := 23) rfl)))
  have hlk_50 := (htw (.fieldLink RX4 50 "ProofServer$Json" "values" "I") (jWr_19 _ (List.mem_of_getElem? (i := 13) rfl)))
  have hlk_24 := (htw (.fieldLink RX4 24 "ProofServer$Json" "keyFirsts" "[I") (jWr_4 _ (List.mem_of_getElem? (i := 1) rfl)))
  have hlk_27 := (htw (.fieldLink RX4 27 "ProofServer$Json" "keySizes" "[I") (jWr_4 _ (List.mem_of_getElem? (i := 2) rfl)))
  have hlk_21 := (htw (.fieldLink RX4 21 "ProofServer$Json" "nexts" "[I") (jWr_4 _ (List.mem_of_getElem? (i := 0) rfl)))
  have hrg_a1 := jb_rng a1
  have hfl : jKl [] s.heap s.heap := jKl.rf
  refine lv_aload_n hx hb dX4_member_0 rfl (lv_at hl 0 rfl) ?_
  refine lv_iload_n hx hb dX4_member_1 rfl (lv_at hl 1 rfl) ?_
  refine va_calli (A0 := jA base) (H0 := s.heap) (va_runV (As := [.int a1]) (rest := []) ⟨hx, hb, hml, hown, hts⟩ (uX4_kindOfW l dC dI ca base B hB hAp hB6 hB140 G0 s.heap r0 a1 pv wk wi wz fk fi fz) (cwV 1 hts (jgV (jWr_23 _ (List.mem_of_getElem? (i := 14) rfl)) (jWr_23 _ (List.mem_of_getElem? (i := 15) rfl)) (jWr_23 _ (List.mem_of_getElem? (i := 16) rfl)) (jWr_1 _ (List.mem_of_getElem? (i := 22) rfl)) (jWr_23 _ (List.mem_of_getElem? (i := 17) rfl))) rfl rfl rfl (by decide +kernel) ⟨by rw [← hR]; exact Nat.le_of_ble_eq_true rfl, by rw [← hR]; exact Nat.le_of_ble_eq_true rfl⟩) ⟨fun a U g mk q => by obtain ⟨q0, q1, q2, qK, q10, q11, q12, q13, q14, q15, q16⟩ := q; exact ⟨q0, q1, q2, jG.calling g mk a qK, q10, q11, q12, q13, q14, q15, q16⟩, hh.recv (C := RX4) (T := TX4) (N := 12) hB6 rfl (by decide) hg_r0 hK, fun U hU hW => ⟨rfl, hU, hh.2.1, hG.step hW hU hh.1, hg_r0, hg_wk, hg_wi, hg_wz, (hh.2.2.1.sub (L1 := [(r0, 6, 7, .int pv), (r0, 6, 0, .ref wk), (r0, 6, 1, .ref wi), (r0, 6, 2, .ref wz)]) [0, 1, 2, 3] rfl), (hh.2.2.2.2.2.2.2.1.sub (L1 := [(wk, 140, 1502, ca 1, fk), (wi, 141, 1502, ca 1, fi), (wz, 142, 1502, ca 1, fz)]) [0, 1, 2] rfl), by first | omega | (refine ⟨?_, ?_⟩ <;> (first | omega | rfl | assumption | decide | exact Or.inl rfl | exact Or.inr rfl | (simp only; omega)))⟩⟩ rfl rfl hl.1 rfl (lv_room (Nat.le_of_ble_eq_true rfl)) dX4_member_2 ⟨Nat.zero_le _, Nat.zero_le _⟩) hh.1 (fun q _ h => h) (fun q h => h) (fun r_2 u_1 t_1 H_1 locs_1 ht_1 hvm_1 hr_2 hb_1 hz_1 hk_1 hS_1 => ?_)
  rw [ht_1] at hb_1
  obtain ⟨hb_1, hbF_1⟩ := hb_1
  obtain ⟨hb_11, hb_12, hb_13, hb_14, hb_15⟩ := hb_1
  have hh_1 : jSt (dC, dI) B base G0 G0 EX4_memberQ s.heap 0 0 [(r0, 6, 7, .int pv), (r0, 6, 0, .ref wk), (r0, 6, 1, .ref wi), (r0, 6, 2, .ref wz), (r0, 6, 5, .ref jks)] [(wk, 140, 1502, ca 1, fk), (wi, 141, 1502, ca 1, fi), (wz, 142, 1502, ca 1, fz), (jks, 145, 1502, ca 1, fs)] [] H_1 locs_1 := ((hh.call hb_11 hb_12 hb_13 hb_14 hS_1 rfl (L1 := [(r0, 6, 7, .int pv), (r0, 6, 0, .ref wk), (r0, 6, 1, .ref wi), (r0, 6, 2, .ref wz), (r0, 6, 5, .ref jks)]) [0, 1, 2, 3, 4] rfl rfl (M1 := [(wk, 140, 1502, ca 1, fk), (wi, 141, 1502, ca 1, fi), (wz, 142, 1502, ca 1, fz), (jks, 145, 1502, ca 1, fs)]) [0, 1, 2, 3] rfl rfl (I1 := []) [] rfl rfl).more hb_15)
  clear hh ht_1 hvm_1 hz_1 hk_1 hS_1 hb_11 hb_12 hb_13 hb_14 hb_15
  have hfl_3 := hfl.tr hbF_1 (by first | exact fun q h => h | (intro q h9; simp at h9 ⊢; exact h9) | (intro q h9; simp at h9))
  refine lv_iconst (v := 1) hx hb dX4_member_5 (by decide) ?_
  refine lv_icmp_eq (tgt := 11) hx hb dX4_member_6 (by decide) (fun c_4 => ?_) (fun c_4 => ?_)
  · skip
    have c_4' : r_2.toInt = 1 := jb_eq (rfl) ((by decide)) c_4
    first | (have hr_2q := hr_2.resolve_left (by omega); clear hr_2) | (have hr_2q := hr_2.resolve_right (by omega); clear hr_2) | try clear hr_2
    refine lv_iconst (v := (-1)) hx hb dX4_member_11 (by decide) ?_
    refine lv_istore_n (lv' := [(3, .int (-1)), (0, .ref r0), (1, .int a1), (2, .ref r2)]) hx hb dX4_member_12 rfl hl (by decide) rfl (fun ls hl => ?_)
    refine lv_aload_n hx hb dX4_member_13 rfl (lv_at hl 1 rfl) ?_
    refine j7_read hx hb hown hK (C := RX4) (T := TX4) (N := 12) rfl hly_6_1 hlk_15 (hh_1.at 2 rfl) dX4_member_14 ?_
    refine lv_iload_n hx hb dX4_member_17 rfl (lv_at hl 2 rfl) ?_
    refine j7_ialdM hx hb hK hh_1 hB141 1 rfl (by decide) hg_wi (x := a1.toInt) (rfl) (by omega) (j := 1) rfl dX4_member_18 (fun z_5 ez_5 (hz_5 : True) => ?_)
    have hqz_5 : z_5.toInt = jSo fi (a1.toInt) := by unfold jSo; rw [ez_5]
    refine lv_istore (lv' := [(4, .int z_5), (3, .int (-1)), (0, .ref r0), (1, .int a1), (2, .ref r2)]) hx hb dX4_member_19 hl (by decide) rfl (fun ls hl => ?_)
    refine lv_iconst (v := 0) hx hb dX4_member_21 (by decide) ?_
    refine lv_istore (lv' := [(5, .int 0), (4, .int z_5), (3, .int (-1)), (0, .ref r0), (1, .int a1), (2, .ref r2)]) hx hb dX4_member_22 hl (by decide) rfl (fun ls hl => ?_)
    have L24 : ∀ (N : Nat) (v3_6 : Int32) (v4_6 : Int32) (v5_6 : Int32) (H_6 : Heap) (locs_6 : List Loc), jSt (dC, dI) B base G0 G0 EX4_memberQ s.heap 0 0 [(r0, 6, 7, .int pv), (r0, 6, 0, .ref wk), (r0, 6, 1, .ref wi), (r0, 6, 2, .ref wz), (r0, 6, 5, .ref jks)] [(wk, 140, 1502, ca 1, fk), (wi, 141, 1502, ca 1, fi), (wz, 142, 1502, ca 1, fz), (jks, 145, 1502, ca 1, fs)] [] H_6 locs_6 → jKl [] s.heap H_6 → (0 ≤ v5_6.toInt ∧ -1 ≤ v3_6.toInt ∧ v3_6.toInt ≤ 1501 ∧ (v3_6.toInt < 0 ∨ (v3_6.toInt < pv.toInt ∧ jSo fs v3_6.toInt = n2))) → (((jSo fz a1.toInt - v5_6.toInt).toNat : Int) : Int) < N → ∀ ls : Array Slot, lv_has ls 6 [(0, .ref r0), (1, .int a1), (2, .ref r2), (3, .int v3_6), (4, .int v4_6), (5, .int v5_6)] → W p l e R s m ([.ref r0, .int a1, .ref r2] : List Value).toArray below meth c H_6 locs_6 0 0 Q (F0 m 24 ls []) := by
      intro N
      induction N with
      | zero => intro v3_6 v4_6 v5_6 H_6 locs_6 hh_6 hfl_6 hi_6 hm; exact absurd hm (by omega)
      | succ N L24 =>
        intro v3_6 v4_6 v5_6 H_6 locs_6 hh_6 hfl_6 hi_6 hm_6 ls hl
        obtain ⟨hi_6_0, hi_6_1, hi_6_2, hi_6_3⟩ := hi_6
        have hrs : jSo fz a1.toInt ≤ 2147483647 := by unfold jSo; have := jb_rng (fz (a1.toInt).toNat); omega
        refine lv_iload hx hb dX4_member_24 (lv_at hl 5 rfl) ?_
        refine lv_aload_n hx hb dX4_member_26 rfl (lv_at hl 0 rfl) ?_
        refine j7_read hx hb hown hK (C := RX4) (T := TX4) (N := 12) rfl hly_6_2 hlk_18 (hh_6.at 3 rfl) dX4_member_27 ?_
        refine lv_iload_n hx hb dX4_member_30 rfl (lv_at hl 1 rfl) ?_
        refine j7_ialdM hx hb hK hh_6 hB142 1 rfl (by decide) hg_wz (x := a1.toInt) (rfl) (by omega) (j := 2) rfl dX4_member_31 (fun z_7 ez_7 (hz_7 : True) => ?_)
        have hqz_7 : z_7.toInt = jSo fz (a1.toInt) := by unfold jSo; rw [ez_7]
        refine lv_icmp_ge (tgt := 89) hx hb dX4_member_32 (by decide) (fun c_8 => ?_) (fun c_8 => ?_)
        · skip
          have c_8' : v5_6.toInt ≥ z_7.toInt := jb_ge (rfl) (rfl) c_8
          refine lv_iload_n hx hb dX4_member_89 rfl (lv_at hl 3 rfl) ?_
          rw [hQ]
          exact W.iret (v := v3_6) hx hb hr (fun t ht hW => ⟨⟨v3_6, (), rfl, by first | omega | (refine ⟨?_, ?_, ?_⟩ <;> (first | omega | rfl | assumption | decide | exact Or.inl rfl | exact Or.inr rfl | (simp only; omega))), ⟨hh_6.rt (M1 := []) [] rfl ht, by rw [ht]; exact hfl_6⟩⟩, by rw [ht]; try exact hh_6.1.1, fun q h9 hq => by rw [ht]; try exact hh_6.1.2.1 q h9 hq⟩) hh_6.1.2.2 dX4_member_90
        · skip
          have c_8' : v5_6.toInt < z_7.toInt := jb_ge_n (rfl) (rfl) c_8
          refine lv_iload hx hb dX4_member_35 (lv_at hl 4 rfl) ?_
          refine lv_if_lt (tgt := 89) hx hb dX4_member_37 (by decide) (fun c_9 => ?_) (fun c_9 => ?_)
          · skip
            have c_9' : v4_6.toInt < 0 := jb_lt (rfl) ((by decide)) c_9
            refine lv_iload_n hx hb dX4_member_89 rfl (lv_at hl 3 rfl) ?_
            rw [hQ]
            exact W.iret (v := v3_6) hx hb hr (fun t ht hW => ⟨⟨v3_6, (), rfl, by first | omega | (refine ⟨?_, ?_, ?_⟩ <;> (first | omega | rfl | assumption | decide | exact Or.inl rfl | exact Or.inr rfl | (simp only; omega))), ⟨hh_6.rt (M1 := []) [] rfl ht, by rw [ht]; exact hfl_6⟩⟩, by rw [ht]; try exact hh_6.1.1, fun q h9 hq => by rw [ht]; try exact hh_6.1.2.1 q h9 hq⟩) hh_6.1.2.2 dX4_member_90
          · skip
            have c_9' : v4_6.toInt ≥ 0 := jb_lt_n (rfl) ((by decide)) c_9
            refine lv_iload hx hb dX4_member_40 (lv_at hl 4 rfl) ?_
            refine lv_aload_n hx hb dX4_member_42 rfl (lv_at hl 0 rfl) ?_
            refine j7_read hx hb hown hK (C := RX4) (T := TX4) (N := 12) rfl hly_6_7 hlk_50 (hh_6.at 0 rfl) dX4_member_43 ?_
            refine lv_icmp_ge (tgt := 89) hx hb dX4_member_46 (by decide) (fun c_10 => ?_) (fun c_10 => ?_)
            · skip
              have c_10' : v4_6.toInt ≥ pv.toInt := jb_ge (rfl) (rfl) c_10
              refine lv_iload_n hx hb dX4_member_89 rfl (lv_at hl 3 rfl) ?_
              rw [hQ]
              exact W.iret (v := v3_6) hx hb hr (fun t ht hW => ⟨⟨v3_6, (), rfl, by first | omega | (refine ⟨?_, ?_, ?_⟩ <;> (first | omega | rfl | assumption | decide | exact Or.inl rfl | exact Or.inr rfl | (simp only; omega))), ⟨hh_6.rt (M1 := []) [] rfl ht, by rw [ht]; exact hfl_6⟩⟩, by rw [ht]; try exact hh_6.1.1, fun q h9 hq => by rw [ht]; try exact hh_6.1.2.1 q h9 hq⟩) hh_6.1.2.2 dX4_member_90
            · skip
              have c_10' : v4_6.toInt < pv.toInt := jb_ge_n (rfl) (rfl) c_10
              refine lv_aload_n hx hb dX4_member_49 rfl (lv_at hl 0 rfl) ?_
              refine lv_aload_n hx hb dX4_member_50 rfl (lv_at hl 0 rfl) ?_
              obtain ⟨v_11, hv_11, hh_12⟩ := hh_6.pin (C := RX4) (T := TX4) (N := 12) hB6 rfl (by decide) hg_r0 (i := 4) (by decide) rfl
              clear hh_6
              obtain ⟨keyFirsts_13, rfl, hg_keyFirsts_13⟩ := hv_11
              refine j7_read hx hb hown hK (C := RX4) (T := TX4) (N := 12) rfl hly_6_4 hlk_24 (hh_12.at 0 rfl) dX4_member_51 ?_
              refine lv_iload hx hb dX4_member_54 (lv_at hl 4 rfl) ?_
              refine j7_iald hx hb hK hh_12 hB144 1 rfl (by decide) hg_keyFirsts_13 (x := v4_6.toInt) (rfl) (by omega) dX4_member_56 (fun z_14 (hz_14 : 0 ≤ z_14.toInt ∧ z_14.toInt ≤ 3000) => ?_)
              refine lv_aload_n hx hb dX4_member_57 rfl (lv_at hl 0 rfl) ?_
              refine j7_read hx hb hown hK (C := RX4) (T := TX4) (N := 12) rfl hly_6_5 hlk_27 (hh_12.at 5 rfl) dX4_member_58 ?_
              refine lv_iload hx hb dX4_member_61 (lv_at hl 4 rfl) ?_
              refine j7_ialdM hx hb hK hh_12 hB145 1 rfl (by decide) hg_jks (x := v4_6.toInt) (rfl) (by omega) (j := 3) rfl dX4_member_63 (fun z_15 ez_15 (hz_15 : True) => ?_)
              have hqz_15 : z_15.toInt = jSo fs (v4_6.toInt) := by unfold jSo; rw [ez_15]
              refine lv_aload_n hx hb dX4_member_64 rfl (lv_at hl 2 rfl) ?_
              refine va_calli (A0 := jA base) (H0 := s.heap) (va_runV (As := [.int z_14, .int z_15, .ref r2]) (rest := []) ⟨hx, hb, hml, hown, hts⟩ (uX4_areUnitsQ l dC dI ca base B hB hAp hB6 hB146 G0 H_6 r0 z_14 z_15 r2 n2) (cwV 3 hts (jgV (jWr_23 _ (List.mem_of_getElem? (i := 18) rfl)) (jWr_23 _ (List.mem_of_getElem? (i := 19) rfl)) (jWr_23 _ (List.mem_of_getElem? (i := 20) rfl)) (jWr_1 _ (List.mem_of_getElem? (i := 22) rfl)) (jWr_23 _ (List.mem_of_getElem? (i := 21) rfl))) rfl rfl rfl (by decide +kernel) ⟨by rw [← hR]; exact Nat.le_of_ble_eq_true rfl, by rw [← hR]; exact Nat.le_of_ble_eq_true rfl⟩) ⟨fun a U g mk q => by obtain ⟨q0, q1, q2, qK, q10, q11, q12, q13⟩ := q; exact ⟨q0, q1, q2, jG.calling g mk a qK, (q10.moved (Vm.Alike.refl U.vm)), q11, q12, q13⟩, hh_12.recv (C := RX4) (T := TX4) (N := 12) hB6 rfl (by decide) hg_r0 hK, fun U hU hW => ⟨rfl, hU, hh_12.2.1, hG.step hW hU hh_12.1, (hstr_r2.moved hW.alike).kept hh_12.1.2.1, hg_r0, jP.nil, by first | omega | (refine ⟨?_, ?_⟩ <;> (first | omega | rfl | assumption | decide | exact Or.inl rfl | exact Or.inr rfl | (simp only; omega)))⟩⟩ rfl rfl hl.1 rfl (lv_room (Nat.le_of_ble_eq_true rfl)) dX4_member_65 ⟨Nat.zero_le _, Nat.zero_le _⟩) hh_12.1 (fun q _ h => h) (fun q h => h) (fun r_17 u_16 t_16 H_16 locs_16 ht_16 hvm_16 hr_17 hb_16 hz_16 hk_16 hS_16 => ?_)
              rw [ht_16] at hb_16
              obtain ⟨hb_16, hbF_16⟩ := hb_16
              obtain ⟨hb_161, hb_162, hb_163, hb_164, hb_165⟩ := hb_16
              have hh_16 : jSt (dC, dI) B base G0 G0 EX4_memberQ s.heap 0 0 [(r0, 6, 4, .ref keyFirsts_13), (r0, 6, 7, .int pv), (r0, 6, 0, .ref wk), (r0, 6, 1, .ref wi), (r0, 6, 2, .ref wz), (r0, 6, 5, .ref jks)] [(wk, 140, 1502, ca 1, fk), (wi, 141, 1502, ca 1, fi), (wz, 142, 1502, ca 1, fz), (jks, 145, 1502, ca 1, fs)] [] H_16 locs_16 := ((hh_12.call hb_161 hb_162 hb_163 hb_164 hS_16 rfl (L1 := [(r0, 6, 4, .ref keyFirsts_13), (r0, 6, 7, .int pv), (r0, 6, 0, .ref wk), (r0, 6, 1, .ref wi), (r0, 6, 2, .ref wz), (r0, 6, 5, .ref jks)]) [0, 1, 2, 3, 4, 5] rfl rfl (M1 := [(wk, 140, 1502, ca 1, fk), (wi, 141, 1502, ca 1, fi), (wz, 142, 1502, ca 1, fz), (jks, 145, 1502, ca 1, fs)]) [0, 1, 2, 3] rfl rfl (I1 := []) [] rfl rfl).more hb_165)
              clear hh_12 ht_16 hvm_16 hz_16 hk_16 hS_16 hb_161 hb_162 hb_163 hb_164 hb_165
              have hfl_18 := hfl_6.tr hbF_16 (by first | exact fun q h => h | (intro q h9; simp at h9 ⊢; exact h9) | (intro q h9; simp at h9))
              obtain ⟨hr_17b, hr_17p⟩ := hr_17
              have hr_17' := jb_01 hr_17b
              refine lv_if_eq (tgt := 74) hx hb dX4_member_68 (by decide) (fun c_19 => ?_) (fun c_19 => ?_)
              · skip
                have c_19' : r_17.toInt = 0 := jb_eq (rfl) ((by decide)) c_19
                first | (have hr_17pq := hr_17p.resolve_left (by omega); clear hr_17p) | (have hr_17pq := hr_17p.resolve_right (by omega); clear hr_17p) | try clear hr_17p
                refine lv_aload_n hx hb dX4_member_74 rfl (lv_at hl 0 rfl) ?_
                obtain ⟨v_20, hv_20, hh_21⟩ := hh_16.pin (C := RX4) (T := TX4) (N := 12) hB6 rfl (by decide) hg_r0 (i := 3) (by decide) rfl
                clear hh_16
                obtain ⟨nexts_22, rfl, hg_nexts_22⟩ := hv_20
                refine j7_read hx hb hown hK (C := RX4) (T := TX4) (N := 12) rfl hly_6_3 hlk_21 (hh_21.at 0 rfl) dX4_member_75 ?_
                refine lv_iload hx hb dX4_member_78 (lv_at hl 4 rfl) ?_
                refine j7_iald hx hb hK hh_21 hB143 1 rfl (by decide) hg_nexts_22 (x := v4_6.toInt) (rfl) (by omega) dX4_member_80 (fun z_23 (hz_23 : True) => ?_)
                refine lv_istore (lv' := [(4, .int z_23), (0, .ref r0), (1, .int a1), (2, .ref r2), (3, .int v3_6), (5, .int v5_6)]) hx hb dX4_member_81 hl (by decide) rfl (fun ls hl => ?_)
                obtain ⟨z_24, ez_24⟩ : ∃ y : Int32, y = v5_6 + 1 := ⟨_, rfl⟩
                refine lv_iinc (v := z_24) (lv' := [(5, .int z_24), (4, .int z_23), (0, .ref r0), (1, .int a1), (2, .ref r2), (3, .int v3_6)]) hx hb dX4_member_83 hl (k := 5) rfl (by rw [ez_24]; rfl) (by decide) rfl (fun ls hl => ?_)
                have hz_24 : z_24.toInt = v5_6.toInt + 1 := by rw [ez_24]; exact jb_iadd2 (rfl) (by decide) (by omega)
                refine lv_goto (tgt := 24) hx hb dX4_member_86 (by decide) ?_
                exact L24 v3_6 z_23 z_24 _ _ (hh_21.sub (L1 := [(r0, 6, 7, .int pv), (r0, 6, 0, .ref wk), (r0, 6, 1, .ref wi), (r0, 6, 2, .ref wz), (r0, 6, 5, .ref jks)]) [2, 3, 4, 5, 6] rfl (M1 := [(wk, 140, 1502, ca 1, fk), (wi, 141, 1502, ca 1, fi), (wz, 142, 1502, ca 1, fz), (jks, 145, 1502, ca 1, fs)]) [0, 1, 2, 3] rfl (I1 := []) [] rfl) (hfl_18) (by first | omega | (refine ⟨?_, ?_, ?_, ?_⟩ <;> (first | omega | rfl | assumption | decide | exact Or.inl rfl | exact Or.inr rfl | (simp only; omega)))) (by omega) _ (lv_sub hl [2, 3, 4, 5, 1, 0] rfl)
              · skip
                have c_19' : r_17.toInt ≠ 0 := jb_eq_n (rfl) ((by decide)) c_19
                first | (have hr_17pq := hr_17p.resolve_left (by omega); clear hr_17p) | (have hr_17pq := hr_17p.resolve_right (by omega); clear hr_17p) | try clear hr_17p
                refine lv_iload hx hb dX4_member_71 (lv_at hl 4 rfl) ?_
                refine lv_istore_n (lv' := [(3, .int v4_6), (0, .ref r0), (1, .int a1), (2, .ref r2), (4, .int v4_6), (5, .int v5_6)]) hx hb dX4_member_73 rfl hl (by decide) rfl (fun ls hl => ?_)
                refine lv_aload_n hx hb dX4_member_74 rfl (lv_at hl 1 rfl) ?_
                obtain ⟨v_25, hv_25, hh_26⟩ := hh_16.pin (C := RX4) (T := TX4) (N := 12) hB6 rfl (by decide) hg_r0 (i := 3) (by decide) rfl
                clear hh_16
                obtain ⟨nexts_27, rfl, hg_nexts_27⟩ := hv_25
                refine j7_read hx hb hown hK (C := RX4) (T := TX4) (N := 12) rfl hly_6_3 hlk_21 (hh_26.at 0 rfl) dX4_member_75 ?_
                refine lv_iload hx hb dX4_member_78 (lv_at hl 4 rfl) ?_
                refine j7_iald hx hb hK hh_26 hB143 1 rfl (by decide) hg_nexts_27 (x := v4_6.toInt) (rfl) (by omega) dX4_member_80 (fun z_28 (hz_28 : True) => ?_)
                refine lv_istore (lv' := [(4, .int z_28), (3, .int v4_6), (0, .ref r0), (1, .int a1), (2, .ref r2), (5, .int v5_6)]) hx hb dX4_member_81 hl (by decide) rfl (fun ls hl => ?_)
                obtain ⟨z_29, ez_29⟩ : ∃ y : Int32, y = v5_6 + 1 := ⟨_, rfl⟩
                refine lv_iinc (v := z_29) (lv' := [(5, .int z_29), (4, .int z_28), (3, .int v4_6), (0, .ref r0), (1, .int a1), (2, .ref r2)]) hx hb dX4_member_83 hl (k := 5) rfl (by rw [ez_29]; rfl) (by decide) rfl (fun ls hl => ?_)
                have hz_29 : z_29.toInt = v5_6.toInt + 1 := by rw [ez_29]; exact jb_iadd2 (rfl) (by decide) (by omega)
                refine lv_goto (tgt := 24) hx hb dX4_member_86 (by decide) ?_
                exact L24 v4_6 z_28 z_29 _ _ (hh_26.sub (L1 := [(r0, 6, 7, .int pv), (r0, 6, 0, .ref wk), (r0, 6, 1, .ref wi), (r0, 6, 2, .ref wz), (r0, 6, 5, .ref jks)]) [2, 3, 4, 5, 6] rfl (M1 := [(wk, 140, 1502, ca 1, fk), (wi, 141, 1502, ca 1, fi), (wz, 142, 1502, ca 1, fz), (jks, 145, 1502, ca 1, fs)]) [0, 1, 2, 3] rfl (I1 := []) [] rfl) (hfl_18) (by first | omega | (refine ⟨?_, ?_, ?_, ?_⟩ <;> (first | omega | rfl | assumption | decide | exact Or.inl rfl | exact Or.inr rfl | (simp only; omega)))) (by omega) _ (lv_sub hl [3, 4, 5, 2, 1, 0] rfl)
    exact L24 (((jSo fz a1.toInt - (0 : Int32).toInt).toNat : Int) : Int).toNat.succ (-1) z_5 0 _ _ hh_1 (hfl_3) (by first | omega | (refine ⟨?_, ?_, ?_, ?_⟩ <;> (first | omega | rfl | assumption | decide | exact Or.inl rfl | exact Or.inr rfl | (simp only; omega)))) (by omega) _ (lv_sub hl [3, 4, 5, 2, 1, 0] rfl)
  · skip
    have c_4' : r_2.toInt ≠ 1 := jb_eq_n (rfl) ((by decide)) c_4
    try clear hr_2
    refine lv_iconst (v := (-1)) hx hb dX4_member_9 (by decide) ?_
    rw [hQ]
    exact W.iret (v := (-1)) hx hb hr (fun t ht hW => ⟨⟨(-1), (), rfl, by first | omega | (refine ⟨?_, ?_, ?_⟩ <;> (first | omega | rfl | assumption | decide | exact Or.inl rfl | exact Or.inr rfl | (simp only; omega))), ⟨hh_1.rt (M1 := []) [] rfl ht, by rw [ht]; exact hfl_3⟩⟩, by rw [ht]; try exact hh_1.1.1, fun q h9 hq => by rw [ht]; try exact hh_1.1.2.1 q h9 hq⟩) hh_1.1.2.2 dX4_member_10
set_option maxHeartbeats 4000000 in
set_option maxRecDepth 20000 in
theorem uX4_isTextQ (l : Launch) (dC : Nat → ClassId) (dI : Nat → Nat → Nat) (ca : Nat → ClassId) (base : Nat) (B : jF) (hB : jBok B) (hAp : jAp (dC, dI)) (hB6 : ∀ n G a H, B 6 n G a H ↔ jOb (dC, dI) 6 12 (F6 n G) a H) (hB140 : ∀ n G a H, B 140 n G a H ↔ jAr (dC, dI) (ca 1) (fun j z => True) n a H) (hB141 : ∀ n G a H, B 141 n G a H ↔ jAr (dC, dI) (ca 1) (fun j z => True) n a H) (hB142 : ∀ n G a H, B 142 n G a H ↔ jAr (dC, dI) (ca 1) (fun j z => True) n a H) (hB146 : ∀ n G a H, B 146 n G a H ↔ jAr (dC, dI) (ca 1) (fun j z => True) n a H) (G0 : jT) (H0 : Heap) (r0 : Nat) (a1 : Int32) (r2 : Nat) (n2 : Nat) (pv : Int32) (wk : Nat) (wi : Nat) (wz : Nat) (fk : Nat → Int32) (fi : Nat → Int32) (fz : Nat → Int32) : Met l yX4_isText (jw yX4_isText cX4_isText 3 (some .boolean)) ({ frames := 5, cells := 0, slots := 0, locals := 165 }) (va_Pc [.ref r0, .int a1, .ref r2] (fun U => U.heap = H0 ∧ jX B base G0 [] H0 ∧ jG dC dI ca base U ∧ jStr base r2 n2 U H0 ∧ G0 r0 = some (6, 0) ∧ G0 wk = some (140, 1502) ∧ G0 wi = some (141, 1502) ∧ G0 wz = some (142, 1502) ∧ jP (dC, dI) G0 H0 [(r0, 6, 7, .int pv), (r0, 6, 0, .ref wk), (r0, 6, 1, .ref wi), (r0, 6, 2, .ref wz)] ∧ jMc (dC, dI) G0 H0 [(wk, 140, 1502, ca 1, fk), (wi, 141, 1502, ca 1, fi), (wz, 142, 1502, ca 1, fz)] ∧ 0 ≤ pv.toInt ∧ pv.toInt ≤ 1502 ∧ n2 ≤ 1000 ∧ jJq fk fi fz pv.toInt)) (va_Qi (S := Unit) (fun r u => (r = 0 ∨ r = 1) ∧ (r.toInt = 0 ∨ (0 ≤ a1.toInt ∧ a1.toInt < pv.toInt ∧ jSo fk a1.toInt = 3 ∧ jSo fz a1.toInt = n2))) (fun u t => (jRt (dC, dI) B base G0 EX4_isTextQ H0 [] t.heap) ∧ jKl [] H0 t.heap) (jA base)) 0 0 (jA base) := by
  refine Met.ofW (cc := cX4_isText) (maxL := 3) (ret := (some .boolean)) (by decide) rfl ?_
  intro p e s m args below meth c s₁ Bd hml hv
  obtain ⟨rfl, hH0, hX, hG, hstr_r2, hg_r0, hg_wk, hg_wi, hg_wz, hP0, hM0, hp0, hp1, hp2, hp3⟩ := hv
  have hK := hG.1
  have hx := Bd.exec
  have hb := Bd.bytes
  have hr := Bd.returns
  have hts := atoms_spec (ws := (jw yX4_isText cX4_isText 3 (some .boolean))) Bd.pre
  have htw : ∀ w ∈ jWl, w.before _ s = true := fun w h => hts w (List.mem_cons_of_mem _ h)
  have hown : s.vm.findClass RX4 = some m.cls := findClass_of_methodNamed Bd.named
  have hlocks := Bd.notSynchronized
  obtain ⟨Q, hQ⟩ : ∃ Q, Q = MQ below (va_Qi (S := Unit) (fun r u => (r = 0 ∨ r = 1) ∧ (r.toInt = 0 ∨ (0 ≤ a1.toInt ∧ a1.toInt < pv.toInt ∧ jSo fk a1.toInt = 3 ∧ jSo fz a1.toInt = n2))) (fun u t => (jRt (dC, dI) B base G0 EX4_isTextQ H0 [] t.heap) ∧ jKl [] H0 t.heap) (jA base)) ([.ref r0, .int a1, .ref r2] : List Value).toArray s 0 0 (jA base) := ⟨_, rfl⟩
  rw [← hQ]
  have hl := lv_entry ([.ref r0, .int a1, .ref r2]) (n := 3) (Nat.le_of_ble_eq_true rfl)
  rw [lg_entry_eq]
  generalize (lg_sl ([.ref r0, .int a1, .ref r2]) ++ List.replicate (3 - (lg_sl ([.ref r0, .int a1, .ref r2])).length) Slot.unset).toArray = ls at hl ⊢
  have hl : lv_has ls 3 [(0, .ref r0), (1, .int a1), (2, .ref r2)] := hl
  generalize hR : (headSpec (jw yX4_isText cX4_isText 3 (some .boolean)) ({ frames := 5, cells := 0, slots := 0, locals := 165 })).room = R
  subst hH0
  have hh : jSt (dC, dI) B base G0 G0 EX4_isTextQ s.heap 0 0 [(r0, 6, 7, .int pv), (r0, 6, 0, .ref wk), (r0, 6, 1, .ref wi), (r0, 6, 2, .ref wz)] [(wk, 140, 1502, ca 1, fk), (wi, 141, 1502, ca 1, fi), (wz, 142, 1502, ca 1, fz)] [] s.heap [] := jSt.start hX hP0 hM0 jIs.nil
  clear hX hP0
  have hk0 : (0 : Int32).toInt = 0 := by decide
  have hk1 : (1 : Int32).toInt = 1 := by decide
  have hk3 : (3 : Int32).toInt = 3 := by decide
  have hly_6_1 := htw (u_lay RX4 TX4 1) (jWc_wsX40 _ (u_in_lay (by decide)))
  have hly_6_2 := htw (u_lay RX4 TX4 2) (jWc_wsX40 _ (u_in_lay (by decide)))
  have hlk_15 := (htw (.fieldLink RX4 15 "ProofServer$Json" "firsts" "[I") (jWr_3 _ (List.mem_of_getElem? (i := 22) rfl)))
  have hlk_18 := (htw (.fieldLink RX4 18 "ProofServer$Json" "sizes" "[I") (jWr_3 _ (List.mem_of_getElem? (i := 23) rfl)))
  have hrg_a1 := jb_rng a1
  have hfl : jKl [] s.heap s.heap := jKl.rf
  refine lv_aload_n hx hb dX4_isText_0 rfl (lv_at hl 0 rfl) ?_
  refine lv_iload_n hx hb dX4_isText_1 rfl (lv_at hl 1 rfl) ?_
  refine va_calli (A0 := jA base) (H0 := s.heap) (va_runV (As := [.int a1]) (rest := []) ⟨hx, hb, hml, hown, hts⟩ (uX4_kindOfW l dC dI ca base B hB hAp hB6 hB140 G0 s.heap r0 a1 pv wk wi wz fk fi fz) (cwV 1 hts (jgV (jWr_23 _ (List.mem_of_getElem? (i := 14) rfl)) (jWr_23 _ (List.mem_of_getElem? (i := 15) rfl)) (jWr_23 _ (List.mem_of_getElem? (i := 16) rfl)) (jWr_1 _ (List.mem_of_getElem? (i := 22) rfl)) (jWr_23 _ (List.mem_of_getElem? (i := 17) rfl))) rfl rfl rfl (by decide +kernel) ⟨by rw [← hR]; exact Nat.le_of_ble_eq_true rfl, by rw [← hR]; exact Nat.le_of_ble_eq_true rfl⟩) ⟨fun a U g mk q => by obtain ⟨q0, q1, q2, qK, q10, q11, q12, q13, q14, q15, q16⟩ := q; exact ⟨q0, q1, q2, jG.calling g mk a qK, q10, q11, q12, q13, q14, q15, q16⟩, hh.recv (C := RX4) (T := TX4) (N := 12) hB6 rfl (by decide) hg_r0 hK, fun U hU hW => ⟨rfl, hU, hh.2.1, hG.step hW hU hh.1, hg_r0, hg_wk, hg_wi, hg_wz, (hh.2.2.1.sub (L1 := [(r0, 6, 7, .int pv), (r0, 6, 0, .ref wk), (r0, 6, 1, .ref wi), (r0, 6, 2, .ref wz)]) [0, 1, 2, 3] rfl), (hh.2.2.2.2.2.2.2.1.sub (L1 := [(wk, 140, 1502, ca 1, fk), (wi, 141, 1502, ca 1, fi), (wz, 142, 1502, ca 1, fz)]) [0, 1, 2] rfl), by first | omega | (refine ⟨?_, ?_⟩ <;> (first | omega | rfl | assumption | decide | exact Or.inl rfl | exact Or.inr rfl | (simp only; omega)))⟩⟩ rfl rfl hl.1 rfl (lv_room (Nat.le_of_ble_eq_true rfl)) dX4_isText_2 ⟨Nat.zero_le _, Nat.zero_le _⟩) hh.1 (fun q _ h => h) (fun q h => h) (fun r_2 u_1 t_1 H_1 locs_1 ht_1 hvm_1 hr_2 hb_1 hz_1 hk_1 hS_1 => ?_)
  rw [ht_1] at hb_1
  obtain ⟨hb_1, hbF_1⟩ := hb_1
  obtain ⟨hb_11, hb_12, hb_13, hb_14, hb_15⟩ := hb_1
  have hh_1 : jSt (dC, dI) B base G0 G0 EX4_isTextQ s.heap 0 0 [(r0, 6, 7, .int pv), (r0, 6, 0, .ref wk), (r0, 6, 1, .ref wi), (r0, 6, 2, .ref wz)] [(wk, 140, 1502, ca 1, fk), (wi, 141, 1502, ca 1, fi), (wz, 142, 1502, ca 1, fz)] [] H_1 locs_1 := ((hh.call hb_11 hb_12 hb_13 hb_14 hS_1 rfl (L1 := [(r0, 6, 7, .int pv), (r0, 6, 0, .ref wk), (r0, 6, 1, .ref wi), (r0, 6, 2, .ref wz)]) [0, 1, 2, 3] rfl rfl (M1 := [(wk, 140, 1502, ca 1, fk), (wi, 141, 1502, ca 1, fi), (wz, 142, 1502, ca 1, fz)]) [0, 1, 2] rfl rfl (I1 := []) [] rfl rfl).more hb_15)
  clear hh ht_1 hvm_1 hz_1 hk_1 hS_1 hb_11 hb_12 hb_13 hb_14 hb_15
  have hfl_3 := hfl.tr hbF_1 (by first | exact fun q h => h | (intro q h9; simp at h9 ⊢; exact h9) | (intro q h9; simp at h9))
  refine lv_iconst (v := 3) hx hb dX4_isText_5 (by decide) ?_
  refine lv_icmp_ne (tgt := 33) hx hb dX4_isText_6 (by decide) (fun c_4 => ?_) (fun c_4 => ?_)
  · skip
    have c_4' : r_2.toInt ≠ 3 := jb_ne (rfl) ((by decide)) c_4
    try clear hr_2
    refine lv_iconst (v := 0) hx hb dX4_isText_33 (by decide) ?_
    rw [hQ]
    exact W.zret (v := 0) hx hb hr (jb_nz (Or.inl rfl)) (fun t ht hW => ⟨⟨0, (), rfl, ⟨(Or.inl rfl), by first | omega | rfl | assumption | decide | exact Or.inl rfl | exact Or.inr rfl | (simp only; omega)⟩, ⟨hh_1.rt (M1 := []) [] rfl ht, by rw [ht]; exact hfl_3⟩⟩, by rw [ht]; try exact hh_1.1.1, fun q h9 hq => by rw [ht]; try exact hh_1.1.2.1 q h9 hq⟩) hh_1.1.2.2 dX4_isText_34
  · skip
    have c_4' : r_2.toInt = 3 := jb_ne_n (rfl) ((by decide)) c_4
    first | (have hr_2q := hr_2.resolve_left (by omega); clear hr_2) | (have hr_2q := hr_2.resolve_right (by omega); clear hr_2) | try clear hr_2
    have hj3 := hp3 a1.toInt (by omega) (by omega) (by omega)
    refine lv_aload_n hx hb dX4_isText_9 rfl (lv_at hl 0 rfl) ?_
    refine lv_aload_n hx hb dX4_isText_10 rfl (lv_at hl 0 rfl) ?_
    refine j7_read hx hb hown hK (C := RX4) (T := TX4) (N := 12) rfl hly_6_1 hlk_15 (hh_1.at 2 rfl) dX4_isText_11 ?_
    refine lv_iload_n hx hb dX4_isText_14 rfl (lv_at hl 1 rfl) ?_
    refine j7_ialdM hx hb hK hh_1 hB141 1 rfl (by decide) hg_wi (x := a1.toInt) (rfl) (by omega) (j := 1) rfl dX4_isText_15 (fun z_5 ez_5 (hz_5 : True) => ?_)
    have hqz_5 : z_5.toInt = jSo fi (a1.toInt) := by unfold jSo; rw [ez_5]
    refine lv_aload_n hx hb dX4_isText_16 rfl (lv_at hl 0 rfl) ?_
    refine j7_read hx hb hown hK (C := RX4) (T := TX4) (N := 12) rfl hly_6_2 hlk_18 (hh_1.at 3 rfl) dX4_isText_17 ?_
    refine lv_iload_n hx hb dX4_isText_20 rfl (lv_at hl 1 rfl) ?_
    refine j7_ialdM hx hb hK hh_1 hB142 1 rfl (by decide) hg_wz (x := a1.toInt) (rfl) (by omega) (j := 2) rfl dX4_isText_21 (fun z_6 ez_6 (hz_6 : True) => ?_)
    have hqz_6 : z_6.toInt = jSo fz (a1.toInt) := by unfold jSo; rw [ez_6]
    refine lv_aload_n hx hb dX4_isText_22 rfl (lv_at hl 2 rfl) ?_
    refine va_calli (A0 := jA base) (H0 := s.heap) (va_runV (As := [.int z_5, .int z_6, .ref r2]) (rest := []) ⟨hx, hb, hml, hown, hts⟩ (uX4_areUnitsQ l dC dI ca base B hB hAp hB6 hB146 G0 H_1 r0 z_5 z_6 r2 n2) (cwV 3 hts (jgV (jWr_23 _ (List.mem_of_getElem? (i := 18) rfl)) (jWr_23 _ (List.mem_of_getElem? (i := 19) rfl)) (jWr_23 _ (List.mem_of_getElem? (i := 20) rfl)) (jWr_1 _ (List.mem_of_getElem? (i := 22) rfl)) (jWr_23 _ (List.mem_of_getElem? (i := 21) rfl))) rfl rfl rfl (by decide +kernel) ⟨by rw [← hR]; exact Nat.le_of_ble_eq_true rfl, by rw [← hR]; exact Nat.le_of_ble_eq_true rfl⟩) ⟨fun a U g mk q => by obtain ⟨q0, q1, q2, qK, q10, q11, q12, q13⟩ := q; exact ⟨q0, q1, q2, jG.calling g mk a qK, (q10.moved (Vm.Alike.refl U.vm)), q11, q12, q13⟩, hh_1.recv (C := RX4) (T := TX4) (N := 12) hB6 rfl (by decide) hg_r0 hK, fun U hU hW => ⟨rfl, hU, hh_1.2.1, hG.step hW hU hh_1.1, (hstr_r2.moved hW.alike).kept hh_1.1.2.1, hg_r0, jP.nil, by first | omega | (refine ⟨?_, ?_⟩ <;> (first | omega | rfl | assumption | decide | exact Or.inl rfl | exact Or.inr rfl | (simp only; omega)))⟩⟩ rfl rfl hl.1 rfl (lv_room (Nat.le_of_ble_eq_true rfl)) dX4_isText_23 ⟨Nat.zero_le _, Nat.zero_le _⟩) hh_1.1 (fun q _ h => h) (fun q h => h) (fun r_8 u_7 t_7 H_7 locs_7 ht_7 hvm_7 hr_8 hb_7 hz_7 hk_7 hS_7 => ?_)
    rw [ht_7] at hb_7
    obtain ⟨hb_7, hbF_7⟩ := hb_7
    obtain ⟨hb_71, hb_72, hb_73, hb_74, hb_75⟩ := hb_7
    have hh_7 : jSt (dC, dI) B base G0 G0 EX4_isTextQ s.heap 0 0 [(r0, 6, 7, .int pv), (r0, 6, 0, .ref wk), (r0, 6, 1, .ref wi), (r0, 6, 2, .ref wz)] [(wk, 140, 1502, ca 1, fk), (wi, 141, 1502, ca 1, fi), (wz, 142, 1502, ca 1, fz)] [] H_7 locs_7 := ((hh_1.call hb_71 hb_72 hb_73 hb_74 hS_7 rfl (L1 := [(r0, 6, 7, .int pv), (r0, 6, 0, .ref wk), (r0, 6, 1, .ref wi), (r0, 6, 2, .ref wz)]) [0, 1, 2, 3] rfl rfl (M1 := [(wk, 140, 1502, ca 1, fk), (wi, 141, 1502, ca 1, fi), (wz, 142, 1502, ca 1, fz)]) [0, 1, 2] rfl rfl (I1 := []) [] rfl rfl).more hb_75)
    clear hh_1 ht_7 hvm_7 hz_7 hk_7 hS_7 hb_71 hb_72 hb_73 hb_74 hb_75
    have hfl_9 := hfl_3.tr hbF_7 (by first | exact fun q h => h | (intro q h9; simp at h9 ⊢; exact h9) | (intro q h9; simp at h9))
    obtain ⟨hr_8b, hr_8p⟩ := hr_8
    have hr_8' := jb_01 hr_8b
    refine lv_if_eq (tgt := 33) hx hb dX4_isText_26 (by decide) (fun c_10 => ?_) (fun c_10 => ?_)
    · skip
      have c_10' : r_8.toInt = 0 := jb_eq (rfl) ((by decide)) c_10
      first | (have hr_8pq := hr_8p.resolve_left (by omega); clear hr_8p) | (have hr_8pq := hr_8p.resolve_right (by omega); clear hr_8p) | try clear hr_8p
      refine lv_iconst (v := 0) hx hb dX4_isText_33 (by decide) ?_
      rw [hQ]
      exact W.zret (v := 0) hx hb hr (jb_nz (Or.inl rfl)) (fun t ht hW => ⟨⟨0, (), rfl, ⟨(Or.inl rfl), by first | omega | rfl | assumption | decide | exact Or.inl rfl | exact Or.inr rfl | (simp only; omega)⟩, ⟨hh_7.rt (M1 := []) [] rfl ht, by rw [ht]; exact hfl_9⟩⟩, by rw [ht]; try exact hh_7.1.1, fun q h9 hq => by rw [ht]; try exact hh_7.1.2.1 q h9 hq⟩) hh_7.1.2.2 dX4_isText_34
    · skip
      have c_10' : r_8.toInt ≠ 0 := jb_eq_n (rfl) ((by decide)) c_10
      first | (have hr_8pq := hr_8p.resolve_left (by omega); clear hr_8p) | (have hr_8pq := hr_8p.resolve_right (by omega); clear hr_8p) | try clear hr_8p
      refine lv_iconst (v := 1) hx hb dX4_isText_29 (by decide) ?_
      refine lv_goto (tgt := 34) hx hb dX4_isText_30 (by decide) ?_
      rw [hQ]
      exact W.zret (v := 1) hx hb hr (jb_nz (Or.inr rfl)) (fun t ht hW => ⟨⟨1, (), rfl, ⟨(Or.inr rfl), by first | omega | rfl | assumption | decide | exact Or.inl rfl | exact Or.inr rfl | (simp only; omega)⟩, ⟨hh_7.rt (M1 := []) [] rfl ht, by rw [ht]; exact hfl_9⟩⟩, by rw [ht]; try exact hh_7.1.1, fun q h9 hq => by rw [ht]; try exact hh_7.1.2.1 q h9 hq⟩) hh_7.1.2.2 dX4_isText_34
