section
def EX1_isSentenceE : List (Nat × Nat) := []
def EX1_keepCheckedE : List (Nat × Nat) := [(3, 10)]
def EX11_releaseE : List (Nat × Nat) := [(3, 11), (3, 12), (3, 13), (212, 0)]
set_option maxHeartbeats 4000000 in
set_option maxRecDepth 20000 in
theorem uX1_isSentenceE (l : Launch) (dC : Nat → ClassId) (dI : Nat → Nat → Nat) (ca : Nat → ClassId) (base : Nat) (B : jF) (hB : jBok B) (hAp : jAp (dC, dI)) (hB3 : ∀ n G a H, B 3 n G a H ↔ jOb (dC, dI) 3 17 (F3 n G) a H) (hB101 : ∀ n G a H, B 101 n G a H ↔ jAr (dC, dI) (ca 1) (fun j z => True) n a H) (hB171 : ∀ n G a H, B 171 n G a H ↔ jAr (dC, dI) (ca 1) (fun j z => 0 ≤ z.toInt ∧ z.toInt ≤ 1500) n a H) (hB172 : ∀ n G a H, B 172 n G a H ↔ jAr (dC, dI) (ca 1) (fun j z => 0 ≤ z.toInt ∧ z.toInt ≤ 1500) n a H) (G0 : jT) (H0 : Heap) (r0 : Nat) (a1 : Int32) (r2 : Nat) (n2 : Nat) (ps : Int32) : Met l yX1_isSentence (jw yX1_isSentence cX1_isSentence 4 (some .boolean)) ({ frames := 0, cells := 0, slots := 0, locals := 0 }) (va_Pc [.ref r0, .int a1, .ref r2] (fun U => U.heap = H0 ∧ jX B base G0 [] H0 ∧ jG dC dI ca base U ∧ G0 r0 = some (3, 0) ∧ G0 r2 = some (101, n2) ∧ jP (dC, dI) G0 H0 [(r0, 3, 4, .int ps)] ∧ n2 ≤ 3000 ∧ ps.toInt ≤ 40)) (va_Qi (S := Unit) (fun r u => (r = 0 ∨ r = 1) ∧ (r.toInt = 0 ∨ (0 ≤ a1.toInt ∧ a1.toInt < ps.toInt))) (fun u t => jRt (dC, dI) B base G0 EX1_isSentenceE H0 [] t.heap) (jA base)) 0 0 (jA base) := by
  refine Met.ofW (cc := cX1_isSentence) (maxL := 4) (ret := (some .boolean)) (by decide) rfl ?_
  intro p e s m args below meth c s₁ Bd hml hv
  obtain ⟨rfl, hH0, hX, hG, hg_r0, hg_r2, hP0, hp0, hp1⟩ := hv
  have hK := hG.1
  have hx := Bd.exec
  have hb := Bd.bytes
  have hr := Bd.returns
  have hts := atoms_spec (ws := (jw yX1_isSentence cX1_isSentence 4 (some .boolean))) Bd.pre
  have htw : ∀ w ∈ jWl, w.before _ s = true := fun w h => hts w (List.mem_cons_of_mem _ h)
  have hown : s.vm.findClass RX1 = some m.cls := findClass_of_methodNamed Bd.named
  have hlocks := Bd.notSynchronized
  obtain ⟨Q, hQ⟩ : ∃ Q, Q = MQ below (va_Qi (S := Unit) (fun r u => (r = 0 ∨ r = 1) ∧ (r.toInt = 0 ∨ (0 ≤ a1.toInt ∧ a1.toInt < ps.toInt))) (fun u t => jRt (dC, dI) B base G0 EX1_isSentenceE H0 [] t.heap) (jA base)) ([.ref r0, .int a1, .ref r2] : List Value).toArray s 0 0 (jA base) := ⟨_, rfl⟩
  rw [← hQ]
  have hl := lv_entry ([.ref r0, .int a1, .ref r2]) (n := 4) (Nat.le_of_ble_eq_true rfl)
  rw [lg_entry_eq]
  generalize (lg_sl ([.ref r0, .int a1, .ref r2]) ++ List.replicate (4 - (lg_sl ([.ref r0, .int a1, .ref r2])).length) Slot.unset).toArray = ls at hl ⊢
  have hl : lv_has ls 4 [(0, .ref r0), (1, .int a1), (2, .ref r2)] := hl
  generalize hR : (headSpec (jw yX1_isSentence cX1_isSentence 4 (some .boolean)) ({ frames := 0, cells := 0, slots := 0, locals := 0 })).room = R
  subst hH0
  have hh : jSt (dC, dI) B base G0 G0 EX1_isSentenceE s.heap 0 0 [(r0, 3, 4, .int ps)] [] [] s.heap [] := jSt.start hX hP0 jMc.nil jIs.nil
  clear hX hP0
  have hk0 : (0 : Int32).toInt = 0 := by decide
  have hk1 : (1 : Int32).toInt = 1 := by decide
  have hly_3_2 := htw (u_lay RX1 TX1 2) (jWc_wsX10 _ (u_in_lay (by decide)))
  have hly_3_4 := htw (u_lay RX1 TX1 4) (jWc_wsX10 _ (u_in_lay (by decide)))
  have hly_3_5 := htw (u_lay RX1 TX1 5) (jWc_wsX10 _ (u_in_lay (by decide)))
  have hly_3_6 := htw (u_lay RX1 TX1 6) (jWc_wsX10 _ (u_in_lay (by decide)))
  have hlk_69 := (htw (.fieldLink RX1 69 "ProofServer$Document" "sentences" "I") (jWr_29 _ (List.mem_of_getElem? (i := 14) rfl)))
  have hlk_21 := (htw (.fieldLink RX1 21 "ProofServer$Document" "ends" "[I") (jWr_10 _ (List.mem_of_getElem? (i := 8) rfl)))
  have hlk_18 := (htw (.fieldLink RX1 18 "ProofServer$Document" "starts" "[I") (jWr_10 _ (List.mem_of_getElem? (i := 7) rfl)))
  have hlk_15 := (htw (.fieldLink RX1 15 "ProofServer$Document" "text" "[I") (jWr_10 _ (List.mem_of_getElem? (i := 6) rfl)))
  have hrg_a1 := jb_rng a1
  refine lv_iload_n hx hb dX1_isSentence_0 rfl (lv_at hl 1 rfl) ?_
  refine lv_if_lt (tgt := 30) hx hb dX1_isSentence_1 (by decide) (fun c_1 => ?_) (fun c_1 => ?_)
  · skip
    have c_1' : a1.toInt < 0 := jb_lt (rfl) ((by decide)) c_1
    refine lv_iconst (v := 0) hx hb dX1_isSentence_30 (by decide) ?_
    rw [hQ]
    exact W.zret (v := 0) hx hb hr (jb_nz (Or.inl rfl)) (fun t ht hW => ⟨⟨0, (), rfl, ⟨(Or.inl rfl), by first | omega | rfl | assumption | decide | exact Or.inl rfl | exact Or.inr rfl | (simp only; omega)⟩, hh.rt (M1 := []) [] rfl ht⟩, by rw [ht]; try exact hh.1.1, fun q h9 hq => by rw [ht]; try exact hh.1.2.1 q h9 hq⟩) hh.1.2.2 dX1_isSentence_31
  · skip
    have c_1' : a1.toInt ≥ 0 := jb_lt_n (rfl) ((by decide)) c_1
    refine lv_iload_n hx hb dX1_isSentence_4 rfl (lv_at hl 1 rfl) ?_
    refine lv_aload_n hx hb dX1_isSentence_5 rfl (lv_at hl 0 rfl) ?_
    refine j7_read hx hb hown hK (C := RX1) (T := TX1) (N := 17) rfl hly_3_4 hlk_69 (hh.at 0 rfl) dX1_isSentence_6 ?_
    refine lv_icmp_ge (tgt := 30) hx hb dX1_isSentence_9 (by decide) (fun c_2 => ?_) (fun c_2 => ?_)
    · skip
      have c_2' : a1.toInt ≥ ps.toInt := jb_ge (rfl) (rfl) c_2
      refine lv_iconst (v := 0) hx hb dX1_isSentence_30 (by decide) ?_
      rw [hQ]
      exact W.zret (v := 0) hx hb hr (jb_nz (Or.inl rfl)) (fun t ht hW => ⟨⟨0, (), rfl, ⟨(Or.inl rfl), by first | omega | rfl | assumption | decide | exact Or.inl rfl | exact Or.inr rfl | (simp only; omega)⟩, hh.rt (M1 := []) [] rfl ht⟩, by rw [ht]; try exact hh.1.1, fun q h9 hq => by rw [ht]; try exact hh.1.2.1 q h9 hq⟩) hh.1.2.2 dX1_isSentence_31
    · skip
      have c_2' : a1.toInt < ps.toInt := jb_ge_n (rfl) (rfl) c_2
      obtain ⟨v_3, hv_3, hh_4⟩ := hh.pin (C := RX1) (T := TX1) (N := 17) hB3 rfl (by decide) hg_r0 (i := 5) (by decide) rfl
      obtain ⟨starts_5, rfl, hg_starts_5⟩ := hv_3
      obtain ⟨f_starts_6, hh_6⟩ := hh_4.cpin hB171 (by decide) (by decide) hg_starts_5
      clear hh_4
      obtain ⟨v_7, hv_7, hh_8⟩ := hh_6.pin (C := RX1) (T := TX1) (N := 17) hB3 rfl (by decide) hg_r0 (i := 6) (by decide) rfl
      obtain ⟨ends_9, rfl, hg_ends_9⟩ := hv_7
      obtain ⟨f_ends_10, hh_10⟩ := hh_8.cpin hB172 (by decide) (by decide) hg_ends_9
      clear hh_8
      refine lv_aload_n hx hb dX1_isSentence_12 rfl (lv_at hl 0 rfl) ?_
      refine j7_read hx hb hown hK (C := RX1) (T := TX1) (N := 17) rfl hly_3_6 hlk_21 (hh_10.at 0 rfl) dX1_isSentence_13 ?_
      refine lv_iload_n hx hb dX1_isSentence_16 rfl (lv_at hl 1 rfl) ?_
      refine j7_ialdM hx hb hK hh_10 hB172 1 rfl (by decide) hg_ends_9 (x := a1.toInt) (rfl) (by omega) (j := 0) rfl dX1_isSentence_17 (fun z_11 ez_11 (hz_11 : 0 ≤ z_11.toInt ∧ z_11.toInt ≤ 1500) => ?_)
      have hqz_11 : z_11.toInt = jSo f_ends_10 (a1.toInt) := by unfold jSo; rw [ez_11]
      refine lv_aload_n hx hb dX1_isSentence_18 rfl (lv_at hl 0 rfl) ?_
      refine j7_read hx hb hown hK (C := RX1) (T := TX1) (N := 17) rfl hly_3_5 hlk_18 (hh_10.at 1 rfl) dX1_isSentence_19 ?_
      refine lv_iload_n hx hb dX1_isSentence_22 rfl (lv_at hl 1 rfl) ?_
      refine j7_ialdM hx hb hK hh_10 hB171 1 rfl (by decide) hg_starts_5 (x := a1.toInt) (rfl) (by omega) (j := 1) rfl dX1_isSentence_23 (fun z_12 ez_12 (hz_12 : 0 ≤ z_12.toInt ∧ z_12.toInt ≤ 1500) => ?_)
      have hqz_12 : z_12.toInt = jSo f_starts_6 (a1.toInt) := by unfold jSo; rw [ez_12]
      refine lv_isub hx hb dX1_isSentence_24 ?_
      refine lv_topi (fun z_13 ez_13 => ?_)
      have hz_13 : z_13.toInt = z_11.toInt - z_12.toInt := by rw [ez_13]; exact jb_isub2 (rfl) (rfl) (by omega)
      refine lv_aload_n hx hb dX1_isSentence_25 rfl (lv_at hl 2 rfl) ?_
      refine j7_len hx hb hK hh_10 hB101 1 rfl (by decide) hg_r2 (by omega) dX1_isSentence_26 (fun z_14 hz_14 => ?_)
      refine lv_icmp_eq (tgt := 32) hx hb dX1_isSentence_27 (by decide) (fun c_15 => ?_) (fun c_15 => ?_)
      · skip
        have c_15' : z_13.toInt = z_14.toInt := jb_eq (rfl) (rfl) c_15
        refine lv_iconst (v := 0) hx hb dX1_isSentence_32 (by decide) ?_
        refine lv_istore_n (lv' := [(3, .int 0), (0, .ref r0), (1, .int a1), (2, .ref r2)]) hx hb dX1_isSentence_33 rfl hl (by decide) rfl (fun ls hl => ?_)
        have L34 : ∀ (N : Nat) (v3_16 : Int32) (H_16 : Heap) (locs_16 : List Loc), jSt (dC, dI) B base G0 G0 EX1_isSentenceE s.heap 0 0 [(r0, 3, 6, .ref ends_9), (r0, 3, 5, .ref starts_5), (r0, 3, 4, .int ps)] [(ends_9, 172, 40, ca 1, f_ends_10), (starts_5, 171, 40, ca 1, f_starts_6)] [] H_16 locs_16 → (0 ≤ v3_16.toInt ∧ v3_16.toInt ≤ n2) → (n2 - v3_16.toInt : Int) < N → ∀ ls : Array Slot, lv_has ls 4 [(0, .ref r0), (1, .int a1), (2, .ref r2), (3, .int v3_16)] → W p l e R s m ([.ref r0, .int a1, .ref r2] : List Value).toArray below meth c H_16 locs_16 0 0 Q (F0 m 34 ls []) := by
          intro N
          induction N with
          | zero => intro v3_16 H_16 locs_16 hh_16  hi_16 hm; exact absurd hm (by omega)
          | succ N L34 =>
            intro v3_16 H_16 locs_16 hh_16  hi_16 hm_16 ls hl
            obtain ⟨hi_16_0, hi_16_1⟩ := hi_16
            refine lv_iload_n hx hb dX1_isSentence_34 rfl (lv_at hl 3 rfl) ?_
            refine lv_aload_n hx hb dX1_isSentence_35 rfl (lv_at hl 2 rfl) ?_
            refine j7_len hx hb hK hh_16 hB101 1 rfl (by decide) hg_r2 (by omega) dX1_isSentence_36 (fun z_17 hz_17 => ?_)
            refine lv_icmp_ge (tgt := 67) hx hb dX1_isSentence_37 (by decide) (fun c_18 => ?_) (fun c_18 => ?_)
            · skip
              have c_18' : v3_16.toInt ≥ z_17.toInt := jb_ge (rfl) (rfl) c_18
              refine lv_iconst (v := 1) hx hb dX1_isSentence_67 (by decide) ?_
              rw [hQ]
              exact W.zret (v := 1) hx hb hr (jb_nz (Or.inr rfl)) (fun t ht hW => ⟨⟨1, (), rfl, ⟨(Or.inr rfl), by first | omega | rfl | assumption | decide | exact Or.inl rfl | exact Or.inr rfl | (simp only; omega)⟩, hh_16.rt (M1 := []) [] rfl ht⟩, by rw [ht]; try exact hh_16.1.1, fun q h9 hq => by rw [ht]; try exact hh_16.1.2.1 q h9 hq⟩) hh_16.1.2.2 dX1_isSentence_68
            · skip
              have c_18' : v3_16.toInt < z_17.toInt := jb_ge_n (rfl) (rfl) c_18
              refine lv_aload_n hx hb dX1_isSentence_40 rfl (lv_at hl 0 rfl) ?_
              obtain ⟨v_19, hv_19, hh_20⟩ := hh_16.pin (C := RX1) (T := TX1) (N := 17) hB3 rfl (by decide) hg_r0 (i := 2) (by decide) rfl
              clear hh_16
              obtain ⟨text_21, rfl, hg_text_21⟩ := hv_19
              refine j7_read hx hb hown hK (C := RX1) (T := TX1) (N := 17) rfl hly_3_2 hlk_15 (hh_20.at 0 rfl) dX1_isSentence_41 ?_
              refine lv_aload_n hx hb dX1_isSentence_44 rfl (lv_at hl 0 rfl) ?_
              refine j7_read hx hb hown hK (C := RX1) (T := TX1) (N := 17) rfl hly_3_5 hlk_18 (hh_20.at 2 rfl) dX1_isSentence_45 ?_
              refine lv_iload_n hx hb dX1_isSentence_48 rfl (lv_at hl 1 rfl) ?_
              refine j7_ialdM hx hb hK hh_20 hB171 1 rfl (by decide) hg_starts_5 (x := a1.toInt) (rfl) (by omega) (j := 1) rfl dX1_isSentence_49 (fun z_22 ez_22 (hz_22 : 0 ≤ z_22.toInt ∧ z_22.toInt ≤ 1500) => ?_)
              have hqz_22 : z_22.toInt = jSo f_starts_6 (a1.toInt) := by unfold jSo; rw [ez_22]
              refine lv_iload_n hx hb dX1_isSentence_50 rfl (lv_at hl 3 rfl) ?_
              refine lv_iadd hx hb dX1_isSentence_51 ?_
              refine lv_topi (fun z_23 ez_23 => ?_)
              have hz_23 : z_23.toInt = z_22.toInt + v3_16.toInt := by rw [ez_23]; exact jb_iadd2 (rfl) (rfl) (by omega)
              refine j7_iald hx hb hK hh_20 hB101 1 rfl (by decide) hg_text_21 (x := z_23.toInt) (rfl) (by omega) dX1_isSentence_52 (fun z_24 (hz_24 : True) => ?_)
              refine lv_aload_n hx hb dX1_isSentence_53 rfl (lv_at hl 2 rfl) ?_
              refine lv_iload_n hx hb dX1_isSentence_54 rfl (lv_at hl 3 rfl) ?_
              refine j7_iald hx hb hK hh_20 hB101 1 rfl (by decide) hg_r2 (x := v3_16.toInt) (rfl) (by omega) dX1_isSentence_55 (fun z_25 (hz_25 : True) => ?_)
              refine lv_icmp_eq (tgt := 61) hx hb dX1_isSentence_56 (by decide) (fun c_26 => ?_) (fun c_26 => ?_)
              · skip
                have c_26' : z_24.toInt = z_25.toInt := jb_eq (rfl) (rfl) c_26
                obtain ⟨z_27, ez_27⟩ : ∃ y : Int32, y = v3_16 + 1 := ⟨_, rfl⟩
                refine lv_iinc (v := z_27) (lv' := [(3, .int z_27), (0, .ref r0), (1, .int a1), (2, .ref r2)]) hx hb dX1_isSentence_61 hl (k := 3) rfl (by rw [ez_27]; rfl) (by decide) rfl (fun ls hl => ?_)
                have hz_27 : z_27.toInt = v3_16.toInt + 1 := by rw [ez_27]; exact jb_iadd2 (rfl) (by decide) (by omega)
                refine lv_goto (tgt := 34) hx hb dX1_isSentence_64 (by decide) ?_
                exact L34 z_27 _ _ (hh_20.sub (L1 := [(r0, 3, 6, .ref ends_9), (r0, 3, 5, .ref starts_5), (r0, 3, 4, .int ps)]) [1, 2, 3] rfl (M1 := [(ends_9, 172, 40, ca 1, f_ends_10), (starts_5, 171, 40, ca 1, f_starts_6)]) [0, 1] rfl (I1 := []) [] rfl) (by first | omega | (refine ⟨?_, ?_⟩ <;> (first | omega | rfl | assumption | decide | exact Or.inl rfl | exact Or.inr rfl | (simp only; omega)))) (by omega) _ (lv_sub hl [1, 2, 3, 0] rfl)
              · skip
                have c_26' : z_24.toInt ≠ z_25.toInt := jb_eq_n (rfl) (rfl) c_26
                refine lv_iconst (v := 0) hx hb dX1_isSentence_59 (by decide) ?_
                rw [hQ]
                exact W.zret (v := 0) hx hb hr (jb_nz (Or.inl rfl)) (fun t ht hW => ⟨⟨0, (), rfl, ⟨(Or.inl rfl), by first | omega | rfl | assumption | decide | exact Or.inl rfl | exact Or.inr rfl | (simp only; omega)⟩, hh_20.rt (M1 := []) [] rfl ht⟩, by rw [ht]; try exact hh_20.1.1, fun q h9 hq => by rw [ht]; try exact hh_20.1.2.1 q h9 hq⟩) hh_20.1.2.2 dX1_isSentence_60
        exact L34 (n2 - (0 : Int32).toInt : Int).toNat.succ 0 _ _ hh_10 (by first | omega | (refine ⟨?_, ?_⟩ <;> (first | omega | rfl | assumption | decide | exact Or.inl rfl | exact Or.inr rfl | (simp only; omega)))) (by omega) _ (lv_sub hl [1, 2, 3, 0] rfl)
      · skip
        have c_15' : z_13.toInt ≠ z_14.toInt := jb_eq_n (rfl) (rfl) c_15
        refine lv_iconst (v := 0) hx hb dX1_isSentence_30 (by decide) ?_
        rw [hQ]
        exact W.zret (v := 0) hx hb hr (jb_nz (Or.inl rfl)) (fun t ht hW => ⟨⟨0, (), rfl, ⟨(Or.inl rfl), by first | omega | rfl | assumption | decide | exact Or.inl rfl | exact Or.inr rfl | (simp only; omega)⟩, hh_10.rt (M1 := []) [] rfl ht⟩, by rw [ht]; try exact hh_10.1.1, fun q h9 hq => by rw [ht]; try exact hh_10.1.2.1 q h9 hq⟩) hh_10.1.2.2 dX1_isSentence_31
set_option maxHeartbeats 4000000 in
set_option maxRecDepth 20000 in
theorem uX1_keepCheckedE (l : Launch) (dC : Nat → ClassId) (dI : Nat → Nat → Nat) (ca : Nat → ClassId) (base : Nat) (B : jF) (hB : jBok B) (hAp : jAp (dC, dI)) (hB3 : ∀ n G a H, B 3 n G a H ↔ jOb (dC, dI) 3 17 (F3 n G) a H) (hB11 : ∀ n G a H, B 11 n G a H ↔ jOb (dC, dI) 11 9 (F11 n G) a H) (hB101 : ∀ n G a H, B 101 n G a H ↔ jAr (dC, dI) (ca 1) (fun j z => True) n a H) (hB171 : ∀ n G a H, B 171 n G a H ↔ jAr (dC, dI) (ca 1) (fun j z => 0 ≤ z.toInt ∧ z.toInt ≤ 1500) n a H) (hB172 : ∀ n G a H, B 172 n G a H ↔ jAr (dC, dI) (ca 1) (fun j z => 0 ≤ z.toInt ∧ z.toInt ≤ 1500) n a H) (hB210 : ∀ n G a H, B 210 n G a H ↔ jAq (dC, dI) (ca 6) (jQn 11 0) n G a H) (G0 : jT) (H0 : Heap) (r0 : Nat) (sa_ : Nat) (ea_ : Nat) (ps : Int32) (pk : Int32) (ph : Nat) : Met l yX1_keepChecked (jw yX1_keepChecked cX1_keepChecked 3 (some .boolean)) ({ frames := 1, cells := 0, slots := 0, locals := 23 }) (va_Pc [.ref r0] (fun U => U.heap = H0 ∧ jX B base G0 [] H0 ∧ jG dC dI ca base U ∧ jK2 dC dI ca U ∧ G0 r0 = some (3, 0) ∧ G0 sa_ = some (171, 40) ∧ G0 ea_ = some (172, 40) ∧ jP (dC, dI) G0 H0 [(r0, 3, 5, .ref sa_), (r0, 3, 6, .ref ea_), (r0, 3, 4, .int ps), (r0, 3, 10, .int pk)] ∧ jIs (dC, dI) G0 H0 [(jFdo, jDcc dC dI ca G0 (some r0) ph)] ∧ 0 ≤ pk.toInt ∧ pk.toInt ≤ 40 ∧ 0 ≤ ps.toInt ∧ ps.toInt ≤ 40)) (va_Qi (S := Int32) (fun r u => (r = 0 ∨ r = 1) ∧ (0 ≤ u.toInt ∧ u.toInt ≤ ps.toInt ∧ u.toInt ≤ pk.toInt ∧ (r.toInt = 0 ∨ u.toInt < ps.toInt))) (fun u t => ((jRt (dC, dI) B base G0 EX1_keepCheckedE H0 [(r0, 3, 10, .int u)] t.heap) ∧ jOw (dC, dI) G0 3 r0 H0 t.heap) ∧ jIs (dC, dI) G0 t.heap [(jFdo, jDcc dC dI ca G0 (some r0) ph)]) (jA base)) 0 0 (jA base) := by
  refine Met.ofW (cc := cX1_keepChecked) (maxL := 3) (ret := (some .boolean)) (by decide) rfl ?_
  intro p e s m args below meth c s₁ Bd hml hv
  obtain ⟨rfl, hH0, hX, hG, hK2, hg_r0, hg_sa_, hg_ea_, hP0, hI0, hp0, hp1, hp2, hp3⟩ := hv
  have hK := hG.1
  have hx := Bd.exec
  have hb := Bd.bytes
  have hr := Bd.returns
  have hts := atoms_spec (ws := (jw yX1_keepChecked cX1_keepChecked 3 (some .boolean))) Bd.pre
  have htw : ∀ w ∈ jWl, w.before _ s = true := fun w h => hts w (List.mem_cons_of_mem _ h)
  have hown : s.vm.findClass RX1 = some m.cls := findClass_of_methodNamed Bd.named
  have hlocks := Bd.notSynchronized
  obtain ⟨Q, hQ⟩ : ∃ Q, Q = MQ below (va_Qi (S := Int32) (fun r u => (r = 0 ∨ r = 1) ∧ (0 ≤ u.toInt ∧ u.toInt ≤ ps.toInt ∧ u.toInt ≤ pk.toInt ∧ (r.toInt = 0 ∨ u.toInt < ps.toInt))) (fun u t => ((jRt (dC, dI) B base G0 EX1_keepCheckedE H0 [(r0, 3, 10, .int u)] t.heap) ∧ jOw (dC, dI) G0 3 r0 H0 t.heap) ∧ jIs (dC, dI) G0 t.heap [(jFdo, jDcc dC dI ca G0 (some r0) ph)]) (jA base)) ([.ref r0] : List Value).toArray s 0 0 (jA base) := ⟨_, rfl⟩
  rw [← hQ]
  have hl := lv_entry ([.ref r0]) (n := 3) (Nat.le_of_ble_eq_true rfl)
  rw [lg_entry_eq]
  generalize (lg_sl ([.ref r0]) ++ List.replicate (3 - (lg_sl ([.ref r0])).length) Slot.unset).toArray = ls at hl ⊢
  have hl : lv_has ls 3 [(0, .ref r0)] := hl
  generalize hR : (headSpec (jw yX1_keepChecked cX1_keepChecked 3 (some .boolean)) ({ frames := 1, cells := 0, slots := 0, locals := 23 })).room = R
  subst hH0
  have hh : jSt (dC, dI) B base G0 G0 EX1_keepCheckedE s.heap 0 0 [(r0, 3, 5, .ref sa_), (r0, 3, 6, .ref ea_), (r0, 3, 4, .int ps), (r0, 3, 10, .int pk)] [] [(jFdo, jDcc dC dI ca G0 (some r0) ph)] s.heap [] := jSt.start hX hP0 jMc.nil hI0
  clear hX hP0
  have hk0 : (0 : Int32).toInt = 0 := by decide
  have hk1 : (1 : Int32).toInt = 1 := by decide
  have hly_3_9 := htw (u_lay RX1 TX1 9) (jWc_wsX10 _ (u_in_lay (by decide)))
  have hly_3_10 := htw (u_lay RX1 TX1 10) (jWc_wsX10 _ (u_in_lay (by decide)))
  have hly_3_11 := htw (u_lay RX1 TX1 11) (jWc_wsX10 _ (u_in_lay (by decide)))
  have hly_11_1 := htw (u_lay RX9 TX9 1) (jWc_wsX90 _ (u_in_lay (by decide)))
  have hlk_72 := (htw (.fieldLink RX1 72 "ProofServer$Document" "checked" "I") (jWr_42 _ (List.mem_of_getElem? (i := 20) rfl)))
  have hlk_32 := (htw (.fieldLink RX1 32 "ProofServer$Document" "behind" "[LProofServer$State;") (jWr_10 _ (List.mem_of_getElem? (i := 12) rfl)))
  have hlk_98 := (htw (.fieldLink RX1 98 "ProofServer$State" "units" "[I") (jWr_42 _ (List.mem_of_getElem? (i := 21) rfl)))
  have hlk_105 := (htw (.fieldLink RX1 105 "ProofServer$Document" "checking" "[I") (jWr_42 _ (List.mem_of_getElem? (i := 22) rfl)))
  have hh_1 := hh.addI (jOw.ie (dC := dC) (dI := dI) (G0 := G0) (k := 3) (r := r0) (H0 := s.heap) (F := [(3, 0), (3, 1), (3, 2), (3, 3), (3, 4), (3, 5), (3, 6), (3, 7), (3, 8), (3, 9), (3, 10), (3, 11), (3, 12), (3, 13), (3, 14), (3, 15), (3, 16)]) (C := RX1) (T := TX1) (N := 17) rfl (by decide) hh.2.2.2.2.1 (jOw.rf))
  clear hh
  refine lv_iconst (v := 0) hx hb dX1_keepChecked_0 (by decide) ?_
  refine lv_istore_n (lv' := [(1, .int 0), (0, .ref r0)]) hx hb dX1_keepChecked_1 rfl hl (by decide) rfl (fun ls hl => ?_)
  obtain ⟨v_2, hv_2, hh_3⟩ := hh_1.pin (C := RX1) (T := TX1) (N := 17) hB3 rfl (by decide) hg_r0 (i := 9) (by decide) rfl
  obtain ⟨behind_4, rfl, hg_behind_4⟩ := hv_2
  have L2 : ∀ (N : Nat) (v1_5 : Int32) (H_5 : Heap) (locs_5 : List Loc), jSt (dC, dI) B base G0 G0 EX1_keepCheckedE s.heap 0 0 [(r0, 3, 9, .ref behind_4), (r0, 3, 5, .ref sa_), (r0, 3, 6, .ref ea_), (r0, 3, 4, .int ps), (r0, 3, 10, .int pk)] [] [([(3, 0), (3, 1), (3, 2), (3, 3), (3, 4), (3, 5), (3, 6), (3, 7), (3, 8), (3, 9), (3, 10), (3, 11), (3, 12), (3, 13), (3, 14), (3, 15), (3, 16)], jOw (dC, dI) G0 3 r0 s.heap), (jFdo, jDcc dC dI ca G0 (some r0) ph)] H_5 locs_5 → (0 ≤ v1_5.toInt ∧ v1_5.toInt ≤ pk.toInt ∧ v1_5.toInt ≤ ps.toInt) → (pk.toInt - v1_5.toInt : Int) < N → ∀ ls : Array Slot, lv_has ls 3 [(0, .ref r0), (1, .int v1_5)] → W p l e R s m ([.ref r0] : List Value).toArray below meth c H_5 locs_5 0 0 Q (F0 m 2 ls []) := by
    intro N
    induction N with
    | zero => intro v1_5 H_5 locs_5 hh_5  hi_5 hm; exact absurd hm (by omega)
    | succ N L2 =>
      intro v1_5 H_5 locs_5 hh_5  hi_5 hm_5 ls hl
      obtain ⟨hi_5_0, hi_5_1, hi_5_2⟩ := hi_5
      obtain ⟨fq_6, hfq_6a, hfq_6p⟩ := hh_5.aq hB210 (by decide) hg_behind_4
      have hh_7 := hh_5.addI (jQc.ie hfq_6a hg_behind_4 (by decide) (by decide))
      clear hh_5
      refine lv_iload_n hx hb dX1_keepChecked_2 rfl (lv_at hl 1 rfl) ?_
      refine lv_aload_n hx hb dX1_keepChecked_3 rfl (lv_at hl 0 rfl) ?_
      refine j7_read hx hb hown hK (C := RX1) (T := TX1) (N := 17) rfl hly_3_10 hlk_72 (hh_7.at 4 rfl) dX1_keepChecked_4 ?_
      refine lv_icmp_ge (tgt := 42) hx hb dX1_keepChecked_7 (by decide) (fun c_8 => ?_) (fun c_8 => ?_)
      · skip
        have c_8' : v1_5.toInt ≥ pk.toInt := jb_ge (rfl) (rfl) c_8
        refine lv_iload_n hx hb dX1_keepChecked_42 rfl (lv_at hl 1 rfl) ?_
        refine lv_aload_n hx hb dX1_keepChecked_43 rfl (lv_at hl 0 rfl) ?_
        refine j7_read hx hb hown hK (C := RX1) (T := TX1) (N := 17) rfl hly_3_10 hlk_72 (hh_7.at 4 rfl) dX1_keepChecked_44 ?_
        refine lv_icmp_ne (tgt := 73) hx hb dX1_keepChecked_47 (by decide) (fun c_9 => ?_) (fun c_9 => ?_)
        · skip
          have c_9' : v1_5.toInt ≠ pk.toInt := jb_ne (rfl) (rfl) c_9
          refine lv_iconst (v := 0) hx hb dX1_keepChecked_73 (by decide) ?_
          refine lv_istore_n (lv' := [(2, .int 0), (0, .ref r0), (1, .int v1_5)]) hx hb dX1_keepChecked_74 rfl hl (by decide) rfl (fun ls hl => ?_)
          refine lv_aload_n hx hb dX1_keepChecked_75 rfl (lv_at hl 1 rfl) ?_
          refine lv_iload_n hx hb dX1_keepChecked_76 rfl (lv_at hl 2 rfl) ?_
          have hd_11 := hh_7.iv 2 rfl
          have hd_115 := hh_7.at 1 rfl
          have hd_116 := hh_7.at 2 rfl
          have hd_11o := hh_7.iv 1 rfl
          have hh_12 := hh_7.sub (L1 := [(r0, 3, 9, .ref behind_4), (r0, 3, 5, .ref sa_), (r0, 3, 6, .ref ea_), (r0, 3, 4, .int ps), (r0, 3, 10, .int pk)]) [0, 1, 2, 3, 4] rfl (M1 := []) [] rfl (I1 := [([(210, 0)], jQc dC dI (ca 6) behind_4 40 fq_6)]) [0] rfl
          clear hh_7
          refine j7_putX hx hb hown hK hh_12 hB hAp hB3 (C := RX1) (T := TX1) (N := 17) rfl (by decide) hg_r0 (i := 10) (by decide) hly_3_10 rfl hlk_72 rfl (ty := .int) (v := .int v1_5) (by decide +kernel) rfl rfl (⟨_, rfl, by omega, by omega⟩) rfl (L1 := [(r0, 3, 9, .ref behind_4), (r0, 3, 5, .ref sa_), (r0, 3, 6, .ref ea_), (r0, 3, 4, .int ps)]) [0, 1, 2, 3] rfl rfl rfl dX1_keepChecked_77 (fun H_10 locs_10 hr_10 hh_10 => ?_)
          clear hh_12
          have hd_11n := jDcc.fld hd_11 hg_r0 hr_10 hd_115 hd_116 (hh_10.at 2 rfl) (hh_10.at 3 rfl)
          have hd_11on := jOw.put hd_11o hr_10
          have hh_13 := hh_10.addI (jDcc.ie hd_11n)
          clear hh_10
          have hh_14 := hh_13.addI (jOw.ie (dC := dC) (dI := dI) (G0 := G0) (k := 3) (r := r0) (H0 := s.heap) (F := [(3, 0), (3, 1), (3, 2), (3, 3), (3, 4), (3, 5), (3, 6), (3, 7), (3, 8), (3, 9), (3, 10), (3, 11), (3, 12), (3, 13), (3, 14), (3, 15), (3, 16)]) (C := RX1) (T := TX1) (N := 17) rfl (by decide) hh_13.2.2.2.2.1 (hd_11on))
          clear hh_13
          clear hd_11 hd_11n hd_115 hd_116 hr_10 hd_11o hd_11on
          refine lv_iload_n hx hb dX1_keepChecked_80 rfl (lv_at hl 0 rfl) ?_
          rw [hQ]
          exact W.zret (v := 0) hx hb hr (jb_nz (Or.inl rfl)) (fun t ht hW => ⟨⟨0, v1_5, rfl, ⟨(Or.inl rfl), by (try dsimp only); first | omega | (refine ⟨?_, ?_, ?_, ?_⟩ <;> (first | omega | rfl | assumption | decide | exact Or.inl rfl | exact Or.inr rfl | (simp only; omega)))⟩, ⟨⟨hh_14.rt (M1 := [(r0, 3, 10, .int v1_5)]) [0] rfl ht, by rw [ht]; exact hh_14.iv 0 rfl⟩, by rw [ht]; exact hh_14.2.2.2.2.2.2.2.2.sub (L1 := [(jFdo, jDcc dC dI ca G0 (some r0) ph)]) [1] rfl⟩⟩, by rw [ht]; try exact hh_14.1.1, fun q h9 hq => by rw [ht]; try exact hh_14.1.2.1 q h9 hq⟩) hh_14.1.2.2 dX1_keepChecked_81
        · skip
          have c_9' : v1_5.toInt = pk.toInt := jb_ne_n (rfl) (rfl) c_9
          refine lv_aload_n hx hb dX1_keepChecked_50 rfl (lv_at hl 0 rfl) ?_
          obtain ⟨v_15, hv_15, hh_16⟩ := hh_7.pin (C := RX1) (T := TX1) (N := 17) hB3 rfl (by decide) hg_r0 (i := 11) (by decide) rfl
          clear hh_7
          rcases hv_15 with rfl | ⟨checking_17, nchecking_17, rfl, hg_checking_17, hn_checking_17⟩
          · refine j7_read hx hb hown hK (C := RX1) (T := TX1) (N := 17) rfl hly_3_11 hlk_105 (hh_16.at 0 rfl) dX1_keepChecked_51 ?_
            refine lv_ifnullN (tgt := 73) hx hb dX1_keepChecked_54 (by decide) ?_
            refine lv_iconst (v := 0) hx hb dX1_keepChecked_73 (by decide) ?_
            refine lv_istore_n (lv' := [(2, .int 0), (0, .ref r0), (1, .int v1_5)]) hx hb dX1_keepChecked_74 rfl hl (by decide) rfl (fun ls hl => ?_)
            refine lv_aload_n hx hb dX1_keepChecked_75 rfl (lv_at hl 1 rfl) ?_
            refine lv_iload_n hx hb dX1_keepChecked_76 rfl (lv_at hl 2 rfl) ?_
            have hd_19 := hh_16.iv 2 rfl
            have hd_195 := hh_16.at 2 rfl
            have hd_196 := hh_16.at 3 rfl
            have hd_19o := hh_16.iv 1 rfl
            have hh_20 := hh_16.sub (L1 := [(r0, 3, 11, .null), (r0, 3, 9, .ref behind_4), (r0, 3, 5, .ref sa_), (r0, 3, 6, .ref ea_), (r0, 3, 4, .int ps), (r0, 3, 10, .int pk)]) [0, 1, 2, 3, 4, 5] rfl (M1 := []) [] rfl (I1 := [([(210, 0)], jQc dC dI (ca 6) behind_4 40 fq_6)]) [0] rfl
            clear hh_16
            refine j7_putX hx hb hown hK hh_20 hB hAp hB3 (C := RX1) (T := TX1) (N := 17) rfl (by decide) hg_r0 (i := 10) (by decide) hly_3_10 rfl hlk_72 rfl (ty := .int) (v := .int v1_5) (by decide +kernel) rfl rfl (⟨_, rfl, by omega, by omega⟩) rfl (L1 := [(r0, 3, 11, .null), (r0, 3, 9, .ref behind_4), (r0, 3, 5, .ref sa_), (r0, 3, 6, .ref ea_), (r0, 3, 4, .int ps)]) [0, 1, 2, 3, 4] rfl rfl rfl dX1_keepChecked_77 (fun H_18 locs_18 hr_18 hh_18 => ?_)
            clear hh_20
            have hd_19n := jDcc.fld hd_19 hg_r0 hr_18 hd_195 hd_196 (hh_18.at 3 rfl) (hh_18.at 4 rfl)
            have hd_19on := jOw.put hd_19o hr_18
            have hh_21 := hh_18.addI (jDcc.ie hd_19n)
            clear hh_18
            have hh_22 := hh_21.addI (jOw.ie (dC := dC) (dI := dI) (G0 := G0) (k := 3) (r := r0) (H0 := s.heap) (F := [(3, 0), (3, 1), (3, 2), (3, 3), (3, 4), (3, 5), (3, 6), (3, 7), (3, 8), (3, 9), (3, 10), (3, 11), (3, 12), (3, 13), (3, 14), (3, 15), (3, 16)]) (C := RX1) (T := TX1) (N := 17) rfl (by decide) hh_21.2.2.2.2.1 (hd_19on))
            clear hh_21
            clear hd_19 hd_19n hd_195 hd_196 hr_18 hd_19o hd_19on
            refine lv_iload_n hx hb dX1_keepChecked_80 rfl (lv_at hl 0 rfl) ?_
            rw [hQ]
            exact W.zret (v := 0) hx hb hr (jb_nz (Or.inl rfl)) (fun t ht hW => ⟨⟨0, v1_5, rfl, ⟨(Or.inl rfl), by (try dsimp only); first | omega | (refine ⟨?_, ?_, ?_, ?_⟩ <;> (first | omega | rfl | assumption | decide | exact Or.inl rfl | exact Or.inr rfl | (simp only; omega)))⟩, ⟨⟨hh_22.rt (M1 := [(r0, 3, 10, .int v1_5)]) [0] rfl ht, by rw [ht]; exact hh_22.iv 0 rfl⟩, by rw [ht]; exact hh_22.2.2.2.2.2.2.2.2.sub (L1 := [(jFdo, jDcc dC dI ca G0 (some r0) ph)]) [1] rfl⟩⟩, by rw [ht]; try exact hh_22.1.1, fun q h9 hq => by rw [ht]; try exact hh_22.1.2.1 q h9 hq⟩) hh_22.1.2.2 dX1_keepChecked_81
          · refine j7_read hx hb hown hK (C := RX1) (T := TX1) (N := 17) rfl hly_3_11 hlk_105 (hh_16.at 0 rfl) dX1_keepChecked_51 ?_
            refine lv_ifnull hx hb dX1_keepChecked_54 ?_
            refine lv_aload_n hx hb dX1_keepChecked_57 rfl (lv_at hl 0 rfl) ?_
            refine lv_iload_n hx hb dX1_keepChecked_58 rfl (lv_at hl 1 rfl) ?_
            refine lv_aload_n hx hb dX1_keepChecked_59 rfl (lv_at hl 0 rfl) ?_
            refine j7_read hx hb hown hK (C := RX1) (T := TX1) (N := 17) rfl hly_3_11 hlk_105 (hh_16.at 0 rfl) dX1_keepChecked_60 ?_
            refine va_calli (A0 := jA base) (H0 := s.heap) (va_runV (As := [.int v1_5, .ref checking_17]) (rest := []) ⟨hx, hb, hml, hown, hts⟩ (uX1_isSentenceE l dC dI ca base B hB hAp hB3 hB101 hB171 hB172 G0 H_5 r0 v1_5 checking_17 nchecking_17 ps) (cwV 2 hts (jgV (jWr_42 _ (List.mem_of_getElem? (i := 23) rfl)) (jWr_43 _ (List.mem_of_getElem? (i := 0) rfl)) (jWr_43 _ (List.mem_of_getElem? (i := 1) rfl)) (jWr_2 _ (List.mem_of_getElem? (i := 21) rfl)) (jWr_43 _ (List.mem_of_getElem? (i := 2) rfl))) rfl rfl rfl (by decide +kernel) ⟨by rw [← hR]; exact Nat.le_of_ble_eq_true rfl, by rw [← hR]; exact Nat.le_of_ble_eq_true rfl⟩) ⟨fun a U g mk q => by obtain ⟨q0, q1, q2, qK, q10, q11, q12, q13⟩ := q; exact ⟨q0, q1, q2, jG.calling g mk a qK, q10, q11, q12, q13⟩, hh_16.recv (C := RX1) (T := TX1) (N := 17) hB3 rfl (by decide) hg_r0 hK, fun U hU hW => ⟨rfl, hU, hh_16.2.1, hG.step hW hU hh_16.1, hg_r0, hg_checking_17, (hh_16.2.2.1.sub (L1 := [(r0, 3, 4, .int ps)]) [4] rfl), by first | omega | (refine ⟨?_, ?_⟩ <;> (first | omega | rfl | assumption | decide | exact Or.inl rfl | exact Or.inr rfl | (simp only; omega)))⟩⟩ rfl rfl hl.1 rfl (lv_room (Nat.le_of_ble_eq_true rfl)) dX1_keepChecked_63 ⟨Nat.zero_le _, Nat.zero_le _⟩) hh_16.1 (fun q _ h => h) (fun q h => h) (fun r_24 u_23 t_23 H_23 locs_23 ht_23 hvm_23 hr_24 hb_23 hz_23 hk_23 hS_23 => ?_)
            rw [ht_23] at hb_23
            obtain ⟨hb_231, hb_232, hb_233, hb_234, hb_235⟩ := hb_23
            have hh_23 : jSt (dC, dI) B base G0 G0 EX1_keepCheckedE s.heap 0 0 [(r0, 3, 11, .ref checking_17), (r0, 3, 9, .ref behind_4), (r0, 3, 5, .ref sa_), (r0, 3, 6, .ref ea_), (r0, 3, 4, .int ps), (r0, 3, 10, .int pk)] [] [([(210, 0)], jQc dC dI (ca 6) behind_4 40 fq_6), ([(3, 0), (3, 1), (3, 2), (3, 3), (3, 4), (3, 5), (3, 6), (3, 7), (3, 8), (3, 9), (3, 10), (3, 11), (3, 12), (3, 13), (3, 14), (3, 15), (3, 16)], jOw (dC, dI) G0 3 r0 s.heap), (jFdo, jDcc dC dI ca G0 (some r0) ph)] H_23 locs_23 := ((hh_16.call hb_231 hb_232 hb_233 hb_234 hS_23 rfl (L1 := [(r0, 3, 11, .ref checking_17), (r0, 3, 9, .ref behind_4), (r0, 3, 5, .ref sa_), (r0, 3, 6, .ref ea_), (r0, 3, 4, .int ps), (r0, 3, 10, .int pk)]) [0, 1, 2, 3, 4, 5] rfl rfl (M1 := []) [] rfl rfl (I1 := [([(210, 0)], jQc dC dI (ca 6) behind_4 40 fq_6), ([(3, 0), (3, 1), (3, 2), (3, 3), (3, 4), (3, 5), (3, 6), (3, 7), (3, 8), (3, 9), (3, 10), (3, 11), (3, 12), (3, 13), (3, 14), (3, 15), (3, 16)], jOw (dC, dI) G0 3 r0 s.heap), (jFdo, jDcc dC dI ca G0 (some r0) ph)]) [0, 1, 2] rfl rfl).more hb_235)
            clear hh_16 ht_23 hvm_23 hz_23 hk_23 hS_23 hb_231 hb_232 hb_233 hb_234 hb_235
            obtain ⟨hr_24b, hr_24p⟩ := hr_24
            have hr_24' := jb_01 hr_24b
            refine lv_if_eq (tgt := 73) hx hb dX1_keepChecked_66 (by decide) (fun c_25 => ?_) (fun c_25 => ?_)
            · skip
              have c_25' : r_24.toInt = 0 := jb_eq (rfl) ((by decide)) c_25
              first | (have hr_24pq := hr_24p.resolve_left (by omega); clear hr_24p) | (have hr_24pq := hr_24p.resolve_right (by omega); clear hr_24p) | try clear hr_24p
              refine lv_iconst (v := 0) hx hb dX1_keepChecked_73 (by decide) ?_
              refine lv_istore_n (lv' := [(2, .int 0), (0, .ref r0), (1, .int v1_5)]) hx hb dX1_keepChecked_74 rfl hl (by decide) rfl (fun ls hl => ?_)
              refine lv_aload_n hx hb dX1_keepChecked_75 rfl (lv_at hl 1 rfl) ?_
              refine lv_iload_n hx hb dX1_keepChecked_76 rfl (lv_at hl 2 rfl) ?_
              have hd_27 := hh_23.iv 2 rfl
              have hd_275 := hh_23.at 2 rfl
              have hd_276 := hh_23.at 3 rfl
              have hd_27o := hh_23.iv 1 rfl
              have hh_28 := hh_23.sub (L1 := [(r0, 3, 11, .ref checking_17), (r0, 3, 9, .ref behind_4), (r0, 3, 5, .ref sa_), (r0, 3, 6, .ref ea_), (r0, 3, 4, .int ps), (r0, 3, 10, .int pk)]) [0, 1, 2, 3, 4, 5] rfl (M1 := []) [] rfl (I1 := [([(210, 0)], jQc dC dI (ca 6) behind_4 40 fq_6)]) [0] rfl
              clear hh_23
              refine j7_putX hx hb hown hK hh_28 hB hAp hB3 (C := RX1) (T := TX1) (N := 17) rfl (by decide) hg_r0 (i := 10) (by decide) hly_3_10 rfl hlk_72 rfl (ty := .int) (v := .int v1_5) (by decide +kernel) rfl rfl (⟨_, rfl, by omega, by omega⟩) rfl (L1 := [(r0, 3, 11, .ref checking_17), (r0, 3, 9, .ref behind_4), (r0, 3, 5, .ref sa_), (r0, 3, 6, .ref ea_), (r0, 3, 4, .int ps)]) [0, 1, 2, 3, 4] rfl rfl rfl dX1_keepChecked_77 (fun H_26 locs_26 hr_26 hh_26 => ?_)
              clear hh_28
              have hd_27n := jDcc.fld hd_27 hg_r0 hr_26 hd_275 hd_276 (hh_26.at 3 rfl) (hh_26.at 4 rfl)
              have hd_27on := jOw.put hd_27o hr_26
              have hh_29 := hh_26.addI (jDcc.ie hd_27n)
              clear hh_26
              have hh_30 := hh_29.addI (jOw.ie (dC := dC) (dI := dI) (G0 := G0) (k := 3) (r := r0) (H0 := s.heap) (F := [(3, 0), (3, 1), (3, 2), (3, 3), (3, 4), (3, 5), (3, 6), (3, 7), (3, 8), (3, 9), (3, 10), (3, 11), (3, 12), (3, 13), (3, 14), (3, 15), (3, 16)]) (C := RX1) (T := TX1) (N := 17) rfl (by decide) hh_29.2.2.2.2.1 (hd_27on))
              clear hh_29
              clear hd_27 hd_27n hd_275 hd_276 hr_26 hd_27o hd_27on
              refine lv_iload_n hx hb dX1_keepChecked_80 rfl (lv_at hl 0 rfl) ?_
              rw [hQ]
              exact W.zret (v := 0) hx hb hr (jb_nz (Or.inl rfl)) (fun t ht hW => ⟨⟨0, v1_5, rfl, ⟨(Or.inl rfl), by (try dsimp only); first | omega | (refine ⟨?_, ?_, ?_, ?_⟩ <;> (first | omega | rfl | assumption | decide | exact Or.inl rfl | exact Or.inr rfl | (simp only; omega)))⟩, ⟨⟨hh_30.rt (M1 := [(r0, 3, 10, .int v1_5)]) [0] rfl ht, by rw [ht]; exact hh_30.iv 0 rfl⟩, by rw [ht]; exact hh_30.2.2.2.2.2.2.2.2.sub (L1 := [(jFdo, jDcc dC dI ca G0 (some r0) ph)]) [1] rfl⟩⟩, by rw [ht]; try exact hh_30.1.1, fun q h9 hq => by rw [ht]; try exact hh_30.1.2.1 q h9 hq⟩) hh_30.1.2.2 dX1_keepChecked_81
            · skip
              have c_25' : r_24.toInt ≠ 0 := jb_eq_n (rfl) ((by decide)) c_25
              first | (have hr_24pq := hr_24p.resolve_left (by omega); clear hr_24p) | (have hr_24pq := hr_24p.resolve_right (by omega); clear hr_24p) | try clear hr_24p
              refine lv_iconst (v := 1) hx hb dX1_keepChecked_69 (by decide) ?_
              refine lv_goto (tgt := 74) hx hb dX1_keepChecked_70 (by decide) ?_
              refine lv_istore_n (lv' := [(2, .int 1), (0, .ref r0), (1, .int v1_5)]) hx hb dX1_keepChecked_74 rfl hl (by decide) rfl (fun ls hl => ?_)
              refine lv_aload_n hx hb dX1_keepChecked_75 rfl (lv_at hl 1 rfl) ?_
              refine lv_iload_n hx hb dX1_keepChecked_76 rfl (lv_at hl 2 rfl) ?_
              have hd_32 := hh_23.iv 2 rfl
              have hd_325 := hh_23.at 2 rfl
              have hd_326 := hh_23.at 3 rfl
              have hd_32o := hh_23.iv 1 rfl
              have hh_33 := hh_23.sub (L1 := [(r0, 3, 11, .ref checking_17), (r0, 3, 9, .ref behind_4), (r0, 3, 5, .ref sa_), (r0, 3, 6, .ref ea_), (r0, 3, 4, .int ps), (r0, 3, 10, .int pk)]) [0, 1, 2, 3, 4, 5] rfl (M1 := []) [] rfl (I1 := [([(210, 0)], jQc dC dI (ca 6) behind_4 40 fq_6)]) [0] rfl
              clear hh_23
              refine j7_putX hx hb hown hK hh_33 hB hAp hB3 (C := RX1) (T := TX1) (N := 17) rfl (by decide) hg_r0 (i := 10) (by decide) hly_3_10 rfl hlk_72 rfl (ty := .int) (v := .int v1_5) (by decide +kernel) rfl rfl (⟨_, rfl, by omega, by omega⟩) rfl (L1 := [(r0, 3, 11, .ref checking_17), (r0, 3, 9, .ref behind_4), (r0, 3, 5, .ref sa_), (r0, 3, 6, .ref ea_), (r0, 3, 4, .int ps)]) [0, 1, 2, 3, 4] rfl rfl rfl dX1_keepChecked_77 (fun H_31 locs_31 hr_31 hh_31 => ?_)
              clear hh_33
              have hd_32n := jDcc.fld hd_32 hg_r0 hr_31 hd_325 hd_326 (hh_31.at 3 rfl) (hh_31.at 4 rfl)
              have hd_32on := jOw.put hd_32o hr_31
              have hh_34 := hh_31.addI (jDcc.ie hd_32n)
              clear hh_31
              have hh_35 := hh_34.addI (jOw.ie (dC := dC) (dI := dI) (G0 := G0) (k := 3) (r := r0) (H0 := s.heap) (F := [(3, 0), (3, 1), (3, 2), (3, 3), (3, 4), (3, 5), (3, 6), (3, 7), (3, 8), (3, 9), (3, 10), (3, 11), (3, 12), (3, 13), (3, 14), (3, 15), (3, 16)]) (C := RX1) (T := TX1) (N := 17) rfl (by decide) hh_34.2.2.2.2.1 (hd_32on))
              clear hh_34
              clear hd_32 hd_32n hd_325 hd_326 hr_31 hd_32o hd_32on
              refine lv_iload_n hx hb dX1_keepChecked_80 rfl (lv_at hl 0 rfl) ?_
              rw [hQ]
              exact W.zret (v := 1) hx hb hr (jb_nz (Or.inr rfl)) (fun t ht hW => ⟨⟨1, v1_5, rfl, ⟨(Or.inr rfl), by (try dsimp only); first | omega | (refine ⟨?_, ?_, ?_, ?_⟩ <;> (first | omega | rfl | assumption | decide | exact Or.inl rfl | exact Or.inr rfl | (simp only; omega)))⟩, ⟨⟨hh_35.rt (M1 := [(r0, 3, 10, .int v1_5)]) [0] rfl ht, by rw [ht]; exact hh_35.iv 0 rfl⟩, by rw [ht]; exact hh_35.2.2.2.2.2.2.2.2.sub (L1 := [(jFdo, jDcc dC dI ca G0 (some r0) ph)]) [1] rfl⟩⟩, by rw [ht]; try exact hh_35.1.1, fun q h9 hq => by rw [ht]; try exact hh_35.1.2.1 q h9 hq⟩) hh_35.1.2.2 dX1_keepChecked_81
      · skip
        have c_8' : v1_5.toInt < pk.toInt := jb_ge_n (rfl) (rfl) c_8
        refine lv_aload_n hx hb dX1_keepChecked_10 rfl (lv_at hl 0 rfl) ?_
        refine j7_read hx hb hown hK (C := RX1) (T := TX1) (N := 17) rfl hly_3_9 hlk_32 (hh_7.at 0 rfl) dX1_keepChecked_11 ?_
        refine lv_iload_n hx hb dX1_keepChecked_14 rfl (lv_at hl 1 rfl) ?_
        refine j7_qaldI hx hb hK2 hh_7 hB210 2 rfl (by decide) hg_behind_4 (x := v1_5.toInt) (rfl) (by omega) (hh_7.iv 0 rfl) dX1_keepChecked_15 (fun o_36 ho_36 heo_36 => ?_)
        rcases ho_36 with rfl | ⟨el_37, rfl, hg_el_37⟩
        · simp only [va_rf]
          refine lv_ifnullN (tgt := 42) hx hb dX1_keepChecked_16 (by decide) ?_
          refine lv_iload_n hx hb dX1_keepChecked_42 rfl (lv_at hl 1 rfl) ?_
          refine lv_aload_n hx hb dX1_keepChecked_43 rfl (lv_at hl 0 rfl) ?_
          refine j7_read hx hb hown hK (C := RX1) (T := TX1) (N := 17) rfl hly_3_10 hlk_72 (hh_7.at 4 rfl) dX1_keepChecked_44 ?_
          refine lv_icmp_ne (tgt := 73) hx hb dX1_keepChecked_47 (by decide) (fun c_38 => ?_) (fun c_38 => ?_)
          · skip
            have c_38' : v1_5.toInt ≠ pk.toInt := jb_ne (rfl) (rfl) c_38
            refine lv_iconst (v := 0) hx hb dX1_keepChecked_73 (by decide) ?_
            refine lv_istore_n (lv' := [(2, .int 0), (0, .ref r0), (1, .int v1_5)]) hx hb dX1_keepChecked_74 rfl hl (by decide) rfl (fun ls hl => ?_)
            refine lv_aload_n hx hb dX1_keepChecked_75 rfl (lv_at hl 1 rfl) ?_
            refine lv_iload_n hx hb dX1_keepChecked_76 rfl (lv_at hl 2 rfl) ?_
            have hd_40 := hh_7.iv 2 rfl
            have hd_405 := hh_7.at 1 rfl
            have hd_406 := hh_7.at 2 rfl
            have hd_40o := hh_7.iv 1 rfl
            have hh_41 := hh_7.sub (L1 := [(r0, 3, 9, .ref behind_4), (r0, 3, 5, .ref sa_), (r0, 3, 6, .ref ea_), (r0, 3, 4, .int ps), (r0, 3, 10, .int pk)]) [0, 1, 2, 3, 4] rfl (M1 := []) [] rfl (I1 := [([(210, 0)], jQc dC dI (ca 6) behind_4 40 fq_6)]) [0] rfl
            clear hh_7
            refine j7_putX hx hb hown hK hh_41 hB hAp hB3 (C := RX1) (T := TX1) (N := 17) rfl (by decide) hg_r0 (i := 10) (by decide) hly_3_10 rfl hlk_72 rfl (ty := .int) (v := .int v1_5) (by decide +kernel) rfl rfl (⟨_, rfl, by omega, by omega⟩) rfl (L1 := [(r0, 3, 9, .ref behind_4), (r0, 3, 5, .ref sa_), (r0, 3, 6, .ref ea_), (r0, 3, 4, .int ps)]) [0, 1, 2, 3] rfl rfl rfl dX1_keepChecked_77 (fun H_39 locs_39 hr_39 hh_39 => ?_)
            clear hh_41
            have hd_40n := jDcc.fld hd_40 hg_r0 hr_39 hd_405 hd_406 (hh_39.at 2 rfl) (hh_39.at 3 rfl)
            have hd_40on := jOw.put hd_40o hr_39
            have hh_42 := hh_39.addI (jDcc.ie hd_40n)
            clear hh_39
            have hh_43 := hh_42.addI (jOw.ie (dC := dC) (dI := dI) (G0 := G0) (k := 3) (r := r0) (H0 := s.heap) (F := [(3, 0), (3, 1), (3, 2), (3, 3), (3, 4), (3, 5), (3, 6), (3, 7), (3, 8), (3, 9), (3, 10), (3, 11), (3, 12), (3, 13), (3, 14), (3, 15), (3, 16)]) (C := RX1) (T := TX1) (N := 17) rfl (by decide) hh_42.2.2.2.2.1 (hd_40on))
            clear hh_42
            clear hd_40 hd_40n hd_405 hd_406 hr_39 hd_40o hd_40on
            refine lv_iload_n hx hb dX1_keepChecked_80 rfl (lv_at hl 0 rfl) ?_
            rw [hQ]
            exact W.zret (v := 0) hx hb hr (jb_nz (Or.inl rfl)) (fun t ht hW => ⟨⟨0, v1_5, rfl, ⟨(Or.inl rfl), by (try dsimp only); first | omega | (refine ⟨?_, ?_, ?_, ?_⟩ <;> (first | omega | rfl | assumption | decide | exact Or.inl rfl | exact Or.inr rfl | (simp only; omega)))⟩, ⟨⟨hh_43.rt (M1 := [(r0, 3, 10, .int v1_5)]) [0] rfl ht, by rw [ht]; exact hh_43.iv 0 rfl⟩, by rw [ht]; exact hh_43.2.2.2.2.2.2.2.2.sub (L1 := [(jFdo, jDcc dC dI ca G0 (some r0) ph)]) [1] rfl⟩⟩, by rw [ht]; try exact hh_43.1.1, fun q h9 hq => by rw [ht]; try exact hh_43.1.2.1 q h9 hq⟩) hh_43.1.2.2 dX1_keepChecked_81
          · skip
            have c_38' : v1_5.toInt = pk.toInt := jb_ne_n (rfl) (rfl) c_38
            refine lv_aload_n hx hb dX1_keepChecked_50 rfl (lv_at hl 0 rfl) ?_
            obtain ⟨v_44, hv_44, hh_45⟩ := hh_7.pin (C := RX1) (T := TX1) (N := 17) hB3 rfl (by decide) hg_r0 (i := 11) (by decide) rfl
            clear hh_7
            rcases hv_44 with rfl | ⟨checking_46, nchecking_46, rfl, hg_checking_46, hn_checking_46⟩
            · refine j7_read hx hb hown hK (C := RX1) (T := TX1) (N := 17) rfl hly_3_11 hlk_105 (hh_45.at 0 rfl) dX1_keepChecked_51 ?_
              refine lv_ifnullN (tgt := 73) hx hb dX1_keepChecked_54 (by decide) ?_
              refine lv_iconst (v := 0) hx hb dX1_keepChecked_73 (by decide) ?_
              refine lv_istore_n (lv' := [(2, .int 0), (0, .ref r0), (1, .int v1_5)]) hx hb dX1_keepChecked_74 rfl hl (by decide) rfl (fun ls hl => ?_)
              refine lv_aload_n hx hb dX1_keepChecked_75 rfl (lv_at hl 1 rfl) ?_
              refine lv_iload_n hx hb dX1_keepChecked_76 rfl (lv_at hl 2 rfl) ?_
              have hd_48 := hh_45.iv 2 rfl
              have hd_485 := hh_45.at 2 rfl
              have hd_486 := hh_45.at 3 rfl
              have hd_48o := hh_45.iv 1 rfl
              have hh_49 := hh_45.sub (L1 := [(r0, 3, 11, .null), (r0, 3, 9, .ref behind_4), (r0, 3, 5, .ref sa_), (r0, 3, 6, .ref ea_), (r0, 3, 4, .int ps), (r0, 3, 10, .int pk)]) [0, 1, 2, 3, 4, 5] rfl (M1 := []) [] rfl (I1 := [([(210, 0)], jQc dC dI (ca 6) behind_4 40 fq_6)]) [0] rfl
              clear hh_45
              refine j7_putX hx hb hown hK hh_49 hB hAp hB3 (C := RX1) (T := TX1) (N := 17) rfl (by decide) hg_r0 (i := 10) (by decide) hly_3_10 rfl hlk_72 rfl (ty := .int) (v := .int v1_5) (by decide +kernel) rfl rfl (⟨_, rfl, by omega, by omega⟩) rfl (L1 := [(r0, 3, 11, .null), (r0, 3, 9, .ref behind_4), (r0, 3, 5, .ref sa_), (r0, 3, 6, .ref ea_), (r0, 3, 4, .int ps)]) [0, 1, 2, 3, 4] rfl rfl rfl dX1_keepChecked_77 (fun H_47 locs_47 hr_47 hh_47 => ?_)
              clear hh_49
              have hd_48n := jDcc.fld hd_48 hg_r0 hr_47 hd_485 hd_486 (hh_47.at 3 rfl) (hh_47.at 4 rfl)
              have hd_48on := jOw.put hd_48o hr_47
              have hh_50 := hh_47.addI (jDcc.ie hd_48n)
              clear hh_47
              have hh_51 := hh_50.addI (jOw.ie (dC := dC) (dI := dI) (G0 := G0) (k := 3) (r := r0) (H0 := s.heap) (F := [(3, 0), (3, 1), (3, 2), (3, 3), (3, 4), (3, 5), (3, 6), (3, 7), (3, 8), (3, 9), (3, 10), (3, 11), (3, 12), (3, 13), (3, 14), (3, 15), (3, 16)]) (C := RX1) (T := TX1) (N := 17) rfl (by decide) hh_50.2.2.2.2.1 (hd_48on))
              clear hh_50
              clear hd_48 hd_48n hd_485 hd_486 hr_47 hd_48o hd_48on
              refine lv_iload_n hx hb dX1_keepChecked_80 rfl (lv_at hl 0 rfl) ?_
              rw [hQ]
              exact W.zret (v := 0) hx hb hr (jb_nz (Or.inl rfl)) (fun t ht hW => ⟨⟨0, v1_5, rfl, ⟨(Or.inl rfl), by (try dsimp only); first | omega | (refine ⟨?_, ?_, ?_, ?_⟩ <;> (first | omega | rfl | assumption | decide | exact Or.inl rfl | exact Or.inr rfl | (simp only; omega)))⟩, ⟨⟨hh_51.rt (M1 := [(r0, 3, 10, .int v1_5)]) [0] rfl ht, by rw [ht]; exact hh_51.iv 0 rfl⟩, by rw [ht]; exact hh_51.2.2.2.2.2.2.2.2.sub (L1 := [(jFdo, jDcc dC dI ca G0 (some r0) ph)]) [1] rfl⟩⟩, by rw [ht]; try exact hh_51.1.1, fun q h9 hq => by rw [ht]; try exact hh_51.1.2.1 q h9 hq⟩) hh_51.1.2.2 dX1_keepChecked_81
            · refine j7_read hx hb hown hK (C := RX1) (T := TX1) (N := 17) rfl hly_3_11 hlk_105 (hh_45.at 0 rfl) dX1_keepChecked_51 ?_
              refine lv_ifnull hx hb dX1_keepChecked_54 ?_
              refine lv_aload_n hx hb dX1_keepChecked_57 rfl (lv_at hl 0 rfl) ?_
              refine lv_iload_n hx hb dX1_keepChecked_58 rfl (lv_at hl 1 rfl) ?_
              refine lv_aload_n hx hb dX1_keepChecked_59 rfl (lv_at hl 0 rfl) ?_
              refine j7_read hx hb hown hK (C := RX1) (T := TX1) (N := 17) rfl hly_3_11 hlk_105 (hh_45.at 0 rfl) dX1_keepChecked_60 ?_
              refine va_calli (A0 := jA base) (H0 := s.heap) (va_runV (As := [.int v1_5, .ref checking_46]) (rest := []) ⟨hx, hb, hml, hown, hts⟩ (uX1_isSentenceE l dC dI ca base B hB hAp hB3 hB101 hB171 hB172 G0 H_5 r0 v1_5 checking_46 nchecking_46 ps) (cwV 2 hts (jgV (jWr_42 _ (List.mem_of_getElem? (i := 23) rfl)) (jWr_43 _ (List.mem_of_getElem? (i := 0) rfl)) (jWr_43 _ (List.mem_of_getElem? (i := 1) rfl)) (jWr_2 _ (List.mem_of_getElem? (i := 21) rfl)) (jWr_43 _ (List.mem_of_getElem? (i := 2) rfl))) rfl rfl rfl (by decide +kernel) ⟨by rw [← hR]; exact Nat.le_of_ble_eq_true rfl, by rw [← hR]; exact Nat.le_of_ble_eq_true rfl⟩) ⟨fun a U g mk q => by obtain ⟨q0, q1, q2, qK, q10, q11, q12, q13⟩ := q; exact ⟨q0, q1, q2, jG.calling g mk a qK, q10, q11, q12, q13⟩, hh_45.recv (C := RX1) (T := TX1) (N := 17) hB3 rfl (by decide) hg_r0 hK, fun U hU hW => ⟨rfl, hU, hh_45.2.1, hG.step hW hU hh_45.1, hg_r0, hg_checking_46, (hh_45.2.2.1.sub (L1 := [(r0, 3, 4, .int ps)]) [4] rfl), by first | omega | (refine ⟨?_, ?_⟩ <;> (first | omega | rfl | assumption | decide | exact Or.inl rfl | exact Or.inr rfl | (simp only; omega)))⟩⟩ rfl rfl hl.1 rfl (lv_room (Nat.le_of_ble_eq_true rfl)) dX1_keepChecked_63 ⟨Nat.zero_le _, Nat.zero_le _⟩) hh_45.1 (fun q _ h => h) (fun q h => h) (fun r_53 u_52 t_52 H_52 locs_52 ht_52 hvm_52 hr_53 hb_52 hz_52 hk_52 hS_52 => ?_)
              rw [ht_52] at hb_52
              obtain ⟨hb_521, hb_522, hb_523, hb_524, hb_525⟩ := hb_52
              have hh_52 : jSt (dC, dI) B base G0 G0 EX1_keepCheckedE s.heap 0 0 [(r0, 3, 11, .ref checking_46), (r0, 3, 9, .ref behind_4), (r0, 3, 5, .ref sa_), (r0, 3, 6, .ref ea_), (r0, 3, 4, .int ps), (r0, 3, 10, .int pk)] [] [([(210, 0)], jQc dC dI (ca 6) behind_4 40 fq_6), ([(3, 0), (3, 1), (3, 2), (3, 3), (3, 4), (3, 5), (3, 6), (3, 7), (3, 8), (3, 9), (3, 10), (3, 11), (3, 12), (3, 13), (3, 14), (3, 15), (3, 16)], jOw (dC, dI) G0 3 r0 s.heap), (jFdo, jDcc dC dI ca G0 (some r0) ph)] H_52 locs_52 := ((hh_45.call hb_521 hb_522 hb_523 hb_524 hS_52 rfl (L1 := [(r0, 3, 11, .ref checking_46), (r0, 3, 9, .ref behind_4), (r0, 3, 5, .ref sa_), (r0, 3, 6, .ref ea_), (r0, 3, 4, .int ps), (r0, 3, 10, .int pk)]) [0, 1, 2, 3, 4, 5] rfl rfl (M1 := []) [] rfl rfl (I1 := [([(210, 0)], jQc dC dI (ca 6) behind_4 40 fq_6), ([(3, 0), (3, 1), (3, 2), (3, 3), (3, 4), (3, 5), (3, 6), (3, 7), (3, 8), (3, 9), (3, 10), (3, 11), (3, 12), (3, 13), (3, 14), (3, 15), (3, 16)], jOw (dC, dI) G0 3 r0 s.heap), (jFdo, jDcc dC dI ca G0 (some r0) ph)]) [0, 1, 2] rfl rfl).more hb_525)
              clear hh_45 ht_52 hvm_52 hz_52 hk_52 hS_52 hb_521 hb_522 hb_523 hb_524 hb_525
              obtain ⟨hr_53b, hr_53p⟩ := hr_53
              have hr_53' := jb_01 hr_53b
              refine lv_if_eq (tgt := 73) hx hb dX1_keepChecked_66 (by decide) (fun c_54 => ?_) (fun c_54 => ?_)
              · skip
                have c_54' : r_53.toInt = 0 := jb_eq (rfl) ((by decide)) c_54
                first | (have hr_53pq := hr_53p.resolve_left (by omega); clear hr_53p) | (have hr_53pq := hr_53p.resolve_right (by omega); clear hr_53p) | try clear hr_53p
                refine lv_iconst (v := 0) hx hb dX1_keepChecked_73 (by decide) ?_
                refine lv_istore_n (lv' := [(2, .int 0), (0, .ref r0), (1, .int v1_5)]) hx hb dX1_keepChecked_74 rfl hl (by decide) rfl (fun ls hl => ?_)
                refine lv_aload_n hx hb dX1_keepChecked_75 rfl (lv_at hl 1 rfl) ?_
                refine lv_iload_n hx hb dX1_keepChecked_76 rfl (lv_at hl 2 rfl) ?_
                have hd_56 := hh_52.iv 2 rfl
                have hd_565 := hh_52.at 2 rfl
                have hd_566 := hh_52.at 3 rfl
                have hd_56o := hh_52.iv 1 rfl
                have hh_57 := hh_52.sub (L1 := [(r0, 3, 11, .ref checking_46), (r0, 3, 9, .ref behind_4), (r0, 3, 5, .ref sa_), (r0, 3, 6, .ref ea_), (r0, 3, 4, .int ps), (r0, 3, 10, .int pk)]) [0, 1, 2, 3, 4, 5] rfl (M1 := []) [] rfl (I1 := [([(210, 0)], jQc dC dI (ca 6) behind_4 40 fq_6)]) [0] rfl
                clear hh_52
                refine j7_putX hx hb hown hK hh_57 hB hAp hB3 (C := RX1) (T := TX1) (N := 17) rfl (by decide) hg_r0 (i := 10) (by decide) hly_3_10 rfl hlk_72 rfl (ty := .int) (v := .int v1_5) (by decide +kernel) rfl rfl (⟨_, rfl, by omega, by omega⟩) rfl (L1 := [(r0, 3, 11, .ref checking_46), (r0, 3, 9, .ref behind_4), (r0, 3, 5, .ref sa_), (r0, 3, 6, .ref ea_), (r0, 3, 4, .int ps)]) [0, 1, 2, 3, 4] rfl rfl rfl dX1_keepChecked_77 (fun H_55 locs_55 hr_55 hh_55 => ?_)
                clear hh_57
                have hd_56n := jDcc.fld hd_56 hg_r0 hr_55 hd_565 hd_566 (hh_55.at 3 rfl) (hh_55.at 4 rfl)
                have hd_56on := jOw.put hd_56o hr_55
                have hh_58 := hh_55.addI (jDcc.ie hd_56n)
                clear hh_55
                have hh_59 := hh_58.addI (jOw.ie (dC := dC) (dI := dI) (G0 := G0) (k := 3) (r := r0) (H0 := s.heap) (F := [(3, 0), (3, 1), (3, 2), (3, 3), (3, 4), (3, 5), (3, 6), (3, 7), (3, 8), (3, 9), (3, 10), (3, 11), (3, 12), (3, 13), (3, 14), (3, 15), (3, 16)]) (C := RX1) (T := TX1) (N := 17) rfl (by decide) hh_58.2.2.2.2.1 (hd_56on))
                clear hh_58
                clear hd_56 hd_56n hd_565 hd_566 hr_55 hd_56o hd_56on
                refine lv_iload_n hx hb dX1_keepChecked_80 rfl (lv_at hl 0 rfl) ?_
                rw [hQ]
                exact W.zret (v := 0) hx hb hr (jb_nz (Or.inl rfl)) (fun t ht hW => ⟨⟨0, v1_5, rfl, ⟨(Or.inl rfl), by (try dsimp only); first | omega | (refine ⟨?_, ?_, ?_, ?_⟩ <;> (first | omega | rfl | assumption | decide | exact Or.inl rfl | exact Or.inr rfl | (simp only; omega)))⟩, ⟨⟨hh_59.rt (M1 := [(r0, 3, 10, .int v1_5)]) [0] rfl ht, by rw [ht]; exact hh_59.iv 0 rfl⟩, by rw [ht]; exact hh_59.2.2.2.2.2.2.2.2.sub (L1 := [(jFdo, jDcc dC dI ca G0 (some r0) ph)]) [1] rfl⟩⟩, by rw [ht]; try exact hh_59.1.1, fun q h9 hq => by rw [ht]; try exact hh_59.1.2.1 q h9 hq⟩) hh_59.1.2.2 dX1_keepChecked_81
              · skip
                have c_54' : r_53.toInt ≠ 0 := jb_eq_n (rfl) ((by decide)) c_54
                first | (have hr_53pq := hr_53p.resolve_left (by omega); clear hr_53p) | (have hr_53pq := hr_53p.resolve_right (by omega); clear hr_53p) | try clear hr_53p
                refine lv_iconst (v := 1) hx hb dX1_keepChecked_69 (by decide) ?_
                refine lv_goto (tgt := 74) hx hb dX1_keepChecked_70 (by decide) ?_
                refine lv_istore_n (lv' := [(2, .int 1), (0, .ref r0), (1, .int v1_5)]) hx hb dX1_keepChecked_74 rfl hl (by decide) rfl (fun ls hl => ?_)
                refine lv_aload_n hx hb dX1_keepChecked_75 rfl (lv_at hl 1 rfl) ?_
                refine lv_iload_n hx hb dX1_keepChecked_76 rfl (lv_at hl 2 rfl) ?_
                have hd_61 := hh_52.iv 2 rfl
                have hd_615 := hh_52.at 2 rfl
                have hd_616 := hh_52.at 3 rfl
                have hd_61o := hh_52.iv 1 rfl
                have hh_62 := hh_52.sub (L1 := [(r0, 3, 11, .ref checking_46), (r0, 3, 9, .ref behind_4), (r0, 3, 5, .ref sa_), (r0, 3, 6, .ref ea_), (r0, 3, 4, .int ps), (r0, 3, 10, .int pk)]) [0, 1, 2, 3, 4, 5] rfl (M1 := []) [] rfl (I1 := [([(210, 0)], jQc dC dI (ca 6) behind_4 40 fq_6)]) [0] rfl
                clear hh_52
                refine j7_putX hx hb hown hK hh_62 hB hAp hB3 (C := RX1) (T := TX1) (N := 17) rfl (by decide) hg_r0 (i := 10) (by decide) hly_3_10 rfl hlk_72 rfl (ty := .int) (v := .int v1_5) (by decide +kernel) rfl rfl (⟨_, rfl, by omega, by omega⟩) rfl (L1 := [(r0, 3, 11, .ref checking_46), (r0, 3, 9, .ref behind_4), (r0, 3, 5, .ref sa_), (r0, 3, 6, .ref ea_), (r0, 3, 4, .int ps)]) [0, 1, 2, 3, 4] rfl rfl rfl dX1_keepChecked_77 (fun H_60 locs_60 hr_60 hh_60 => ?_)
                clear hh_62
                have hd_61n := jDcc.fld hd_61 hg_r0 hr_60 hd_615 hd_616 (hh_60.at 3 rfl) (hh_60.at 4 rfl)
                have hd_61on := jOw.put hd_61o hr_60
                have hh_63 := hh_60.addI (jDcc.ie hd_61n)
                clear hh_60
                have hh_64 := hh_63.addI (jOw.ie (dC := dC) (dI := dI) (G0 := G0) (k := 3) (r := r0) (H0 := s.heap) (F := [(3, 0), (3, 1), (3, 2), (3, 3), (3, 4), (3, 5), (3, 6), (3, 7), (3, 8), (3, 9), (3, 10), (3, 11), (3, 12), (3, 13), (3, 14), (3, 15), (3, 16)]) (C := RX1) (T := TX1) (N := 17) rfl (by decide) hh_63.2.2.2.2.1 (hd_61on))
                clear hh_63
                clear hd_61 hd_61n hd_615 hd_616 hr_60 hd_61o hd_61on
                refine lv_iload_n hx hb dX1_keepChecked_80 rfl (lv_at hl 0 rfl) ?_
                rw [hQ]
                exact W.zret (v := 1) hx hb hr (jb_nz (Or.inr rfl)) (fun t ht hW => ⟨⟨1, v1_5, rfl, ⟨(Or.inr rfl), by (try dsimp only); first | omega | (refine ⟨?_, ?_, ?_, ?_⟩ <;> (first | omega | rfl | assumption | decide | exact Or.inl rfl | exact Or.inr rfl | (simp only; omega)))⟩, ⟨⟨hh_64.rt (M1 := [(r0, 3, 10, .int v1_5)]) [0] rfl ht, by rw [ht]; exact hh_64.iv 0 rfl⟩, by rw [ht]; exact hh_64.2.2.2.2.2.2.2.2.sub (L1 := [(jFdo, jDcc dC dI ca G0 (some r0) ph)]) [1] rfl⟩⟩, by rw [ht]; try exact hh_64.1.1, fun q h9 hq => by rw [ht]; try exact hh_64.1.2.1 q h9 hq⟩) hh_64.1.2.2 dX1_keepChecked_81
        · simp only [va_rf]
          refine lv_ifnull hx hb dX1_keepChecked_16 ?_
          refine lv_aload_n hx hb dX1_keepChecked_19 rfl (lv_at hl 0 rfl) ?_
          refine lv_iload_n hx hb dX1_keepChecked_20 rfl (lv_at hl 1 rfl) ?_
          refine lv_aload_n hx hb dX1_keepChecked_21 rfl (lv_at hl 0 rfl) ?_
          refine j7_read hx hb hown hK (C := RX1) (T := TX1) (N := 17) rfl hly_3_9 hlk_32 (hh_7.at 0 rfl) dX1_keepChecked_22 ?_
          refine lv_iload_n hx hb dX1_keepChecked_25 rfl (lv_at hl 1 rfl) ?_
          refine j7_qaldI hx hb hK2 hh_7 hB210 2 rfl (by decide) hg_behind_4 (x := v1_5.toInt) (rfl) (by omega) (hh_7.iv 0 rfl) dX1_keepChecked_26 (fun o_65 ho_65 heo_65 => ?_)
          rcases ho_65 with rfl | ⟨el_66, rfl, hg_el_66⟩
          · simp only [va_rf]
            exact absurd (heo_65.trans heo_36.symm) (by simp)
          · simp only [va_rf]
            obtain rfl : el_37 = el_66 := (Option.some.inj (heo_65.trans heo_36.symm)).symm
            obtain ⟨v_67, hv_67, hh_68⟩ := hh_7.pin (C := RX9) (T := TX9) (N := 9) hB11 rfl (by decide) hg_el_37 (i := 1) (by decide) rfl
            clear hh_7
            obtain ⟨units_69, nunits_69, rfl, hg_units_69, hn_units_69⟩ := hv_67
            refine j7_read hx hb hown hK (C := RX9) (T := TX9) (N := 9) rfl hly_11_1 hlk_98 (hh_68.at 0 rfl) dX1_keepChecked_27 ?_
            refine va_calli (A0 := jA base) (H0 := s.heap) (va_runV (As := [.int v1_5, .ref units_69]) (rest := []) ⟨hx, hb, hml, hown, hts⟩ (uX1_isSentenceE l dC dI ca base B hB hAp hB3 hB101 hB171 hB172 G0 H_5 r0 v1_5 units_69 nunits_69 ps) (cwV 2 hts (jgV (jWr_42 _ (List.mem_of_getElem? (i := 23) rfl)) (jWr_43 _ (List.mem_of_getElem? (i := 0) rfl)) (jWr_43 _ (List.mem_of_getElem? (i := 1) rfl)) (jWr_2 _ (List.mem_of_getElem? (i := 21) rfl)) (jWr_43 _ (List.mem_of_getElem? (i := 2) rfl))) rfl rfl rfl (by decide +kernel) ⟨by rw [← hR]; exact Nat.le_of_ble_eq_true rfl, by rw [← hR]; exact Nat.le_of_ble_eq_true rfl⟩) ⟨fun a U g mk q => by obtain ⟨q0, q1, q2, qK, q10, q11, q12, q13⟩ := q; exact ⟨q0, q1, q2, jG.calling g mk a qK, q10, q11, q12, q13⟩, hh_68.recv (C := RX1) (T := TX1) (N := 17) hB3 rfl (by decide) hg_r0 hK, fun U hU hW => ⟨rfl, hU, hh_68.2.1, hG.step hW hU hh_68.1, hg_r0, hg_units_69, (hh_68.2.2.1.sub (L1 := [(r0, 3, 4, .int ps)]) [4] rfl), by first | omega | (refine ⟨?_, ?_⟩ <;> (first | omega | rfl | assumption | decide | exact Or.inl rfl | exact Or.inr rfl | (simp only; omega)))⟩⟩ rfl rfl hl.1 rfl (lv_room (Nat.le_of_ble_eq_true rfl)) dX1_keepChecked_30 ⟨Nat.zero_le _, Nat.zero_le _⟩) hh_68.1 (fun q _ h => h) (fun q h => h) (fun r_71 u_70 t_70 H_70 locs_70 ht_70 hvm_70 hr_71 hb_70 hz_70 hk_70 hS_70 => ?_)
            rw [ht_70] at hb_70
            obtain ⟨hb_701, hb_702, hb_703, hb_704, hb_705⟩ := hb_70
            have hh_70 : jSt (dC, dI) B base G0 G0 EX1_keepCheckedE s.heap 0 0 [(el_37, 11, 1, .ref units_69), (r0, 3, 9, .ref behind_4), (r0, 3, 5, .ref sa_), (r0, 3, 6, .ref ea_), (r0, 3, 4, .int ps), (r0, 3, 10, .int pk)] [] [([(210, 0)], jQc dC dI (ca 6) behind_4 40 fq_6), ([(3, 0), (3, 1), (3, 2), (3, 3), (3, 4), (3, 5), (3, 6), (3, 7), (3, 8), (3, 9), (3, 10), (3, 11), (3, 12), (3, 13), (3, 14), (3, 15), (3, 16)], jOw (dC, dI) G0 3 r0 s.heap), (jFdo, jDcc dC dI ca G0 (some r0) ph)] H_70 locs_70 := ((hh_68.call hb_701 hb_702 hb_703 hb_704 hS_70 rfl (L1 := [(el_37, 11, 1, .ref units_69), (r0, 3, 9, .ref behind_4), (r0, 3, 5, .ref sa_), (r0, 3, 6, .ref ea_), (r0, 3, 4, .int ps), (r0, 3, 10, .int pk)]) [0, 1, 2, 3, 4, 5] rfl rfl (M1 := []) [] rfl rfl (I1 := [([(210, 0)], jQc dC dI (ca 6) behind_4 40 fq_6), ([(3, 0), (3, 1), (3, 2), (3, 3), (3, 4), (3, 5), (3, 6), (3, 7), (3, 8), (3, 9), (3, 10), (3, 11), (3, 12), (3, 13), (3, 14), (3, 15), (3, 16)], jOw (dC, dI) G0 3 r0 s.heap), (jFdo, jDcc dC dI ca G0 (some r0) ph)]) [0, 1, 2] rfl rfl).more hb_705)
            clear hh_68 ht_70 hvm_70 hz_70 hk_70 hS_70 hb_701 hb_702 hb_703 hb_704 hb_705
            obtain ⟨hr_71b, hr_71p⟩ := hr_71
            have hr_71' := jb_01 hr_71b
            refine lv_if_eq (tgt := 42) hx hb dX1_keepChecked_33 (by decide) (fun c_72 => ?_) (fun c_72 => ?_)
            · skip
              have c_72' : r_71.toInt = 0 := jb_eq (rfl) ((by decide)) c_72
              first | (have hr_71pq := hr_71p.resolve_left (by omega); clear hr_71p) | (have hr_71pq := hr_71p.resolve_right (by omega); clear hr_71p) | try clear hr_71p
              refine lv_iload_n hx hb dX1_keepChecked_42 rfl (lv_at hl 1 rfl) ?_
              refine lv_aload_n hx hb dX1_keepChecked_43 rfl (lv_at hl 0 rfl) ?_
              refine j7_read hx hb hown hK (C := RX1) (T := TX1) (N := 17) rfl hly_3_10 hlk_72 (hh_70.at 5 rfl) dX1_keepChecked_44 ?_
              refine lv_icmp_ne (tgt := 73) hx hb dX1_keepChecked_47 (by decide) (fun c_73 => ?_) (fun c_73 => ?_)
              · skip
                have c_73' : v1_5.toInt ≠ pk.toInt := jb_ne (rfl) (rfl) c_73
                refine lv_iconst (v := 0) hx hb dX1_keepChecked_73 (by decide) ?_
                refine lv_istore_n (lv' := [(2, .int 0), (0, .ref r0), (1, .int v1_5)]) hx hb dX1_keepChecked_74 rfl hl (by decide) rfl (fun ls hl => ?_)
                refine lv_aload_n hx hb dX1_keepChecked_75 rfl (lv_at hl 1 rfl) ?_
                refine lv_iload_n hx hb dX1_keepChecked_76 rfl (lv_at hl 2 rfl) ?_
                have hd_75 := hh_70.iv 2 rfl
                have hd_755 := hh_70.at 2 rfl
                have hd_756 := hh_70.at 3 rfl
                have hd_75o := hh_70.iv 1 rfl
                have hh_76 := hh_70.sub (L1 := [(el_37, 11, 1, .ref units_69), (r0, 3, 9, .ref behind_4), (r0, 3, 5, .ref sa_), (r0, 3, 6, .ref ea_), (r0, 3, 4, .int ps), (r0, 3, 10, .int pk)]) [0, 1, 2, 3, 4, 5] rfl (M1 := []) [] rfl (I1 := [([(210, 0)], jQc dC dI (ca 6) behind_4 40 fq_6)]) [0] rfl
                clear hh_70
                refine j7_putX hx hb hown hK hh_76 hB hAp hB3 (C := RX1) (T := TX1) (N := 17) rfl (by decide) hg_r0 (i := 10) (by decide) hly_3_10 rfl hlk_72 rfl (ty := .int) (v := .int v1_5) (by decide +kernel) rfl rfl (⟨_, rfl, by omega, by omega⟩) rfl (L1 := [(el_37, 11, 1, .ref units_69), (r0, 3, 9, .ref behind_4), (r0, 3, 5, .ref sa_), (r0, 3, 6, .ref ea_), (r0, 3, 4, .int ps)]) [0, 1, 2, 3, 4] rfl rfl rfl dX1_keepChecked_77 (fun H_74 locs_74 hr_74 hh_74 => ?_)
                clear hh_76
                have hd_75n := jDcc.fld hd_75 hg_r0 hr_74 hd_755 hd_756 (hh_74.at 3 rfl) (hh_74.at 4 rfl)
                have hd_75on := jOw.put hd_75o hr_74
                have hh_77 := hh_74.addI (jDcc.ie hd_75n)
                clear hh_74
                have hh_78 := hh_77.addI (jOw.ie (dC := dC) (dI := dI) (G0 := G0) (k := 3) (r := r0) (H0 := s.heap) (F := [(3, 0), (3, 1), (3, 2), (3, 3), (3, 4), (3, 5), (3, 6), (3, 7), (3, 8), (3, 9), (3, 10), (3, 11), (3, 12), (3, 13), (3, 14), (3, 15), (3, 16)]) (C := RX1) (T := TX1) (N := 17) rfl (by decide) hh_77.2.2.2.2.1 (hd_75on))
                clear hh_77
                clear hd_75 hd_75n hd_755 hd_756 hr_74 hd_75o hd_75on
                refine lv_iload_n hx hb dX1_keepChecked_80 rfl (lv_at hl 0 rfl) ?_
                rw [hQ]
                exact W.zret (v := 0) hx hb hr (jb_nz (Or.inl rfl)) (fun t ht hW => ⟨⟨0, v1_5, rfl, ⟨(Or.inl rfl), by (try dsimp only); first | omega | (refine ⟨?_, ?_, ?_, ?_⟩ <;> (first | omega | rfl | assumption | decide | exact Or.inl rfl | exact Or.inr rfl | (simp only; omega)))⟩, ⟨⟨hh_78.rt (M1 := [(r0, 3, 10, .int v1_5)]) [0] rfl ht, by rw [ht]; exact hh_78.iv 0 rfl⟩, by rw [ht]; exact hh_78.2.2.2.2.2.2.2.2.sub (L1 := [(jFdo, jDcc dC dI ca G0 (some r0) ph)]) [1] rfl⟩⟩, by rw [ht]; try exact hh_78.1.1, fun q h9 hq => by rw [ht]; try exact hh_78.1.2.1 q h9 hq⟩) hh_78.1.2.2 dX1_keepChecked_81
              · skip
                have c_73' : v1_5.toInt = pk.toInt := jb_ne_n (rfl) (rfl) c_73
                refine lv_aload_n hx hb dX1_keepChecked_50 rfl (lv_at hl 0 rfl) ?_
                obtain ⟨v_79, hv_79, hh_80⟩ := hh_70.pin (C := RX1) (T := TX1) (N := 17) hB3 rfl (by decide) hg_r0 (i := 11) (by decide) rfl
                clear hh_70
                rcases hv_79 with rfl | ⟨checking_81, nchecking_81, rfl, hg_checking_81, hn_checking_81⟩
                · refine j7_read hx hb hown hK (C := RX1) (T := TX1) (N := 17) rfl hly_3_11 hlk_105 (hh_80.at 0 rfl) dX1_keepChecked_51 ?_
                  refine lv_ifnullN (tgt := 73) hx hb dX1_keepChecked_54 (by decide) ?_
                  refine lv_iconst (v := 0) hx hb dX1_keepChecked_73 (by decide) ?_
                  refine lv_istore_n (lv' := [(2, .int 0), (0, .ref r0), (1, .int v1_5)]) hx hb dX1_keepChecked_74 rfl hl (by decide) rfl (fun ls hl => ?_)
                  refine lv_aload_n hx hb dX1_keepChecked_75 rfl (lv_at hl 1 rfl) ?_
                  refine lv_iload_n hx hb dX1_keepChecked_76 rfl (lv_at hl 2 rfl) ?_
                  have hd_83 := hh_80.iv 2 rfl
                  have hd_835 := hh_80.at 3 rfl
                  have hd_836 := hh_80.at 4 rfl
                  have hd_83o := hh_80.iv 1 rfl
                  have hh_84 := hh_80.sub (L1 := [(r0, 3, 11, .null), (el_37, 11, 1, .ref units_69), (r0, 3, 9, .ref behind_4), (r0, 3, 5, .ref sa_), (r0, 3, 6, .ref ea_), (r0, 3, 4, .int ps), (r0, 3, 10, .int pk)]) [0, 1, 2, 3, 4, 5, 6] rfl (M1 := []) [] rfl (I1 := [([(210, 0)], jQc dC dI (ca 6) behind_4 40 fq_6)]) [0] rfl
                  clear hh_80
                  refine j7_putX hx hb hown hK hh_84 hB hAp hB3 (C := RX1) (T := TX1) (N := 17) rfl (by decide) hg_r0 (i := 10) (by decide) hly_3_10 rfl hlk_72 rfl (ty := .int) (v := .int v1_5) (by decide +kernel) rfl rfl (⟨_, rfl, by omega, by omega⟩) rfl (L1 := [(r0, 3, 11, .null), (el_37, 11, 1, .ref units_69), (r0, 3, 9, .ref behind_4), (r0, 3, 5, .ref sa_), (r0, 3, 6, .ref ea_), (r0, 3, 4, .int ps)]) [0, 1, 2, 3, 4, 5] rfl rfl rfl dX1_keepChecked_77 (fun H_82 locs_82 hr_82 hh_82 => ?_)
                  clear hh_84
                  have hd_83n := jDcc.fld hd_83 hg_r0 hr_82 hd_835 hd_836 (hh_82.at 4 rfl) (hh_82.at 5 rfl)
                  have hd_83on := jOw.put hd_83o hr_82
                  have hh_85 := hh_82.addI (jDcc.ie hd_83n)
                  clear hh_82
                  have hh_86 := hh_85.addI (jOw.ie (dC := dC) (dI := dI) (G0 := G0) (k := 3) (r := r0) (H0 := s.heap) (F := [(3, 0), (3, 1), (3, 2), (3, 3), (3, 4), (3, 5), (3, 6), (3, 7), (3, 8), (3, 9), (3, 10), (3, 11), (3, 12), (3, 13), (3, 14), (3, 15), (3, 16)]) (C := RX1) (T := TX1) (N := 17) rfl (by decide) hh_85.2.2.2.2.1 (hd_83on))
                  clear hh_85
                  clear hd_83 hd_83n hd_835 hd_836 hr_82 hd_83o hd_83on
                  refine lv_iload_n hx hb dX1_keepChecked_80 rfl (lv_at hl 0 rfl) ?_
                  rw [hQ]
                  exact W.zret (v := 0) hx hb hr (jb_nz (Or.inl rfl)) (fun t ht hW => ⟨⟨0, v1_5, rfl, ⟨(Or.inl rfl), by (try dsimp only); first | omega | (refine ⟨?_, ?_, ?_, ?_⟩ <;> (first | omega | rfl | assumption | decide | exact Or.inl rfl | exact Or.inr rfl | (simp only; omega)))⟩, ⟨⟨hh_86.rt (M1 := [(r0, 3, 10, .int v1_5)]) [0] rfl ht, by rw [ht]; exact hh_86.iv 0 rfl⟩, by rw [ht]; exact hh_86.2.2.2.2.2.2.2.2.sub (L1 := [(jFdo, jDcc dC dI ca G0 (some r0) ph)]) [1] rfl⟩⟩, by rw [ht]; try exact hh_86.1.1, fun q h9 hq => by rw [ht]; try exact hh_86.1.2.1 q h9 hq⟩) hh_86.1.2.2 dX1_keepChecked_81
                · refine j7_read hx hb hown hK (C := RX1) (T := TX1) (N := 17) rfl hly_3_11 hlk_105 (hh_80.at 0 rfl) dX1_keepChecked_51 ?_
                  refine lv_ifnull hx hb dX1_keepChecked_54 ?_
                  refine lv_aload_n hx hb dX1_keepChecked_57 rfl (lv_at hl 0 rfl) ?_
                  refine lv_iload_n hx hb dX1_keepChecked_58 rfl (lv_at hl 1 rfl) ?_
                  refine lv_aload_n hx hb dX1_keepChecked_59 rfl (lv_at hl 0 rfl) ?_
                  refine j7_read hx hb hown hK (C := RX1) (T := TX1) (N := 17) rfl hly_3_11 hlk_105 (hh_80.at 0 rfl) dX1_keepChecked_60 ?_
                  refine va_calli (A0 := jA base) (H0 := s.heap) (va_runV (As := [.int v1_5, .ref checking_81]) (rest := []) ⟨hx, hb, hml, hown, hts⟩ (uX1_isSentenceE l dC dI ca base B hB hAp hB3 hB101 hB171 hB172 G0 H_70 r0 v1_5 checking_81 nchecking_81 ps) (cwV 2 hts (jgV (jWr_42 _ (List.mem_of_getElem? (i := 23) rfl)) (jWr_43 _ (List.mem_of_getElem? (i := 0) rfl)) (jWr_43 _ (List.mem_of_getElem? (i := 1) rfl)) (jWr_2 _ (List.mem_of_getElem? (i := 21) rfl)) (jWr_43 _ (List.mem_of_getElem? (i := 2) rfl))) rfl rfl rfl (by decide +kernel) ⟨by rw [← hR]; exact Nat.le_of_ble_eq_true rfl, by rw [← hR]; exact Nat.le_of_ble_eq_true rfl⟩) ⟨fun a U g mk q => by obtain ⟨q0, q1, q2, qK, q10, q11, q12, q13⟩ := q; exact ⟨q0, q1, q2, jG.calling g mk a qK, q10, q11, q12, q13⟩, hh_80.recv (C := RX1) (T := TX1) (N := 17) hB3 rfl (by decide) hg_r0 hK, fun U hU hW => ⟨rfl, hU, hh_80.2.1, hG.step hW hU hh_80.1, hg_r0, hg_checking_81, (hh_80.2.2.1.sub (L1 := [(r0, 3, 4, .int ps)]) [5] rfl), by first | omega | (refine ⟨?_, ?_⟩ <;> (first | omega | rfl | assumption | decide | exact Or.inl rfl | exact Or.inr rfl | (simp only; omega)))⟩⟩ rfl rfl hl.1 rfl (lv_room (Nat.le_of_ble_eq_true rfl)) dX1_keepChecked_63 ⟨Nat.zero_le _, Nat.zero_le _⟩) hh_80.1 (fun q _ h => h) (fun q h => h) (fun r_88 u_87 t_87 H_87 locs_87 ht_87 hvm_87 hr_88 hb_87 hz_87 hk_87 hS_87 => ?_)
                  rw [ht_87] at hb_87
                  obtain ⟨hb_871, hb_872, hb_873, hb_874, hb_875⟩ := hb_87
                  have hh_87 : jSt (dC, dI) B base G0 G0 EX1_keepCheckedE s.heap 0 0 [(r0, 3, 11, .ref checking_81), (el_37, 11, 1, .ref units_69), (r0, 3, 9, .ref behind_4), (r0, 3, 5, .ref sa_), (r0, 3, 6, .ref ea_), (r0, 3, 4, .int ps), (r0, 3, 10, .int pk)] [] [([(210, 0)], jQc dC dI (ca 6) behind_4 40 fq_6), ([(3, 0), (3, 1), (3, 2), (3, 3), (3, 4), (3, 5), (3, 6), (3, 7), (3, 8), (3, 9), (3, 10), (3, 11), (3, 12), (3, 13), (3, 14), (3, 15), (3, 16)], jOw (dC, dI) G0 3 r0 s.heap), (jFdo, jDcc dC dI ca G0 (some r0) ph)] H_87 locs_87 := ((hh_80.call hb_871 hb_872 hb_873 hb_874 hS_87 rfl (L1 := [(r0, 3, 11, .ref checking_81), (el_37, 11, 1, .ref units_69), (r0, 3, 9, .ref behind_4), (r0, 3, 5, .ref sa_), (r0, 3, 6, .ref ea_), (r0, 3, 4, .int ps), (r0, 3, 10, .int pk)]) [0, 1, 2, 3, 4, 5, 6] rfl rfl (M1 := []) [] rfl rfl (I1 := [([(210, 0)], jQc dC dI (ca 6) behind_4 40 fq_6), ([(3, 0), (3, 1), (3, 2), (3, 3), (3, 4), (3, 5), (3, 6), (3, 7), (3, 8), (3, 9), (3, 10), (3, 11), (3, 12), (3, 13), (3, 14), (3, 15), (3, 16)], jOw (dC, dI) G0 3 r0 s.heap), (jFdo, jDcc dC dI ca G0 (some r0) ph)]) [0, 1, 2] rfl rfl).more hb_875)
                  clear hh_80 ht_87 hvm_87 hz_87 hk_87 hS_87 hb_871 hb_872 hb_873 hb_874 hb_875
                  obtain ⟨hr_88b, hr_88p⟩ := hr_88
                  have hr_88' := jb_01 hr_88b
                  refine lv_if_eq (tgt := 73) hx hb dX1_keepChecked_66 (by decide) (fun c_89 => ?_) (fun c_89 => ?_)
                  · skip
                    have c_89' : r_88.toInt = 0 := jb_eq (rfl) ((by decide)) c_89
                    first | (have hr_88pq := hr_88p.resolve_left (by omega); clear hr_88p) | (have hr_88pq := hr_88p.resolve_right (by omega); clear hr_88p) | try clear hr_88p
                    refine lv_iconst (v := 0) hx hb dX1_keepChecked_73 (by decide) ?_
                    refine lv_istore_n (lv' := [(2, .int 0), (0, .ref r0), (1, .int v1_5)]) hx hb dX1_keepChecked_74 rfl hl (by decide) rfl (fun ls hl => ?_)
                    refine lv_aload_n hx hb dX1_keepChecked_75 rfl (lv_at hl 1 rfl) ?_
                    refine lv_iload_n hx hb dX1_keepChecked_76 rfl (lv_at hl 2 rfl) ?_
                    have hd_91 := hh_87.iv 2 rfl
                    have hd_915 := hh_87.at 3 rfl
                    have hd_916 := hh_87.at 4 rfl
                    have hd_91o := hh_87.iv 1 rfl
                    have hh_92 := hh_87.sub (L1 := [(r0, 3, 11, .ref checking_81), (el_37, 11, 1, .ref units_69), (r0, 3, 9, .ref behind_4), (r0, 3, 5, .ref sa_), (r0, 3, 6, .ref ea_), (r0, 3, 4, .int ps), (r0, 3, 10, .int pk)]) [0, 1, 2, 3, 4, 5, 6] rfl (M1 := []) [] rfl (I1 := [([(210, 0)], jQc dC dI (ca 6) behind_4 40 fq_6)]) [0] rfl
                    clear hh_87
                    refine j7_putX hx hb hown hK hh_92 hB hAp hB3 (C := RX1) (T := TX1) (N := 17) rfl (by decide) hg_r0 (i := 10) (by decide) hly_3_10 rfl hlk_72 rfl (ty := .int) (v := .int v1_5) (by decide +kernel) rfl rfl (⟨_, rfl, by omega, by omega⟩) rfl (L1 := [(r0, 3, 11, .ref checking_81), (el_37, 11, 1, .ref units_69), (r0, 3, 9, .ref behind_4), (r0, 3, 5, .ref sa_), (r0, 3, 6, .ref ea_), (r0, 3, 4, .int ps)]) [0, 1, 2, 3, 4, 5] rfl rfl rfl dX1_keepChecked_77 (fun H_90 locs_90 hr_90 hh_90 => ?_)
                    clear hh_92
                    have hd_91n := jDcc.fld hd_91 hg_r0 hr_90 hd_915 hd_916 (hh_90.at 4 rfl) (hh_90.at 5 rfl)
                    have hd_91on := jOw.put hd_91o hr_90
                    have hh_93 := hh_90.addI (jDcc.ie hd_91n)
                    clear hh_90
                    have hh_94 := hh_93.addI (jOw.ie (dC := dC) (dI := dI) (G0 := G0) (k := 3) (r := r0) (H0 := s.heap) (F := [(3, 0), (3, 1), (3, 2), (3, 3), (3, 4), (3, 5), (3, 6), (3, 7), (3, 8), (3, 9), (3, 10), (3, 11), (3, 12), (3, 13), (3, 14), (3, 15), (3, 16)]) (C := RX1) (T := TX1) (N := 17) rfl (by decide) hh_93.2.2.2.2.1 (hd_91on))
                    clear hh_93
                    clear hd_91 hd_91n hd_915 hd_916 hr_90 hd_91o hd_91on
                    refine lv_iload_n hx hb dX1_keepChecked_80 rfl (lv_at hl 0 rfl) ?_
                    rw [hQ]
                    exact W.zret (v := 0) hx hb hr (jb_nz (Or.inl rfl)) (fun t ht hW => ⟨⟨0, v1_5, rfl, ⟨(Or.inl rfl), by (try dsimp only); first | omega | (refine ⟨?_, ?_, ?_, ?_⟩ <;> (first | omega | rfl | assumption | decide | exact Or.inl rfl | exact Or.inr rfl | (simp only; omega)))⟩, ⟨⟨hh_94.rt (M1 := [(r0, 3, 10, .int v1_5)]) [0] rfl ht, by rw [ht]; exact hh_94.iv 0 rfl⟩, by rw [ht]; exact hh_94.2.2.2.2.2.2.2.2.sub (L1 := [(jFdo, jDcc dC dI ca G0 (some r0) ph)]) [1] rfl⟩⟩, by rw [ht]; try exact hh_94.1.1, fun q h9 hq => by rw [ht]; try exact hh_94.1.2.1 q h9 hq⟩) hh_94.1.2.2 dX1_keepChecked_81
                  · skip
                    have c_89' : r_88.toInt ≠ 0 := jb_eq_n (rfl) ((by decide)) c_89
                    first | (have hr_88pq := hr_88p.resolve_left (by omega); clear hr_88p) | (have hr_88pq := hr_88p.resolve_right (by omega); clear hr_88p) | try clear hr_88p
                    refine lv_iconst (v := 1) hx hb dX1_keepChecked_69 (by decide) ?_
                    refine lv_goto (tgt := 74) hx hb dX1_keepChecked_70 (by decide) ?_
                    refine lv_istore_n (lv' := [(2, .int 1), (0, .ref r0), (1, .int v1_5)]) hx hb dX1_keepChecked_74 rfl hl (by decide) rfl (fun ls hl => ?_)
                    refine lv_aload_n hx hb dX1_keepChecked_75 rfl (lv_at hl 1 rfl) ?_
                    refine lv_iload_n hx hb dX1_keepChecked_76 rfl (lv_at hl 2 rfl) ?_
                    have hd_96 := hh_87.iv 2 rfl
                    have hd_965 := hh_87.at 3 rfl
                    have hd_966 := hh_87.at 4 rfl
                    have hd_96o := hh_87.iv 1 rfl
                    have hh_97 := hh_87.sub (L1 := [(r0, 3, 11, .ref checking_81), (el_37, 11, 1, .ref units_69), (r0, 3, 9, .ref behind_4), (r0, 3, 5, .ref sa_), (r0, 3, 6, .ref ea_), (r0, 3, 4, .int ps), (r0, 3, 10, .int pk)]) [0, 1, 2, 3, 4, 5, 6] rfl (M1 := []) [] rfl (I1 := [([(210, 0)], jQc dC dI (ca 6) behind_4 40 fq_6)]) [0] rfl
                    clear hh_87
                    refine j7_putX hx hb hown hK hh_97 hB hAp hB3 (C := RX1) (T := TX1) (N := 17) rfl (by decide) hg_r0 (i := 10) (by decide) hly_3_10 rfl hlk_72 rfl (ty := .int) (v := .int v1_5) (by decide +kernel) rfl rfl (⟨_, rfl, by omega, by omega⟩) rfl (L1 := [(r0, 3, 11, .ref checking_81), (el_37, 11, 1, .ref units_69), (r0, 3, 9, .ref behind_4), (r0, 3, 5, .ref sa_), (r0, 3, 6, .ref ea_), (r0, 3, 4, .int ps)]) [0, 1, 2, 3, 4, 5] rfl rfl rfl dX1_keepChecked_77 (fun H_95 locs_95 hr_95 hh_95 => ?_)
                    clear hh_97
                    have hd_96n := jDcc.fld hd_96 hg_r0 hr_95 hd_965 hd_966 (hh_95.at 4 rfl) (hh_95.at 5 rfl)
                    have hd_96on := jOw.put hd_96o hr_95
                    have hh_98 := hh_95.addI (jDcc.ie hd_96n)
                    clear hh_95
                    have hh_99 := hh_98.addI (jOw.ie (dC := dC) (dI := dI) (G0 := G0) (k := 3) (r := r0) (H0 := s.heap) (F := [(3, 0), (3, 1), (3, 2), (3, 3), (3, 4), (3, 5), (3, 6), (3, 7), (3, 8), (3, 9), (3, 10), (3, 11), (3, 12), (3, 13), (3, 14), (3, 15), (3, 16)]) (C := RX1) (T := TX1) (N := 17) rfl (by decide) hh_98.2.2.2.2.1 (hd_96on))
                    clear hh_98
                    clear hd_96 hd_96n hd_965 hd_966 hr_95 hd_96o hd_96on
                    refine lv_iload_n hx hb dX1_keepChecked_80 rfl (lv_at hl 0 rfl) ?_
                    rw [hQ]
                    exact W.zret (v := 1) hx hb hr (jb_nz (Or.inr rfl)) (fun t ht hW => ⟨⟨1, v1_5, rfl, ⟨(Or.inr rfl), by (try dsimp only); first | omega | (refine ⟨?_, ?_, ?_, ?_⟩ <;> (first | omega | rfl | assumption | decide | exact Or.inl rfl | exact Or.inr rfl | (simp only; omega)))⟩, ⟨⟨hh_99.rt (M1 := [(r0, 3, 10, .int v1_5)]) [0] rfl ht, by rw [ht]; exact hh_99.iv 0 rfl⟩, by rw [ht]; exact hh_99.2.2.2.2.2.2.2.2.sub (L1 := [(jFdo, jDcc dC dI ca G0 (some r0) ph)]) [1] rfl⟩⟩, by rw [ht]; try exact hh_99.1.1, fun q h9 hq => by rw [ht]; try exact hh_99.1.2.1 q h9 hq⟩) hh_99.1.2.2 dX1_keepChecked_81
            · skip
              have c_72' : r_71.toInt ≠ 0 := jb_eq_n (rfl) ((by decide)) c_72
              first | (have hr_71pq := hr_71p.resolve_left (by omega); clear hr_71p) | (have hr_71pq := hr_71p.resolve_right (by omega); clear hr_71p) | try clear hr_71p
              obtain ⟨z_100, ez_100⟩ : ∃ y : Int32, y = v1_5 + 1 := ⟨_, rfl⟩
              refine lv_iinc (v := z_100) (lv' := [(1, .int z_100), (0, .ref r0)]) hx hb dX1_keepChecked_36 hl (k := 1) rfl (by rw [ez_100]; rfl) (by decide) rfl (fun ls hl => ?_)
              have hz_100 : z_100.toInt = v1_5.toInt + 1 := by rw [ez_100]; exact jb_iadd2 (rfl) (by decide) (by omega)
              refine lv_goto (tgt := 2) hx hb dX1_keepChecked_39 (by decide) ?_
              exact L2 z_100 _ _ (hh_70.sub (L1 := [(r0, 3, 9, .ref behind_4), (r0, 3, 5, .ref sa_), (r0, 3, 6, .ref ea_), (r0, 3, 4, .int ps), (r0, 3, 10, .int pk)]) [1, 2, 3, 4, 5] rfl (M1 := []) [] rfl (I1 := [([(3, 0), (3, 1), (3, 2), (3, 3), (3, 4), (3, 5), (3, 6), (3, 7), (3, 8), (3, 9), (3, 10), (3, 11), (3, 12), (3, 13), (3, 14), (3, 15), (3, 16)], jOw (dC, dI) G0 3 r0 s.heap), (jFdo, jDcc dC dI ca G0 (some r0) ph)]) [1, 2] rfl) (by first | omega | (refine ⟨?_, ?_, ?_⟩ <;> (first | omega | rfl | assumption | decide | exact Or.inl rfl | exact Or.inr rfl | (simp only; omega)))) (by omega) _ (lv_sub hl [1, 0] rfl)
  exact L2 (pk.toInt - (0 : Int32).toInt : Int).toNat.succ 0 _ _ hh_3 (by first | omega | (refine ⟨?_, ?_, ?_⟩ <;> (first | omega | rfl | assumption | decide | exact Or.inl rfl | exact Or.inr rfl | (simp only; omega)))) (by omega) _ (lv_sub hl [1, 0] rfl)
set_option maxHeartbeats 4000000 in
set_option maxRecDepth 20000 in
theorem uX11_releaseE (l : Launch) (dC : Nat → ClassId) (dI : Nat → Nat → Nat) (ca : Nat → ClassId) (base : Nat) (B : jF) (hB : jBok B) (hAp : jAp (dC, dI)) (hB3 : ∀ n G a H, B 3 n G a H ↔ jOb (dC, dI) 3 17 (F3 n G) a H) (hB11 : ∀ n G a H, B 11 n G a H ↔ jOb (dC, dI) 11 9 (F11 n G) a H) (hB13 : ∀ n G a H, B 13 n G a H ↔ jOb (dC, dI) 13 19 (F13 n G) a H) (hB101 : ∀ n G a H, B 101 n G a H ↔ jAr (dC, dI) (ca 1) (fun j z => True) n a H) (hB212 : ∀ n G a H, B 212 n G a H ↔ jAq (dC, dI) (ca 5) (jQn 3 0) n G a H) (G0 : jT) (H0 : Heap) (r0 : Nat) (r1 : Nat) (sa_ : Nat) (ea_ : Nat) (ph : Nat) : Met l yX11_release (jw yX11_release cX11_release 3 none) ({ frames := 0, cells := 0, slots := 0, locals := 0 }) (va_Pc [.ref r0, .ref r1] (fun U => U.heap = H0 ∧ jX B base G0 [] H0 ∧ jG dC dI ca base U ∧ jK2 dC dI ca U ∧ G0 r0 = some (13, 0) ∧ G0 r1 = some (3, 0) ∧ G0 sa_ = some (171, 40) ∧ G0 ea_ = some (172, 40) ∧ jP (dC, dI) G0 H0 [(r1, 3, 5, .ref sa_), (r1, 3, 6, .ref ea_)] ∧ jIs (dC, dI) G0 H0 [(jFdo, jDcc dC dI ca G0 (some r1) ph)] ∧ True)) (va_Qv (S := Unit) (fun u => True) (fun u t => (jRt (dC, dI) B base G0 EX11_releaseE H0 [(r1, 3, 11, .null)] t.heap) ∧ jIs (dC, dI) G0 t.heap [(jFdo, jDcc dC dI ca G0 (some r1) ph)]) (jA base)) 0 0 (jA base) := by
  refine Met.ofW (cc := cX11_release) (maxL := 3) (ret := none) (by decide) rfl ?_
  intro p e s m args below meth c s₁ Bd hml hv
  obtain ⟨rfl, hH0, hX, hG, hK2, hg_r0, hg_r1, hg_sa_, hg_ea_, hP0, hI0, hp0⟩ := hv
  have hK := hG.1
  have hx := Bd.exec
  have hb := Bd.bytes
  have hr := Bd.returns
  have hts := atoms_spec (ws := (jw yX11_release cX11_release 3 none)) Bd.pre
  have htw : ∀ w ∈ jWl, w.before _ s = true := fun w h => hts w (List.mem_cons_of_mem _ h)
  have hown : s.vm.findClass RX11 = some m.cls := findClass_of_methodNamed Bd.named
  have hlocks := Bd.notSynchronized
  obtain ⟨Q, hQ⟩ : ∃ Q, Q = MQ below (va_Qv (S := Unit) (fun u => True) (fun u t => (jRt (dC, dI) B base G0 EX11_releaseE H0 [(r1, 3, 11, .null)] t.heap) ∧ jIs (dC, dI) G0 t.heap [(jFdo, jDcc dC dI ca G0 (some r1) ph)]) (jA base)) ([.ref r0, .ref r1] : List Value).toArray s 0 0 (jA base) := ⟨_, rfl⟩
  rw [← hQ]
  have hl := lv_entry ([.ref r0, .ref r1]) (n := 3) (Nat.le_of_ble_eq_true rfl)
  rw [lg_entry_eq]
  generalize (lg_sl ([.ref r0, .ref r1]) ++ List.replicate (3 - (lg_sl ([.ref r0, .ref r1])).length) Slot.unset).toArray = ls at hl ⊢
  have hl : lv_has ls 3 [(0, .ref r0), (1, .ref r1)] := hl
  generalize hR : (headSpec (jw yX11_release cX11_release 3 none) ({ frames := 0, cells := 0, slots := 0, locals := 0 })).room = R
  subst hH0
  have hh : jSt (dC, dI) B base G0 G0 EX11_releaseE s.heap 0 0 [(r1, 3, 5, .ref sa_), (r1, 3, 6, .ref ea_)] [] [(jFdo, jDcc dC dI ca G0 (some r1) ph)] s.heap [] := jSt.start hX hP0 jMc.nil hI0
  clear hX hP0
  have hk0 : (0 : Int32).toInt = 0 := by decide
  have hk1 : (1 : Int32).toInt = 1 := by decide
  have hk2 : (2 : Int32).toInt = 2 := by decide
  have hly_3_11 := htw (u_lay RX1 TX1 11) (jWc_wsX10 _ (u_in_lay (by decide)))
  have hly_3_12 := htw (u_lay RX1 TX1 12) (jWc_wsX10 _ (u_in_lay (by decide)))
  have hly_3_13 := htw (u_lay RX1 TX1 13) (jWc_wsX10 _ (u_in_lay (by decide)))
  have hly_13_10 := htw (u_lay RX11 TX11 10) (jWc_wsX110 _ (u_in_lay (by decide)))
  have hlk_567 := (htw (.fieldLink RX11 567 "ProofServer$Document" "checking" "[I") (jWr_43 _ (List.mem_of_getElem? (i := 7) rfl)))
  have hlk_580 := (htw (.fieldLink RX11 580 "ProofServer$Document" "found" "LProofServer$State;") (jWr_43 _ (List.mem_of_getElem? (i := 8) rfl)))
  have hlk_577 := (htw (.fieldLink RX11 577 "ProofServer$Document" "left" "I") (jWr_43 _ (List.mem_of_getElem? (i := 9) rfl)))
  have hlk_73 := (htw (.fieldLink RX11 73 "ProofServer" "hands" "[LProofServer$Document;") (jWr_2 _ (List.mem_of_getElem? (i := 18) rfl)))
  refine lv_aload_n hx hb dX11_release_0 rfl (lv_at hl 1 rfl) ?_
  refine lv_null hx hb dX11_release_1 ?_
  have hd_2 := hh.iv 0 rfl
  have hd_25 := hh.at 0 rfl
  have hd_26 := hh.at 1 rfl
  have hh_3 := hh.sub (L1 := [(r1, 3, 5, .ref sa_), (r1, 3, 6, .ref ea_)]) [0, 1] rfl (M1 := []) [] rfl (I1 := []) [] rfl
  clear hh
  refine j7_putX hx hb hown hK hh_3 hB hAp hB3 (C := RX1) (T := TX1) (N := 17) rfl (by decide) hg_r1 (i := 11) (by decide) hly_3_11 rfl hlk_567 rfl (ty := (.array .int)) (v := .null) (by decide +kernel) rfl rfl (Or.inl rfl) rfl (L1 := [(r1, 3, 5, .ref sa_), (r1, 3, 6, .ref ea_)]) [0, 1] rfl rfl rfl dX11_release_2 (fun H_1 locs_1 hr_1 hh_1 => ?_)
  clear hh_3
  have hd_2n := jDcc.fld hd_2 hg_r1 hr_1 hd_25 hd_26 (hh_1.at 1 rfl) (hh_1.at 2 rfl)
  have hh_4 := hh_1.addI (jDcc.ie hd_2n)
  clear hh_1
  clear hd_2 hd_2n hd_25 hd_26 hr_1
  refine lv_aload_n hx hb dX11_release_5 rfl (lv_at hl 1 rfl) ?_
  refine lv_null hx hb dX11_release_6 ?_
  refine j7_put hx hb hown hK hh_4 hB hAp hB3 (C := RX1) (T := TX1) (N := 17) rfl (by decide) hg_r1 (i := 12) (by decide) hly_3_12 rfl hlk_580 rfl (ty := (.object "ProofServer$State")) (v := .null) (by decide +kernel) rfl rfl (Or.inl rfl) rfl (L1 := [(r1, 3, 11, .null), (r1, 3, 5, .ref sa_), (r1, 3, 6, .ref ea_)]) [0, 1, 2] rfl rfl rfl dX11_release_7 (fun H_5 locs_5 hh_5 => ?_)
  clear hh_4
  refine lv_aload_n hx hb dX11_release_10 rfl (lv_at hl 1 rfl) ?_
  refine lv_iconst (v := 0) hx hb dX11_release_11 (by decide) ?_
  refine j7_put hx hb hown hK hh_5 hB hAp hB3 (C := RX1) (T := TX1) (N := 17) rfl (by decide) hg_r1 (i := 13) (by decide) hly_3_13 rfl hlk_577 rfl (ty := .int) (v := .int 0) (by decide +kernel) rfl rfl (⟨_, rfl⟩) rfl (L1 := [(r1, 3, 12, .null), (r1, 3, 11, .null), (r1, 3, 5, .ref sa_), (r1, 3, 6, .ref ea_)]) [0, 1, 2, 3] rfl rfl rfl dX11_release_12 (fun H_6 locs_6 hh_6 => ?_)
  clear hh_5
  refine lv_iconst (v := 0) hx hb dX11_release_15 (by decide) ?_
  refine lv_istore_n (lv' := [(2, .int 0), (0, .ref r0), (1, .ref r1)]) hx hb dX11_release_16 rfl hl (by decide) rfl (fun ls hl => ?_)
  have L17 : ∀ (N : Nat) (v2_7 : Int32) (H_7 : Heap) (locs_7 : List Loc), jSt (dC, dI) B base G0 G0 EX11_releaseE s.heap 0 0 [(r1, 3, 13, .int 0), (r1, 3, 12, .null), (r1, 3, 11, .null), (r1, 3, 5, .ref sa_), (r1, 3, 6, .ref ea_)] [] [(jFdo, jDcc dC dI ca G0 (some r1) ph)] H_7 locs_7 → (0 ≤ v2_7.toInt ∧ v2_7.toInt ≤ 2) → (2 - v2_7.toInt : Int) < N → ∀ ls : Array Slot, lv_has ls 3 [(0, .ref r0), (1, .ref r1), (2, .int v2_7)] → W p l e R s m ([.ref r0, .ref r1] : List Value).toArray below meth c H_7 locs_7 0 0 Q (F0 m 17 ls []) := by
    intro N
    induction N with
    | zero => intro v2_7 H_7 locs_7 hh_7  hi_7 hm; exact absurd hm (by omega)
    | succ N L17 =>
      intro v2_7 H_7 locs_7 hh_7  hi_7 hm_7 ls hl
      obtain ⟨hi_7_0, hi_7_1⟩ := hi_7
      refine lv_iload_n hx hb dX11_release_17 rfl (lv_at hl 2 rfl) ?_
      refine lv_iconst (v := 2) hx hb dX11_release_18 (by decide) ?_
      refine lv_icmp_ge (tgt := 45) hx hb dX11_release_19 (by decide) (fun c_8 => ?_) (fun c_8 => ?_)
      · skip
        have c_8' : v2_7.toInt ≥ 2 := jb_ge (rfl) ((by decide)) c_8
        rw [hQ]
        exact W.vret hx hb hr (fun t ht hW => ⟨⟨(), rfl, trivial, ⟨hh_7.rt (M1 := [(r1, 3, 11, .null)]) [2] rfl ht, by rw [ht]; exact hh_7.2.2.2.2.2.2.2.2.sub (L1 := [(jFdo, jDcc dC dI ca G0 (some r1) ph)]) [0] rfl⟩⟩, by rw [ht]; try exact hh_7.1.1, fun q h9 hq => by rw [ht]; try exact hh_7.1.2.1 q h9 hq⟩) hh_7.1.2.2 dX11_release_45
      · skip
        have c_8' : v2_7.toInt < 2 := jb_ge_n (rfl) ((by decide)) c_8
        refine lv_aload_n hx hb dX11_release_22 rfl (lv_at hl 0 rfl) ?_
        obtain ⟨v_9, hv_9, hh_10⟩ := hh_7.pin (C := RX11) (T := TX11) (N := 19) hB13 rfl (by decide) hg_r0 (i := 10) (by decide) rfl
        clear hh_7
        obtain ⟨hands_11, rfl, hg_hands_11⟩ := hv_9
        refine j7_read hx hb hown hK (C := RX11) (T := TX11) (N := 19) rfl hly_13_10 hlk_73 (hh_10.at 0 rfl) dX11_release_23 ?_
        refine lv_iload_n hx hb dX11_release_26 rfl (lv_at hl 2 rfl) ?_
        refine j7_qald hx hb hK2 hh_10 hB212 1 rfl (by decide) hg_hands_11 (x := v2_7.toInt) (rfl) (by omega) dX11_release_27 (fun o_12 ho_12 => ?_)
        rcases ho_12 with rfl | ⟨el_13, rfl, hg_el_13⟩
        · simp only [va_rf]
          refine lv_aload_n hx hb dX11_release_28 rfl (lv_at hl 1 rfl) ?_
          refine lv_acmp_ne (rx := none) (ry := (some r1)) (tgt := 39) hx hb dX11_release_29 (by decide) (fun c_14 => ?_) (fun c_14 => ?_)
          · skip
            obtain ⟨z_15, ez_15⟩ : ∃ y : Int32, y = v2_7 + 1 := ⟨_, rfl⟩
            refine lv_iinc (v := z_15) (lv' := [(2, .int z_15), (0, .ref r0), (1, .ref r1)]) hx hb dX11_release_39 hl (k := 2) rfl (by rw [ez_15]; rfl) (by decide) rfl (fun ls hl => ?_)
            have hz_15 : z_15.toInt = v2_7.toInt + 1 := by rw [ez_15]; exact jb_iadd2 (rfl) (by decide) (by omega)
            refine lv_goto (tgt := 17) hx hb dX11_release_42 (by decide) ?_
            exact L17 z_15 _ _ (hh_10.sub (L1 := [(r1, 3, 13, .int 0), (r1, 3, 12, .null), (r1, 3, 11, .null), (r1, 3, 5, .ref sa_), (r1, 3, 6, .ref ea_)]) [1, 2, 3, 4, 5] rfl (M1 := []) [] rfl (I1 := [(jFdo, jDcc dC dI ca G0 (some r1) ph)]) [0] rfl) (by first | omega | (refine ⟨?_, ?_⟩ <;> (first | omega | rfl | assumption | decide | exact Or.inl rfl | exact Or.inr rfl | (simp only; omega)))) (by omega) _ (lv_sub hl [1, 2, 0] rfl)
          · skip
            cases c_14
        · simp only [va_rf]
          refine lv_aload_n hx hb dX11_release_28 rfl (lv_at hl 1 rfl) ?_
          refine lv_acmp_ne (rx := (some el_13)) (ry := (some r1)) (tgt := 39) hx hb dX11_release_29 (by decide) (fun c_16 => ?_) (fun c_16 => ?_)
          · skip
            obtain ⟨z_17, ez_17⟩ : ∃ y : Int32, y = v2_7 + 1 := ⟨_, rfl⟩
            refine lv_iinc (v := z_17) (lv' := [(2, .int z_17), (0, .ref r0), (1, .ref r1)]) hx hb dX11_release_39 hl (k := 2) rfl (by rw [ez_17]; rfl) (by decide) rfl (fun ls hl => ?_)
            have hz_17 : z_17.toInt = v2_7.toInt + 1 := by rw [ez_17]; exact jb_iadd2 (rfl) (by decide) (by omega)
            refine lv_goto (tgt := 17) hx hb dX11_release_42 (by decide) ?_
            exact L17 z_17 _ _ (hh_10.sub (L1 := [(r1, 3, 13, .int 0), (r1, 3, 12, .null), (r1, 3, 11, .null), (r1, 3, 5, .ref sa_), (r1, 3, 6, .ref ea_)]) [1, 2, 3, 4, 5] rfl (M1 := []) [] rfl (I1 := [(jFdo, jDcc dC dI ca G0 (some r1) ph)]) [0] rfl) (by first | omega | (refine ⟨?_, ?_⟩ <;> (first | omega | rfl | assumption | decide | exact Or.inl rfl | exact Or.inr rfl | (simp only; omega)))) (by omega) _ (lv_sub hl [1, 2, 0] rfl)
          · skip
            refine lv_aload_n hx hb dX11_release_32 rfl (lv_at hl 0 rfl) ?_
            refine j7_read hx hb hown hK (C := RX11) (T := TX11) (N := 19) rfl hly_13_10 hlk_73 (hh_10.at 0 rfl) dX11_release_33 ?_
            refine lv_iload_n hx hb dX11_release_36 rfl (lv_at hl 2 rfl) ?_
            refine lv_null hx hb dX11_release_37 ?_
            refine j7_qastN hx hb hK2 hh_10 hB hB212 1 rfl (by decide) (by decide) rfl rfl rfl hg_hands_11 (x := v2_7.toInt) (rfl) (by omega) (Or.inl rfl) dX11_release_38 (fun H_18 locs_18 hh_18 => ?_)
            clear hh_10
            obtain ⟨z_19, ez_19⟩ : ∃ y : Int32, y = v2_7 + 1 := ⟨_, rfl⟩
            refine lv_iinc (v := z_19) (lv' := [(2, .int z_19), (0, .ref r0), (1, .ref r1)]) hx hb dX11_release_39 hl (k := 2) rfl (by rw [ez_19]; rfl) (by decide) rfl (fun ls hl => ?_)
            have hz_19 : z_19.toInt = v2_7.toInt + 1 := by rw [ez_19]; exact jb_iadd2 (rfl) (by decide) (by omega)
            refine lv_goto (tgt := 17) hx hb dX11_release_42 (by decide) ?_
            exact L17 z_19 _ _ (hh_18.sub (L1 := [(r1, 3, 13, .int 0), (r1, 3, 12, .null), (r1, 3, 11, .null), (r1, 3, 5, .ref sa_), (r1, 3, 6, .ref ea_)]) [1, 2, 3, 4, 5] rfl (M1 := []) [] rfl (I1 := [(jFdo, jDcc dC dI ca G0 (some r1) ph)]) [0] rfl) (by first | omega | (refine ⟨?_, ?_⟩ <;> (first | omega | rfl | assumption | decide | exact Or.inl rfl | exact Or.inr rfl | (simp only; omega)))) (by omega) _ (lv_sub hl [1, 2, 0] rfl)
  exact L17 (2 - (0 : Int32).toInt : Int).toNat.succ 0 _ _ hh_6 (by first | omega | (refine ⟨?_, ?_⟩ <;> (first | omega | rfl | assumption | decide | exact Or.inl rfl | exact Or.inr rfl | (simp only; omega)))) (by omega) _ (lv_sub hl [1, 2, 0] rfl)
end
section
theorem dX11_makeChange_0 : decode cX11_makeChange 0 = .ok (.aload_n 0, 1) := by decide +kernel
theorem dX11_makeChange_1 : decode cX11_makeChange 1 = .ok (.getfield 28, 3) := by decide +kernel
theorem dX11_makeChange_4 : decode cX11_makeChange 4 = .ok (.iload_n 1, 1) := by decide +kernel
theorem dX11_makeChange_5 : decode cX11_makeChange 5 = .ok (.ldc_w 355, 3) := by decide +kernel
theorem dX11_makeChange_8 : decode cX11_makeChange 8 = .ok (.invokevirtual 260, 3) := by decide +kernel
theorem dX11_makeChange_11 : decode cX11_makeChange 11 = .ok (.istore_n 2, 1) := by decide +kernel
theorem dX11_makeChange_12 : decode cX11_makeChange 12 = .ok (.aload_n 0, 1) := by decide +kernel
theorem dX11_makeChange_13 : decode cX11_makeChange 13 = .ok (.getfield 28, 3) := by decide +kernel
theorem dX11_makeChange_16 : decode cX11_makeChange 16 = .ok (.iload_n 1, 1) := by decide +kernel
theorem dX11_makeChange_17 : decode cX11_makeChange 17 = .ok (.ldc_w 406, 3) := by decide +kernel
theorem dX11_makeChange_20 : decode cX11_makeChange 20 = .ok (.invokevirtual 260, 3) := by decide +kernel
theorem dX11_makeChange_23 : decode cX11_makeChange 23 = .ok (.istore_n 3, 1) := by decide +kernel
theorem dX11_makeChange_24 : decode cX11_makeChange 24 = .ok (.aload_n 0, 1) := by decide +kernel
theorem dX11_makeChange_25 : decode cX11_makeChange 25 = .ok (.getfield 28, 3) := by decide +kernel
theorem dX11_makeChange_28 : decode cX11_makeChange 28 = .ok (.iload_n 2, 1) := by decide +kernel
theorem dX11_makeChange_29 : decode cX11_makeChange 29 = .ok (.invokevirtual 283, 3) := by decide +kernel
theorem dX11_makeChange_32 : decode cX11_makeChange 32 = .ok (.iconst 3, 1) := by decide +kernel
theorem dX11_makeChange_33 : decode cX11_makeChange 33 = .ok (.if_icmp .eq 5, 3) := by decide +kernel
theorem dX11_makeChange_36 : decode cX11_makeChange 36 = .ok (.iconst 0, 1) := by decide +kernel
theorem dX11_makeChange_37 : decode cX11_makeChange 37 = .ok (.ireturn, 1) := by decide +kernel
theorem dX11_makeChange_38 : decode cX11_makeChange 38 = .ok (.iload_n 3, 1) := by decide +kernel
theorem dX11_makeChange_39 : decode cX11_makeChange 39 = .ok (.ifCond .ge 24, 3) := by decide +kernel
theorem dX11_makeChange_42 : decode cX11_makeChange 42 = .ok (.aload_n 0, 1) := by decide +kernel
theorem dX11_makeChange_43 : decode cX11_makeChange 43 = .ok (.getfield 82, 3) := by decide +kernel
theorem dX11_makeChange_46 : decode cX11_makeChange 46 = .ok (.iconst 0, 1) := by decide +kernel
theorem dX11_makeChange_47 : decode cX11_makeChange 47 = .ok (.aload_n 0, 1) := by decide +kernel
theorem dX11_makeChange_48 : decode cX11_makeChange 48 = .ok (.getfield 82, 3) := by decide +kernel
theorem dX11_makeChange_51 : decode cX11_makeChange 51 = .ok (.getfield 165, 3) := by decide +kernel
theorem dX11_makeChange_54 : decode cX11_makeChange 54 = .ok (.aload_n 0, 1) := by decide +kernel
theorem dX11_makeChange_55 : decode cX11_makeChange 55 = .ok (.getfield 28, 3) := by decide +kernel
theorem dX11_makeChange_58 : decode cX11_makeChange 58 = .ok (.iload_n 2, 1) := by decide +kernel
theorem dX11_makeChange_59 : decode cX11_makeChange 59 = .ok (.invokevirtual 370, 3) := by decide +kernel
theorem dX11_makeChange_62 : decode cX11_makeChange 62 = .ok (.ireturn, 1) := by decide +kernel
theorem dX11_makeChange_63 : decode cX11_makeChange 63 = .ok (.aload_n 0, 1) := by decide +kernel
theorem dX11_makeChange_64 : decode cX11_makeChange 64 = .ok (.aload_n 0, 1) := by decide +kernel
theorem dX11_makeChange_65 : decode cX11_makeChange 65 = .ok (.getfield 28, 3) := by decide +kernel
theorem dX11_makeChange_68 : decode cX11_makeChange 68 = .ok (.iload_n 3, 1) := by decide +kernel
theorem dX11_makeChange_69 : decode cX11_makeChange 69 = .ok (.ldc_w 408, 3) := by decide +kernel
theorem dX11_makeChange_72 : decode cX11_makeChange 72 = .ok (.invokevirtual 260, 3) := by decide +kernel
theorem dX11_makeChange_75 : decode cX11_makeChange 75 = .ok (.aload_n 0, 1) := by decide +kernel
theorem dX11_makeChange_76 : decode cX11_makeChange 76 = .ok (.getfield 82, 3) := by decide +kernel
theorem dX11_makeChange_79 : decode cX11_makeChange 79 = .ok (.invokevirtual 409, 3) := by decide +kernel
theorem dX11_makeChange_82 : decode cX11_makeChange 82 = .ok (.istore 4, 2) := by decide +kernel
theorem dX11_makeChange_84 : decode cX11_makeChange 84 = .ok (.aload_n 0, 1) := by decide +kernel
theorem dX11_makeChange_85 : decode cX11_makeChange 85 = .ok (.aload_n 0, 1) := by decide +kernel
theorem dX11_makeChange_86 : decode cX11_makeChange 86 = .ok (.getfield 28, 3) := by decide +kernel
theorem dX11_makeChange_89 : decode cX11_makeChange 89 = .ok (.iload_n 3, 1) := by decide +kernel
theorem dX11_makeChange_90 : decode cX11_makeChange 90 = .ok (.ldc_w 413, 3) := by decide +kernel
theorem dX11_makeChange_93 : decode cX11_makeChange 93 = .ok (.invokevirtual 260, 3) := by decide +kernel
theorem dX11_makeChange_96 : decode cX11_makeChange 96 = .ok (.aload_n 0, 1) := by decide +kernel
theorem dX11_makeChange_97 : decode cX11_makeChange 97 = .ok (.getfield 82, 3) := by decide +kernel
theorem dX11_makeChange_100 : decode cX11_makeChange 100 = .ok (.invokevirtual 409, 3) := by decide +kernel
theorem dX11_makeChange_103 : decode cX11_makeChange 103 = .ok (.istore 5, 2) := by decide +kernel
theorem dX11_makeChange_105 : decode cX11_makeChange 105 = .ok (.iload 4, 2) := by decide +kernel
theorem dX11_makeChange_107 : decode cX11_makeChange 107 = .ok (.ifCond .lt 33, 3) := by decide +kernel
theorem dX11_makeChange_110 : decode cX11_makeChange 110 = .ok (.iload 5, 2) := by decide +kernel
theorem dX11_makeChange_112 : decode cX11_makeChange 112 = .ok (.iload 4, 2) := by decide +kernel
theorem dX11_makeChange_114 : decode cX11_makeChange 114 = .ok (.if_icmp .lt 26, 3) := by decide +kernel
theorem dX11_makeChange_117 : decode cX11_makeChange 117 = .ok (.aload_n 0, 1) := by decide +kernel
theorem dX11_makeChange_118 : decode cX11_makeChange 118 = .ok (.getfield 82, 3) := by decide +kernel
theorem dX11_makeChange_121 : decode cX11_makeChange 121 = .ok (.iload 4, 2) := by decide +kernel
theorem dX11_makeChange_123 : decode cX11_makeChange 123 = .ok (.iload 5, 2) := by decide +kernel
theorem dX11_makeChange_125 : decode cX11_makeChange 125 = .ok (.aload_n 0, 1) := by decide +kernel
theorem dX11_makeChange_126 : decode cX11_makeChange 126 = .ok (.getfield 28, 3) := by decide +kernel
theorem dX11_makeChange_129 : decode cX11_makeChange 129 = .ok (.iload_n 2, 1) := by decide +kernel
theorem dX11_makeChange_130 : decode cX11_makeChange 130 = .ok (.invokevirtual 370, 3) := by decide +kernel
theorem dX11_makeChange_133 : decode cX11_makeChange 133 = .ok (.ifCond .eq 7, 3) := by decide +kernel
theorem dX11_makeChange_136 : decode cX11_makeChange 136 = .ok (.iconst 1, 1) := by decide +kernel
theorem dX11_makeChange_137 : decode cX11_makeChange 137 = .ok (.goto 4, 3) := by decide +kernel
theorem dX11_makeChange_140 : decode cX11_makeChange 140 = .ok (.iconst 0, 1) := by decide +kernel
theorem dX11_makeChange_141 : decode cX11_makeChange 141 = .ok (.ireturn, 1) := by decide +kernel
def EX11_placeToldE : List (Nat × Nat) := []
def EX11_makeChange : List (Nat × Nat) := [(3, 3), (101, 0)]
set_option maxHeartbeats 4000000 in
set_option maxRecDepth 20000 in
theorem uX11_placeToldE (l : Launch) (dC : Nat → ClassId) (dI : Nat → Nat → Nat) (ca : Nat → ClassId) (base : Nat) (B : jF) (hB : jBok B) (hAp : jAp (dC, dI)) (hB3 : ∀ n G a H, B 3 n G a H ↔ jOb (dC, dI) 3 17 (F3 n G) a H) (hB6 : ∀ n G a H, B 6 n G a H ↔ jOb (dC, dI) 6 12 (F6 n G) a H) (hB13 : ∀ n G a H, B 13 n G a H ↔ jOb (dC, dI) 13 19 (F13 n G) a H) (hB101 : ∀ n G a H, B 101 n G a H ↔ jAr (dC, dI) (ca 1) (fun j z => True) n a H) (hB140 : ∀ n G a H, B 140 n G a H ↔ jAr (dC, dI) (ca 1) (fun j z => True) n a H) (hB141 : ∀ n G a H, B 141 n G a H ↔ jAr (dC, dI) (ca 1) (fun j z => True) n a H) (hB142 : ∀ n G a H, B 142 n G a H ↔ jAr (dC, dI) (ca 1) (fun j z => True) n a H) (hB143 : ∀ n G a H, B 143 n G a H ↔ jAr (dC, dI) (ca 1) (fun j z => True) n a H) (hB144 : ∀ n G a H, B 144 n G a H ↔ jAr (dC, dI) (ca 1) (fun j z => 0 ≤ z.toInt ∧ z.toInt ≤ 3000) n a H) (hB145 : ∀ n G a H, B 145 n G a H ↔ jAr (dC, dI) (ca 1) (fun j z => True) n a H) (hB146 : ∀ n G a H, B 146 n G a H ↔ jAr (dC, dI) (ca 1) (fun j z => True) n a H) (G0 : jT) (H0 : Heap) (r0 : Nat) (a1 : Int32) (r2 : Nat) (n2 : Nat) : Met l yX11_placeTold (jw yX11_placeTold cX11_placeTold 5 (some .int)) ({ frames := 6, cells := 0, slots := 0, locals := 190 }) (va_Pc [.ref r0, .int a1, .ref r2] (fun U => U.heap = H0 ∧ jX B base G0 [] H0 ∧ jG dC dI ca base U ∧ G0 r0 = some (13, 0) ∧ G0 r2 = some (3, n2) ∧ jP (dC, dI) G0 H0 [] ∧ True)) (va_Qi (S := Unit) (fun r u => (-1 ≤ r.toInt ∧ r.toInt ≤ 1500)) (fun u t => jRt (dC, dI) B base G0 EX11_placeToldE H0 [] t.heap) (jA base)) 0 0 (jA base) := by
  refine Met.ofW (cc := cX11_placeTold) (maxL := 5) (ret := (some .int)) (by decide) rfl ?_
  intro p e s m args below meth c s₁ Bd hml hv
  obtain ⟨rfl, hH0, hX, hG, hg_r0, hg_r2, hP0, hp0⟩ := hv
  have hK := hG.1
  have hx := Bd.exec
  have hb := Bd.bytes
  have hr := Bd.returns
  have hts := atoms_spec (ws := (jw yX11_placeTold cX11_placeTold 5 (some .int))) Bd.pre
  have htw : ∀ w ∈ jWl, w.before _ s = true := fun w h => hts w (List.mem_cons_of_mem _ h)
  have hown : s.vm.findClass RX11 = some m.cls := findClass_of_methodNamed Bd.named
  have hlocks := Bd.notSynchronized
  obtain ⟨Q, hQ⟩ : ∃ Q, Q = MQ below (va_Qi (S := Unit) (fun r u => (-1 ≤ r.toInt ∧ r.toInt ≤ 1500)) (fun u t => jRt (dC, dI) B base G0 EX11_placeToldE H0 [] t.heap) (jA base)) ([.ref r0, .int a1, .ref r2] : List Value).toArray s 0 0 (jA base) := ⟨_, rfl⟩
  rw [← hQ]
  have hl := lv_entry ([.ref r0, .int a1, .ref r2]) (n := 5) (Nat.le_of_ble_eq_true rfl)
  rw [lg_entry_eq]
  generalize (lg_sl ([.ref r0, .int a1, .ref r2]) ++ List.replicate (5 - (lg_sl ([.ref r0, .int a1, .ref r2])).length) Slot.unset).toArray = ls at hl ⊢
  have hl : lv_has ls 5 [(0, .ref r0), (1, .int a1), (2, .ref r2)] := hl
  generalize hR : (headSpec (jw yX11_placeTold cX11_placeTold 5 (some .int)) ({ frames := 6, cells := 0, slots := 0, locals := 190 })).room = R
  subst hH0
  have hh : jSt (dC, dI) B base G0 G0 EX11_placeToldE s.heap 0 0 [] [] [] s.heap [] := jSt.start hX hP0 jMc.nil jIs.nil
  clear hX hP0
  have hkm1 : ((-1) : Int32).toInt = (-1) := by decide
  have hk0 : (0 : Int32).toInt = 0 := by decide
  have hk1 : (1 : Int32).toInt = 1 := by decide
  have hk4 : (4 : Int32).toInt = 4 := by decide
  have hly_13_2 := htw (u_lay RX11 TX11 2) (jWc_wsX110 _ (u_in_lay (by decide)))
  have hlk_28 := (htw (.fieldLink RX11 28 "ProofServer" "json" "LProofServer$Json;") (jWr_1 _ (List.mem_of_getElem? (i := 23) rfl)))
  obtain ⟨str415, rstr415, hstr4150⟩ := hG.str (o := RX11) (k := 415) (tx := "line") (List.mem_of_getElem? (i := 917) (by decide +kernel))
  have hstr415 : jStr base str415 4 s s.heap := hstr4150
  obtain ⟨str417, rstr417, hstr4170⟩ := hG.str (o := RX11) (k := 417) (tx := "character") (List.mem_of_getElem? (i := 918) (by decide +kernel))
  have hstr417 : jStr base str417 9 s s.heap := hstr4170
  have hrg_a1 := jb_rng a1
  refine lv_aload_n hx hb dX11_placeTold_0 rfl (lv_at hl 0 rfl) ?_
  obtain ⟨v_1, hv_1, hh_2⟩ := hh.pin (C := RX11) (T := TX11) (N := 19) hB13 rfl (by decide) hg_r0 (i := 2) (by decide) rfl
  clear hh
  obtain ⟨json_3, rfl, hg_json_3⟩ := hv_1
  refine j7_read hx hb hown hK (C := RX11) (T := TX11) (N := 19) rfl hly_13_2 hlk_28 (hh_2.at 0 rfl) dX11_placeTold_1 ?_
  refine lv_iload_n hx hb dX11_placeTold_4 rfl (lv_at hl 1 rfl) ?_
  refine j_ldcSw hx hb hown rstr415 dX11_placeTold_5 ?_
  refine va_calli (A0 := jA base) (H0 := s.heap) (va_runV (As := [.int a1, .ref str415]) (rest := []) ⟨hx, hb, hml, hown, hts⟩ (uX4_member l dC dI ca base B hB hAp hB6 hB140 hB141 hB142 hB143 hB144 hB145 hB146 G0 s.heap json_3 a1 str415 4) (cwV 2 hts (jgV (jWr_23 _ (List.mem_of_getElem? (i := 10) rfl)) (jWr_23 _ (List.mem_of_getElem? (i := 11) rfl)) (jWr_23 _ (List.mem_of_getElem? (i := 12) rfl)) (jWr_1 _ (List.mem_of_getElem? (i := 22) rfl)) (jWr_23 _ (List.mem_of_getElem? (i := 13) rfl))) rfl rfl rfl (by decide +kernel) ⟨by rw [← hR]; exact Nat.le_of_ble_eq_true rfl, by rw [← hR]; exact Nat.le_of_ble_eq_true rfl⟩) ⟨fun a U g mk q => by obtain ⟨q0, q1, q2, qK, q10, q11, q12, q13⟩ := q; exact ⟨q0, q1, q2, jG.calling g mk a qK, (q10.moved (Vm.Alike.refl U.vm)), q11, q12, q13⟩, hh_2.recv (C := RX4) (T := TX4) (N := 12) hB6 rfl (by decide) hg_json_3 hK, fun U hU hW => ⟨rfl, hU, hh_2.2.1, hG.step hW hU hh_2.1, (hstr415.moved hW.alike).kept hh_2.1.2.1, hg_json_3, jP.nil, by first | omega | rfl | assumption | decide | exact Or.inl rfl | exact Or.inr rfl | (simp only; omega)⟩⟩ rfl rfl hl.1 rfl (lv_room (Nat.le_of_ble_eq_true rfl)) dX11_placeTold_8 ⟨Nat.zero_le _, Nat.zero_le _⟩) hh_2.1 (fun q _ h => h) (fun q h => h) (fun r_5 u_4 t_4 H_4 locs_4 ht_4 hvm_4 hr_5 hb_4 hz_4 hk_4 hS_4 => ?_)
  rw [ht_4] at hb_4
  obtain ⟨hb_41, hb_42, hb_43, hb_44, hb_45⟩ := hb_4
  have hh_4 : jSt (dC, dI) B base G0 G0 EX11_placeToldE s.heap 0 0 [(r0, 13, 2, .ref json_3)] [] [] H_4 locs_4 := ((hh_2.call hb_41 hb_42 hb_43 hb_44 hS_4 rfl (L1 := [(r0, 13, 2, .ref json_3)]) [0] rfl rfl (M1 := []) [] rfl rfl (I1 := []) [] rfl rfl).more hb_45)
  clear hh_2 ht_4 hvm_4 hz_4 hk_4 hS_4 hb_41 hb_42 hb_43 hb_44 hb_45
  obtain ⟨hr_5_0, hr_5_1⟩ := hr_5
  refine lv_istore_n (lv' := [(3, .int r_5), (0, .ref r0), (1, .int a1), (2, .ref r2)]) hx hb dX11_placeTold_11 rfl hl (by decide) rfl (fun ls hl => ?_)
  refine lv_aload_n hx hb dX11_placeTold_12 rfl (lv_at hl 1 rfl) ?_
  refine j7_read hx hb hown hK (C := RX11) (T := TX11) (N := 19) rfl hly_13_2 hlk_28 (hh_4.at 0 rfl) dX11_placeTold_13 ?_
  refine lv_iload_n hx hb dX11_placeTold_16 rfl (lv_at hl 2 rfl) ?_
  refine j_ldcSw hx hb hown rstr417 dX11_placeTold_17 ?_
  refine va_calli (A0 := jA base) (H0 := s.heap) (va_runV (As := [.int a1, .ref str417]) (rest := []) ⟨hx, hb, hml, hown, hts⟩ (uX4_member l dC dI ca base B hB hAp hB6 hB140 hB141 hB142 hB143 hB144 hB145 hB146 G0 H_4 json_3 a1 str417 9) (cwV 2 hts (jgV (jWr_23 _ (List.mem_of_getElem? (i := 10) rfl)) (jWr_23 _ (List.mem_of_getElem? (i := 11) rfl)) (jWr_23 _ (List.mem_of_getElem? (i := 12) rfl)) (jWr_1 _ (List.mem_of_getElem? (i := 22) rfl)) (jWr_23 _ (List.mem_of_getElem? (i := 13) rfl))) rfl rfl rfl (by decide +kernel) ⟨by rw [← hR]; exact Nat.le_of_ble_eq_true rfl, by rw [← hR]; exact Nat.le_of_ble_eq_true rfl⟩) ⟨fun a U g mk q => by obtain ⟨q0, q1, q2, qK, q10, q11, q12, q13⟩ := q; exact ⟨q0, q1, q2, jG.calling g mk a qK, (q10.moved (Vm.Alike.refl U.vm)), q11, q12, q13⟩, hh_4.recv (C := RX4) (T := TX4) (N := 12) hB6 rfl (by decide) hg_json_3 hK, fun U hU hW => ⟨rfl, hU, hh_4.2.1, hG.step hW hU hh_4.1, (hstr417.moved hW.alike).kept hh_4.1.2.1, hg_json_3, jP.nil, by first | omega | rfl | assumption | decide | exact Or.inl rfl | exact Or.inr rfl | (simp only; omega)⟩⟩ rfl rfl hl.1 rfl (lv_room (Nat.le_of_ble_eq_true rfl)) dX11_placeTold_20 ⟨Nat.zero_le _, Nat.zero_le _⟩) hh_4.1 (fun q _ h => h) (fun q h => h) (fun r_7 u_6 t_6 H_6 locs_6 ht_6 hvm_6 hr_7 hb_6 hz_6 hk_6 hS_6 => ?_)
  rw [ht_6] at hb_6
  obtain ⟨hb_61, hb_62, hb_63, hb_64, hb_65⟩ := hb_6
  have hh_6 : jSt (dC, dI) B base G0 G0 EX11_placeToldE s.heap 0 0 [(r0, 13, 2, .ref json_3)] [] [] H_6 locs_6 := ((hh_4.call hb_61 hb_62 hb_63 hb_64 hS_6 rfl (L1 := [(r0, 13, 2, .ref json_3)]) [0] rfl rfl (M1 := []) [] rfl rfl (I1 := []) [] rfl rfl).more hb_65)
  clear hh_4 ht_6 hvm_6 hz_6 hk_6 hS_6 hb_61 hb_62 hb_63 hb_64 hb_65
  obtain ⟨hr_7_0, hr_7_1⟩ := hr_7
  refine lv_istore (lv' := [(4, .int r_7), (3, .int r_5), (0, .ref r0), (1, .int a1), (2, .ref r2)]) hx hb dX11_placeTold_23 hl (by decide) rfl (fun ls hl => ?_)
  refine lv_aload_n hx hb dX11_placeTold_25 rfl (lv_at hl 2 rfl) ?_
  refine j7_read hx hb hown hK (C := RX11) (T := TX11) (N := 19) rfl hly_13_2 hlk_28 (hh_6.at 0 rfl) dX11_placeTold_26 ?_
  refine lv_iload_n hx hb dX11_placeTold_29 rfl (lv_at hl 1 rfl) ?_
  obtain ⟨v_10, hv_10, hh_11⟩ := hh_6.pin (C := RX4) (T := TX4) (N := 12) hB6 rfl (by decide) hg_json_3 (i := 7) (by decide) rfl
  obtain ⟨values_12, rfl, hlovalues_12, hhivalues_12⟩ := hv_10
  refine va_calli (A0 := jA base) (H0 := s.heap) (va_runV (As := [.int r_5]) (rest := []) ⟨hx, hb, hml, hown, hts⟩ (uX4_kindOf l dC dI ca base B hB hAp hB6 hB140 G0 H_6 json_3 r_5 values_12) (cwV 1 hts (jgV (jWr_27 _ (List.mem_of_getElem? (i := 5) rfl)) (jWr_23 _ (List.mem_of_getElem? (i := 15) rfl)) (jWr_23 _ (List.mem_of_getElem? (i := 16) rfl)) (jWr_1 _ (List.mem_of_getElem? (i := 22) rfl)) (jWr_23 _ (List.mem_of_getElem? (i := 17) rfl))) rfl rfl rfl (by decide +kernel) ⟨by rw [← hR]; exact Nat.le_of_ble_eq_true rfl, by rw [← hR]; exact Nat.le_of_ble_eq_true rfl⟩) ⟨fun a U g mk q => by obtain ⟨q0, q1, q2, qK, q10, q11, q12⟩ := q; exact ⟨q0, q1, q2, jG.calling g mk a qK, q10, q11, q12⟩, hh_11.recv (C := RX4) (T := TX4) (N := 12) hB6 rfl (by decide) hg_json_3 hK, fun U hU hW => ⟨rfl, hU, hh_11.2.1, hG.step hW hU hh_11.1, hg_json_3, (hh_11.2.2.1.sub (L1 := [(json_3, 6, 7, .int values_12)]) [0] rfl), by first | omega | (refine ⟨?_, ?_⟩ <;> (first | omega | rfl | assumption | decide | exact Or.inl rfl | exact Or.inr rfl | (simp only; omega)))⟩⟩ rfl rfl hl.1 rfl (lv_room (Nat.le_of_ble_eq_true rfl)) dX11_placeTold_30 ⟨Nat.zero_le _, Nat.zero_le _⟩) hh_11.1 (fun q _ h => h) (fun q h => h) (fun r_9 u_8 t_8 H_8 locs_8 ht_8 hvm_8 hr_9 hb_8 hz_8 hk_8 hS_8 => ?_)
  rw [ht_8] at hb_8
  obtain ⟨hb_81, hb_82, hb_83, hb_84, hb_85⟩ := hb_8
  have hh_8 : jSt (dC, dI) B base G0 G0 EX11_placeToldE s.heap 0 0 [(json_3, 6, 7, .int values_12), (r0, 13, 2, .ref json_3)] [] [] H_8 locs_8 := ((hh_11.call hb_81 hb_82 hb_83 hb_84 hS_8 rfl (L1 := [(json_3, 6, 7, .int values_12), (r0, 13, 2, .ref json_3)]) [0, 1] rfl rfl (M1 := []) [] rfl rfl (I1 := []) [] rfl rfl).more hb_85)
  clear hh_11 ht_8 hvm_8 hz_8 hk_8 hS_8 hb_81 hb_82 hb_83 hb_84 hb_85
  refine lv_iconst (v := 4) hx hb dX11_placeTold_33 (by decide) ?_
  refine lv_icmp_ne (tgt := 50) hx hb dX11_placeTold_34 (by decide) (fun c_13 => ?_) (fun c_13 => ?_)
  · skip
    have c_13' : r_9.toInt ≠ 4 := jb_ne (rfl) ((by decide)) c_13
    try clear hr_9
    refine lv_iconst (v := (-1)) hx hb dX11_placeTold_50 (by decide) ?_
    rw [hQ]
    exact W.iret (v := (-1)) hx hb hr (fun t ht hW => ⟨⟨(-1), (), rfl, by first | omega | (refine ⟨?_, ?_⟩ <;> (first | omega | rfl | assumption | decide | exact Or.inl rfl | exact Or.inr rfl | (simp only; omega))), hh_8.rt (M1 := []) [] rfl ht⟩, by rw [ht]; try exact hh_8.1.1, fun q h9 hq => by rw [ht]; try exact hh_8.1.2.1 q h9 hq⟩) hh_8.1.2.2 dX11_placeTold_51
  · skip
    have c_13' : r_9.toInt = 4 := jb_ne_n (rfl) ((by decide)) c_13
    first | (have hr_9q := hr_9.resolve_left (by omega); clear hr_9) | (have hr_9q := hr_9.resolve_right (by omega); clear hr_9) | try clear hr_9
    refine lv_aload_n hx hb dX11_placeTold_37 rfl (lv_at hl 2 rfl) ?_
    refine j7_read hx hb hown hK (C := RX11) (T := TX11) (N := 19) rfl hly_13_2 hlk_28 (hh_8.at 1 rfl) dX11_placeTold_38 ?_
    refine lv_iload hx hb dX11_placeTold_41 (lv_at hl 0 rfl) ?_
    refine va_calli (A0 := jA base) (H0 := s.heap) (va_runV (As := [.int r_7]) (rest := []) ⟨hx, hb, hml, hown, hts⟩ (uX4_kindOf l dC dI ca base B hB hAp hB6 hB140 G0 H_8 json_3 r_7 values_12) (cwV 1 hts (jgV (jWr_27 _ (List.mem_of_getElem? (i := 5) rfl)) (jWr_23 _ (List.mem_of_getElem? (i := 15) rfl)) (jWr_23 _ (List.mem_of_getElem? (i := 16) rfl)) (jWr_1 _ (List.mem_of_getElem? (i := 22) rfl)) (jWr_23 _ (List.mem_of_getElem? (i := 17) rfl))) rfl rfl rfl (by decide +kernel) ⟨by rw [← hR]; exact Nat.le_of_ble_eq_true rfl, by rw [← hR]; exact Nat.le_of_ble_eq_true rfl⟩) ⟨fun a U g mk q => by obtain ⟨q0, q1, q2, qK, q10, q11, q12⟩ := q; exact ⟨q0, q1, q2, jG.calling g mk a qK, q10, q11, q12⟩, hh_8.recv (C := RX4) (T := TX4) (N := 12) hB6 rfl (by decide) hg_json_3 hK, fun U hU hW => ⟨rfl, hU, hh_8.2.1, hG.step hW hU hh_8.1, hg_json_3, (hh_8.2.2.1.sub (L1 := [(json_3, 6, 7, .int values_12)]) [0] rfl), by first | omega | (refine ⟨?_, ?_⟩ <;> (first | omega | rfl | assumption | decide | exact Or.inl rfl | exact Or.inr rfl | (simp only; omega)))⟩⟩ rfl rfl hl.1 rfl (lv_room (Nat.le_of_ble_eq_true rfl)) dX11_placeTold_43 ⟨Nat.zero_le _, Nat.zero_le _⟩) hh_8.1 (fun q _ h => h) (fun q h => h) (fun r_15 u_14 t_14 H_14 locs_14 ht_14 hvm_14 hr_15 hb_14 hz_14 hk_14 hS_14 => ?_)
    rw [ht_14] at hb_14
    obtain ⟨hb_141, hb_142, hb_143, hb_144, hb_145⟩ := hb_14
    have hh_14 : jSt (dC, dI) B base G0 G0 EX11_placeToldE s.heap 0 0 [(json_3, 6, 7, .int values_12), (r0, 13, 2, .ref json_3)] [] [] H_14 locs_14 := ((hh_8.call hb_141 hb_142 hb_143 hb_144 hS_14 rfl (L1 := [(json_3, 6, 7, .int values_12), (r0, 13, 2, .ref json_3)]) [0, 1] rfl rfl (M1 := []) [] rfl rfl (I1 := []) [] rfl rfl).more hb_145)
    clear hh_8 ht_14 hvm_14 hz_14 hk_14 hS_14 hb_141 hb_142 hb_143 hb_144 hb_145
    refine lv_iconst (v := 4) hx hb dX11_placeTold_46 (by decide) ?_
    refine lv_icmp_eq (tgt := 52) hx hb dX11_placeTold_47 (by decide) (fun c_16 => ?_) (fun c_16 => ?_)
    · skip
      have c_16' : r_15.toInt = 4 := jb_eq (rfl) ((by decide)) c_16
      first | (have hr_15q := hr_15.resolve_left (by omega); clear hr_15) | (have hr_15q := hr_15.resolve_right (by omega); clear hr_15) | try clear hr_15
      refine lv_aload_n hx hb dX11_placeTold_52 rfl (lv_at hl 4 rfl) ?_
      refine lv_aload_n hx hb dX11_placeTold_53 rfl (lv_at hl 2 rfl) ?_
      refine j7_read hx hb hown hK (C := RX11) (T := TX11) (N := 19) rfl hly_13_2 hlk_28 (hh_14.at 1 rfl) dX11_placeTold_54 ?_
      refine lv_iload_n hx hb dX11_placeTold_57 rfl (lv_at hl 1 rfl) ?_
      refine va_calli (A0 := jA base) (H0 := s.heap) (va_runV (As := [.int r_5]) (rest := [.ref r2]) ⟨hx, hb, hml, hown, hts⟩ (uX4_valueOf l dC dI ca base B hB hAp hB6 hB141 G0 H_14 json_3 r_5) (cwV 1 hts (jgV (jWr_29 _ (List.mem_of_getElem? (i := 0) rfl)) (jWr_24 _ (List.mem_of_getElem? (i := 12) rfl)) (jWr_24 _ (List.mem_of_getElem? (i := 13) rfl)) (jWr_1 _ (List.mem_of_getElem? (i := 22) rfl)) (jWr_24 _ (List.mem_of_getElem? (i := 14) rfl))) rfl rfl rfl (by decide +kernel) ⟨by rw [← hR]; exact Nat.le_of_ble_eq_true rfl, by rw [← hR]; exact Nat.le_of_ble_eq_true rfl⟩) ⟨fun a U g mk q => by obtain ⟨q0, q1, q2, qK, q10, q11, q12⟩ := q; exact ⟨q0, q1, q2, jG.calling g mk a qK, q10, q11, q12⟩, hh_14.recv (C := RX4) (T := TX4) (N := 12) hB6 rfl (by decide) hg_json_3 hK, fun U hU hW => ⟨rfl, hU, hh_14.2.1, hG.step hW hU hh_14.1, hg_json_3, jP.nil, trivial⟩⟩ rfl rfl hl.1 rfl (lv_room (Nat.le_of_ble_eq_true rfl)) dX11_placeTold_58 ⟨Nat.zero_le _, Nat.zero_le _⟩) hh_14.1 (fun q _ h => h) (fun q h => h) (fun r_18 u_17 t_17 H_17 locs_17 ht_17 hvm_17 hr_18 hb_17 hz_17 hk_17 hS_17 => ?_)
      rw [ht_17] at hb_17
      obtain ⟨hb_171, hb_172, hb_173, hb_174, hb_175⟩ := hb_17
      have hh_17 : jSt (dC, dI) B base G0 G0 EX11_placeToldE s.heap 0 0 [(json_3, 6, 7, .int values_12), (r0, 13, 2, .ref json_3)] [] [] H_17 locs_17 := ((hh_14.call hb_171 hb_172 hb_173 hb_174 hS_17 rfl (L1 := [(json_3, 6, 7, .int values_12), (r0, 13, 2, .ref json_3)]) [0, 1] rfl rfl (M1 := []) [] rfl rfl (I1 := []) [] rfl rfl).more hb_175)
      clear hh_14 ht_17 hvm_17 hz_17 hk_17 hS_17 hb_171 hb_172 hb_173 hb_174 hb_175
      refine lv_aload_n hx hb dX11_placeTold_61 rfl (lv_at hl 2 rfl) ?_
      refine j7_read hx hb hown hK (C := RX11) (T := TX11) (N := 19) rfl hly_13_2 hlk_28 (hh_17.at 1 rfl) dX11_placeTold_62 ?_
      refine lv_iload hx hb dX11_placeTold_65 (lv_at hl 0 rfl) ?_
      refine va_calli (A0 := jA base) (H0 := s.heap) (va_runV (As := [.int r_7]) (rest := [.int r_18, .ref r2]) ⟨hx, hb, hml, hown, hts⟩ (uX4_valueOf l dC dI ca base B hB hAp hB6 hB141 G0 H_17 json_3 r_7) (cwV 1 hts (jgV (jWr_29 _ (List.mem_of_getElem? (i := 0) rfl)) (jWr_24 _ (List.mem_of_getElem? (i := 12) rfl)) (jWr_24 _ (List.mem_of_getElem? (i := 13) rfl)) (jWr_1 _ (List.mem_of_getElem? (i := 22) rfl)) (jWr_24 _ (List.mem_of_getElem? (i := 14) rfl))) rfl rfl rfl (by decide +kernel) ⟨by rw [← hR]; exact Nat.le_of_ble_eq_true rfl, by rw [← hR]; exact Nat.le_of_ble_eq_true rfl⟩) ⟨fun a U g mk q => by obtain ⟨q0, q1, q2, qK, q10, q11, q12⟩ := q; exact ⟨q0, q1, q2, jG.calling g mk a qK, q10, q11, q12⟩, hh_17.recv (C := RX4) (T := TX4) (N := 12) hB6 rfl (by decide) hg_json_3 hK, fun U hU hW => ⟨rfl, hU, hh_17.2.1, hG.step hW hU hh_17.1, hg_json_3, jP.nil, trivial⟩⟩ rfl rfl hl.1 rfl (lv_room (Nat.le_of_ble_eq_true rfl)) dX11_placeTold_67 ⟨Nat.zero_le _, Nat.zero_le _⟩) hh_17.1 (fun q _ h => h) (fun q h => h) (fun r_20 u_19 t_19 H_19 locs_19 ht_19 hvm_19 hr_20 hb_19 hz_19 hk_19 hS_19 => ?_)
      rw [ht_19] at hb_19
      obtain ⟨hb_191, hb_192, hb_193, hb_194, hb_195⟩ := hb_19
      have hh_19 : jSt (dC, dI) B base G0 G0 EX11_placeToldE s.heap 0 0 [(json_3, 6, 7, .int values_12), (r0, 13, 2, .ref json_3)] [] [] H_19 locs_19 := ((hh_17.call hb_191 hb_192 hb_193 hb_194 hS_19 rfl (L1 := [(json_3, 6, 7, .int values_12), (r0, 13, 2, .ref json_3)]) [0, 1] rfl rfl (M1 := []) [] rfl rfl (I1 := []) [] rfl rfl).more hb_195)
      clear hh_17 ht_19 hvm_19 hz_19 hk_19 hS_19 hb_191 hb_192 hb_193 hb_194 hb_195
      refine va_calli (A0 := jA base) (H0 := s.heap) (va_runV (As := [.int r_18, .int r_20]) (rest := []) ⟨hx, hb, hml, hown, hts⟩ (uX1_placeOf l dC dI ca base B hB hAp hB3 hB101 G0 H_19 r2 r_18 r_20 n2) (cwV 2 hts (jgV (jWr_29 _ (List.mem_of_getElem? (i := 1) rfl)) (jWr_29 _ (List.mem_of_getElem? (i := 2) rfl)) (jWr_29 _ (List.mem_of_getElem? (i := 3) rfl)) (jWr_2 _ (List.mem_of_getElem? (i := 21) rfl)) (jWr_29 _ (List.mem_of_getElem? (i := 4) rfl))) rfl rfl rfl (by decide +kernel) ⟨by rw [← hR]; exact Nat.le_of_ble_eq_true rfl, by rw [← hR]; exact Nat.le_of_ble_eq_true rfl⟩) ⟨fun a U g mk q => by obtain ⟨q0, q1, q2, qK, q10, q11, q12⟩ := q; exact ⟨q0, q1, q2, jG.calling g mk a qK, q10, q11, q12⟩, hh_19.recv (C := RX1) (T := TX1) (N := 17) hB3 rfl (by decide) hg_r2 hK, fun U hU hW => ⟨rfl, hU, hh_19.2.1, hG.step hW hU hh_19.1, hg_r2, jP.nil, trivial⟩⟩ rfl rfl hl.1 rfl (lv_room (Nat.le_of_ble_eq_true rfl)) dX11_placeTold_70 ⟨Nat.zero_le _, Nat.zero_le _⟩) hh_19.1 (fun q _ h => h) (fun q h => h) (fun r_22 u_21 t_21 H_21 locs_21 ht_21 hvm_21 hr_22 hb_21 hz_21 hk_21 hS_21 => ?_)
      rw [ht_21] at hb_21
      obtain ⟨hb_211, hb_212, hb_213, hb_214, hb_215⟩ := hb_21
      have hh_21 : jSt (dC, dI) B base G0 G0 EX11_placeToldE s.heap 0 0 [(json_3, 6, 7, .int values_12), (r0, 13, 2, .ref json_3)] [] [] H_21 locs_21 := ((hh_19.call hb_211 hb_212 hb_213 hb_214 hS_21 rfl (L1 := [(json_3, 6, 7, .int values_12), (r0, 13, 2, .ref json_3)]) [0, 1] rfl rfl (M1 := []) [] rfl rfl (I1 := []) [] rfl rfl).more hb_215)
      clear hh_19 ht_21 hvm_21 hz_21 hk_21 hS_21 hb_211 hb_212 hb_213 hb_214 hb_215
      obtain ⟨hr_22_0, hr_22_1⟩ := hr_22
      rw [hQ]
      exact W.iret (v := r_22) hx hb hr (fun t ht hW => ⟨⟨r_22, (), rfl, by first | omega | (refine ⟨?_, ?_⟩ <;> (first | omega | rfl | assumption | decide | exact Or.inl rfl | exact Or.inr rfl | (simp only; omega))), hh_21.rt (M1 := []) [] rfl ht⟩, by rw [ht]; try exact hh_21.1.1, fun q h9 hq => by rw [ht]; try exact hh_21.1.2.1 q h9 hq⟩) hh_21.1.2.2 dX11_placeTold_73
    · skip
      have c_16' : r_15.toInt ≠ 4 := jb_eq_n (rfl) ((by decide)) c_16
      try clear hr_15
      refine lv_iconst (v := (-1)) hx hb dX11_placeTold_50 (by decide) ?_
      rw [hQ]
      exact W.iret (v := (-1)) hx hb hr (fun t ht hW => ⟨⟨(-1), (), rfl, by first | omega | (refine ⟨?_, ?_⟩ <;> (first | omega | rfl | assumption | decide | exact Or.inl rfl | exact Or.inr rfl | (simp only; omega))), hh_14.rt (M1 := []) [] rfl ht⟩, by rw [ht]; try exact hh_14.1.1, fun q h9 hq => by rw [ht]; try exact hh_14.1.2.1 q h9 hq⟩) hh_14.1.2.2 dX11_placeTold_51
set_option maxHeartbeats 4000000 in
set_option maxRecDepth 20000 in
theorem uX11_makeChange (l : Launch) (dC : Nat → ClassId) (dI : Nat → Nat → Nat) (ca : Nat → ClassId) (base : Nat) (B : jF) (hB : jBok B) (hAp : jAp (dC, dI)) (hB3 : ∀ n G a H, B 3 n G a H ↔ jOb (dC, dI) 3 17 (F3 n G) a H) (hB6 : ∀ n G a H, B 6 n G a H ↔ jOb (dC, dI) 6 12 (F6 n G) a H) (hB13 : ∀ n G a H, B 13 n G a H ↔ jOb (dC, dI) 13 19 (F13 n G) a H) (hB101 : ∀ n G a H, B 101 n G a H ↔ jAr (dC, dI) (ca 1) (fun j z => True) n a H) (hB140 : ∀ n G a H, B 140 n G a H ↔ jAr (dC, dI) (ca 1) (fun j z => True) n a H) (hB141 : ∀ n G a H, B 141 n G a H ↔ jAr (dC, dI) (ca 1) (fun j z => True) n a H) (hB142 : ∀ n G a H, B 142 n G a H ↔ jAr (dC, dI) (ca 1) (fun j z => True) n a H) (hB143 : ∀ n G a H, B 143 n G a H ↔ jAr (dC, dI) (ca 1) (fun j z => True) n a H) (hB144 : ∀ n G a H, B 144 n G a H ↔ jAr (dC, dI) (ca 1) (fun j z => 0 ≤ z.toInt ∧ z.toInt ≤ 3000) n a H) (hB145 : ∀ n G a H, B 145 n G a H ↔ jAr (dC, dI) (ca 1) (fun j z => True) n a H) (hB146 : ∀ n G a H, B 146 n G a H ↔ jAr (dC, dI) (ca 1) (fun j z => True) n a H) (G0 : jT) (H0 : Heap) (r0 : Nat) (a1 : Int32) (js : Nat) (pv : Int32) (pu : Int32) (wk : Nat) (wi : Nat) (wz : Nat) (jks : Nat) (fk : Nat → Int32) (fi : Nat → Int32) (fz : Nat → Int32) (fs : Nat → Int32) : Met l yX11_makeChange (jw yX11_makeChange cX11_makeChange 6 (some .boolean)) ({ frames := 7, cells := 0, slots := 0, locals := 214 }) (va_Pc [.ref r0, .int a1] (fun U => U.heap = H0 ∧ jX B base G0 [] H0 ∧ jG dC dI ca base U ∧ G0 r0 = some (13, 0) ∧ G0 js = some (6, 0) ∧ G0 wk = some (140, 1502) ∧ G0 wi = some (141, 1502) ∧ G0 wz = some (142, 1502) ∧ G0 jks = some (145, 1502) ∧ jP (dC, dI) G0 H0 [(r0, 13, 2, .ref js), (js, 6, 7, .int pv), (js, 6, 8, .int pu), (js, 6, 0, .ref wk), (js, 6, 1, .ref wi), (js, 6, 2, .ref wz), (js, 6, 5, .ref jks)] ∧ jMc (dC, dI) G0 H0 [(wk, 140, 1502, ca 1, fk), (wi, 141, 1502, ca 1, fi), (wz, 142, 1502, ca 1, fz), (jks, 145, 1502, ca 1, fs)] ∧ 0 ≤ pv.toInt ∧ pv.toInt ≤ 1502 ∧ 0 ≤ pu.toInt ∧ pu.toInt ≤ 3000 ∧ jJq fk fi fz pv.toInt ∧ jJu fk fz pv.toInt pu.toInt)) (va_Qi (S := Unit) (fun r u => (r = 0 ∨ r = 1) ∧ (r.toInt = 0 ∨ (∃ t : Int, 0 ≤ t ∧ t < pv.toInt ∧ jSo fs t = 4 ∧ jSo fk t = 3))) (fun u t => jRt (dC, dI) B base G0 EX11_makeChange H0 [] t.heap) (jA base)) 0 0 (jA base) := by
  refine Met.ofW (cc := cX11_makeChange) (maxL := 6) (ret := (some .boolean)) (by decide) rfl ?_
  intro p e s m args below meth c s₁ Bd hml hv
  obtain ⟨rfl, hH0, hX, hG, hg_r0, hg_js, hg_wk, hg_wi, hg_wz, hg_jks, hP0, hM0, hp0, hp1, hp2, hp3, hp4, hp5⟩ := hv
  have hK := hG.1
  have hx := Bd.exec
  have hb := Bd.bytes
  have hr := Bd.returns
  have hts := atoms_spec (ws := (jw yX11_makeChange cX11_makeChange 6 (some .boolean))) Bd.pre
  have htw : ∀ w ∈ jWl, w.before _ s = true := fun w h => hts w (List.mem_cons_of_mem _ h)
  have hown : s.vm.findClass RX11 = some m.cls := findClass_of_methodNamed Bd.named
  have hlocks := Bd.notSynchronized
  obtain ⟨Q, hQ⟩ : ∃ Q, Q = MQ below (va_Qi (S := Unit) (fun r u => (r = 0 ∨ r = 1) ∧ (r.toInt = 0 ∨ (∃ t : Int, 0 ≤ t ∧ t < pv.toInt ∧ jSo fs t = 4 ∧ jSo fk t = 3))) (fun u t => jRt (dC, dI) B base G0 EX11_makeChange H0 [] t.heap) (jA base)) ([.ref r0, .int a1] : List Value).toArray s 0 0 (jA base) := ⟨_, rfl⟩
  rw [← hQ]
  have hl := lv_entry ([.ref r0, .int a1]) (n := 6) (Nat.le_of_ble_eq_true rfl)
  rw [lg_entry_eq]
  generalize (lg_sl ([.ref r0, .int a1]) ++ List.replicate (6 - (lg_sl ([.ref r0, .int a1])).length) Slot.unset).toArray = ls at hl ⊢
  have hl : lv_has ls 6 [(0, .ref r0), (1, .int a1)] := hl
  generalize hR : (headSpec (jw yX11_makeChange cX11_makeChange 6 (some .boolean)) ({ frames := 7, cells := 0, slots := 0, locals := 214 })).room = R
  subst hH0
  have hh : jSt (dC, dI) B base G0 G0 EX11_makeChange s.heap 0 0 [(r0, 13, 2, .ref js), (js, 6, 7, .int pv), (js, 6, 8, .int pu), (js, 6, 0, .ref wk), (js, 6, 1, .ref wi), (js, 6, 2, .ref wz), (js, 6, 5, .ref jks)] [(wk, 140, 1502, ca 1, fk), (wi, 141, 1502, ca 1, fi), (wz, 142, 1502, ca 1, fz), (jks, 145, 1502, ca 1, fs)] [] s.heap [] := jSt.start hX hP0 hM0 jIs.nil
  clear hX hP0
  have hk0 : (0 : Int32).toInt = 0 := by decide
  have hk1 : (1 : Int32).toInt = 1 := by decide
  have hk3 : (3 : Int32).toInt = 3 := by decide
  have hly_3_3 := htw (u_lay RX1 TX1 3) (jWc_wsX10 _ (u_in_lay (by decide)))
  have hly_13_2 := htw (u_lay RX11 TX11 2) (jWc_wsX110 _ (u_in_lay (by decide)))
  have hly_13_15 := htw (u_lay RX11 TX11 15) (jWc_wsX110 _ (u_in_lay (by decide)))
  have hlk_28 := (htw (.fieldLink RX11 28 "ProofServer" "json" "LProofServer$Json;") (jWr_1 _ (List.mem_of_getElem? (i := 23) rfl)))
  obtain ⟨str355, rstr355, hstr3550⟩ := hG.str (o := RX11) (k := 355) (tx := "text") (List.mem_of_getElem? (i := 1102) (by decide +kernel))
  have hstr355 : jStr base str355 4 s s.heap := hstr3550
  obtain ⟨str406, rstr406, hstr4060⟩ := hG.str (o := RX11) (k := 406) (tx := "range") (List.mem_of_getElem? (i := 1269) (by decide +kernel))
  have hstr406 : jStr base str406 5 s s.heap := hstr4060
  have hlk_82 := (htw (.fieldLink RX11 82 "ProofServer" "spare" "LProofServer$Document;") (jWr_2 _ (List.mem_of_getElem? (i := 22) rfl)))
  have hlk_165 := (htw (.fieldLink RX11 165 "ProofServer$Document" "length" "I") (jWr_41 _ (List.mem_of_getElem? (i := 20) rfl)))
  obtain ⟨str408, rstr408, hstr4080⟩ := hG.str (o := RX11) (k := 408) (tx := "start") (List.mem_of_getElem? (i := 1270) (by decide +kernel))
  have hstr408 : jStr base str408 5 s s.heap := hstr4080
  obtain ⟨str413, rstr413, hstr4130⟩ := hG.str (o := RX11) (k := 413) (tx := "end") (List.mem_of_getElem? (i := 1271) (by decide +kernel))
  have hstr413 : jStr base str413 3 s s.heap := hstr4130
  have hrg_a1 := jb_rng a1
  refine lv_aload_n hx hb dX11_makeChange_0 rfl (lv_at hl 0 rfl) ?_
  refine j7_read hx hb hown hK (C := RX11) (T := TX11) (N := 19) rfl hly_13_2 hlk_28 (hh.at 0 rfl) dX11_makeChange_1 ?_
  refine lv_iload_n hx hb dX11_makeChange_4 rfl (lv_at hl 1 rfl) ?_
  refine j_ldcSw hx hb hown rstr355 dX11_makeChange_5 ?_
  refine va_calli (A0 := jA base) (H0 := s.heap) (va_runV (As := [.int a1, .ref str355]) (rest := []) ⟨hx, hb, hml, hown, hts⟩ (uX4_memberQ l dC dI ca base B hB hAp hB6 hB140 hB141 hB142 hB143 hB144 hB145 hB146 G0 s.heap js a1 str355 4 pv wk wi wz jks fk fi fz fs) (cwV 2 hts (jgV (jWr_23 _ (List.mem_of_getElem? (i := 10) rfl)) (jWr_23 _ (List.mem_of_getElem? (i := 11) rfl)) (jWr_23 _ (List.mem_of_getElem? (i := 12) rfl)) (jWr_1 _ (List.mem_of_getElem? (i := 22) rfl)) (jWr_23 _ (List.mem_of_getElem? (i := 13) rfl))) rfl rfl rfl (by decide +kernel) ⟨by rw [← hR]; exact Nat.le_of_ble_eq_true rfl, by rw [← hR]; exact Nat.le_of_ble_eq_true rfl⟩) ⟨fun a U g mk q => by obtain ⟨q0, q1, q2, qK, q10, q11, q12, q13, q14, q15, q16, q17, q18⟩ := q; exact ⟨q0, q1, q2, jG.calling g mk a qK, (q10.moved (Vm.Alike.refl U.vm)), q11, q12, q13, q14, q15, q16, q17, q18⟩, hh.recv (C := RX4) (T := TX4) (N := 12) hB6 rfl (by decide) hg_js hK, fun U hU hW => ⟨rfl, hU, hh.2.1, hG.step hW hU hh.1, (hstr355.moved hW.alike).kept hh.1.2.1, hg_js, hg_wk, hg_wi, hg_wz, hg_jks, (hh.2.2.1.sub (L1 := [(js, 6, 7, .int pv), (js, 6, 0, .ref wk), (js, 6, 1, .ref wi), (js, 6, 2, .ref wz), (js, 6, 5, .ref jks)]) [1, 3, 4, 5, 6] rfl), (hh.2.2.2.2.2.2.2.1.sub (L1 := [(wk, 140, 1502, ca 1, fk), (wi, 141, 1502, ca 1, fi), (wz, 142, 1502, ca 1, fz), (jks, 145, 1502, ca 1, fs)]) [0, 1, 2, 3] rfl), by first | omega | (refine ⟨?_, ?_, ?_⟩ <;> (first | omega | rfl | assumption | decide | exact Or.inl rfl | exact Or.inr rfl | (simp only; omega)))⟩⟩ rfl rfl hl.1 rfl (lv_room (Nat.le_of_ble_eq_true rfl)) dX11_makeChange_8 ⟨Nat.zero_le _, Nat.zero_le _⟩) hh.1 (fun q _ h => h) (fun q h => h) (fun r_2 u_1 t_1 H_1 locs_1 ht_1 hvm_1 hr_2 hb_1 hz_1 hk_1 hS_1 => ?_)
  rw [ht_1] at hb_1
  obtain ⟨hb_1, hbF_1⟩ := hb_1
  obtain ⟨hb_11, hb_12, hb_13, hb_14, hb_15⟩ := hb_1
  have hh_1 : jSt (dC, dI) B base G0 G0 EX11_makeChange s.heap 0 0 [(r0, 13, 2, .ref js), (js, 6, 7, .int pv), (js, 6, 8, .int pu), (js, 6, 0, .ref wk), (js, 6, 1, .ref wi), (js, 6, 2, .ref wz), (js, 6, 5, .ref jks)] [(wk, 140, 1502, ca 1, fk), (wi, 141, 1502, ca 1, fi), (wz, 142, 1502, ca 1, fz), (jks, 145, 1502, ca 1, fs)] [] H_1 locs_1 := ((hh.call hb_11 hb_12 hb_13 hb_14 hS_1 rfl (L1 := [(r0, 13, 2, .ref js), (js, 6, 7, .int pv), (js, 6, 8, .int pu), (js, 6, 0, .ref wk), (js, 6, 1, .ref wi), (js, 6, 2, .ref wz), (js, 6, 5, .ref jks)]) [0, 1, 2, 3, 4, 5, 6] rfl rfl (M1 := [(wk, 140, 1502, ca 1, fk), (wi, 141, 1502, ca 1, fi), (wz, 142, 1502, ca 1, fz), (jks, 145, 1502, ca 1, fs)]) [0, 1, 2, 3] rfl rfl (I1 := []) [] rfl rfl).more hb_15)
  clear hh ht_1 hvm_1 hz_1 hk_1 hS_1 hb_11 hb_12 hb_13 hb_14 hb_15
  obtain ⟨hr_2_0, hr_2_1, hr_2_2⟩ := hr_2
  refine lv_istore_n (lv' := [(2, .int r_2), (0, .ref r0), (1, .int a1)]) hx hb dX11_makeChange_11 rfl hl (by decide) rfl (fun ls hl => ?_)
  refine lv_aload_n hx hb dX11_makeChange_12 rfl (lv_at hl 1 rfl) ?_
  refine j7_read hx hb hown hK (C := RX11) (T := TX11) (N := 19) rfl hly_13_2 hlk_28 (hh_1.at 0 rfl) dX11_makeChange_13 ?_
  refine lv_iload_n hx hb dX11_makeChange_16 rfl (lv_at hl 2 rfl) ?_
  refine j_ldcSw hx hb hown rstr406 dX11_makeChange_17 ?_
  refine va_calli (A0 := jA base) (H0 := s.heap) (va_runV (As := [.int a1, .ref str406]) (rest := []) ⟨hx, hb, hml, hown, hts⟩ (uX4_memberQ l dC dI ca base B hB hAp hB6 hB140 hB141 hB142 hB143 hB144 hB145 hB146 G0 H_1 js a1 str406 5 pv wk wi wz jks fk fi fz fs) (cwV 2 hts (jgV (jWr_23 _ (List.mem_of_getElem? (i := 10) rfl)) (jWr_23 _ (List.mem_of_getElem? (i := 11) rfl)) (jWr_23 _ (List.mem_of_getElem? (i := 12) rfl)) (jWr_1 _ (List.mem_of_getElem? (i := 22) rfl)) (jWr_23 _ (List.mem_of_getElem? (i := 13) rfl))) rfl rfl rfl (by decide +kernel) ⟨by rw [← hR]; exact Nat.le_of_ble_eq_true rfl, by rw [← hR]; exact Nat.le_of_ble_eq_true rfl⟩) ⟨fun a U g mk q => by obtain ⟨q0, q1, q2, qK, q10, q11, q12, q13, q14, q15, q16, q17, q18⟩ := q; exact ⟨q0, q1, q2, jG.calling g mk a qK, (q10.moved (Vm.Alike.refl U.vm)), q11, q12, q13, q14, q15, q16, q17, q18⟩, hh_1.recv (C := RX4) (T := TX4) (N := 12) hB6 rfl (by decide) hg_js hK, fun U hU hW => ⟨rfl, hU, hh_1.2.1, hG.step hW hU hh_1.1, (hstr406.moved hW.alike).kept hh_1.1.2.1, hg_js, hg_wk, hg_wi, hg_wz, hg_jks, (hh_1.2.2.1.sub (L1 := [(js, 6, 7, .int pv), (js, 6, 0, .ref wk), (js, 6, 1, .ref wi), (js, 6, 2, .ref wz), (js, 6, 5, .ref jks)]) [1, 3, 4, 5, 6] rfl), (hh_1.2.2.2.2.2.2.2.1.sub (L1 := [(wk, 140, 1502, ca 1, fk), (wi, 141, 1502, ca 1, fi), (wz, 142, 1502, ca 1, fz), (jks, 145, 1502, ca 1, fs)]) [0, 1, 2, 3] rfl), by first | omega | (refine ⟨?_, ?_, ?_⟩ <;> (first | omega | rfl | assumption | decide | exact Or.inl rfl | exact Or.inr rfl | (simp only; omega)))⟩⟩ rfl rfl hl.1 rfl (lv_room (Nat.le_of_ble_eq_true rfl)) dX11_makeChange_20 ⟨Nat.zero_le _, Nat.zero_le _⟩) hh_1.1 (fun q _ h => h) (fun q h => h) (fun r_4 u_3 t_3 H_3 locs_3 ht_3 hvm_3 hr_4 hb_3 hz_3 hk_3 hS_3 => ?_)
  rw [ht_3] at hb_3
  obtain ⟨hb_3, hbF_3⟩ := hb_3
  obtain ⟨hb_31, hb_32, hb_33, hb_34, hb_35⟩ := hb_3
  have hh_3 : jSt (dC, dI) B base G0 G0 EX11_makeChange s.heap 0 0 [(r0, 13, 2, .ref js), (js, 6, 7, .int pv), (js, 6, 8, .int pu), (js, 6, 0, .ref wk), (js, 6, 1, .ref wi), (js, 6, 2, .ref wz), (js, 6, 5, .ref jks)] [(wk, 140, 1502, ca 1, fk), (wi, 141, 1502, ca 1, fi), (wz, 142, 1502, ca 1, fz), (jks, 145, 1502, ca 1, fs)] [] H_3 locs_3 := ((hh_1.call hb_31 hb_32 hb_33 hb_34 hS_3 rfl (L1 := [(r0, 13, 2, .ref js), (js, 6, 7, .int pv), (js, 6, 8, .int pu), (js, 6, 0, .ref wk), (js, 6, 1, .ref wi), (js, 6, 2, .ref wz), (js, 6, 5, .ref jks)]) [0, 1, 2, 3, 4, 5, 6] rfl rfl (M1 := [(wk, 140, 1502, ca 1, fk), (wi, 141, 1502, ca 1, fi), (wz, 142, 1502, ca 1, fz), (jks, 145, 1502, ca 1, fs)]) [0, 1, 2, 3] rfl rfl (I1 := []) [] rfl rfl).more hb_35)
  clear hh_1 ht_3 hvm_3 hz_3 hk_3 hS_3 hb_31 hb_32 hb_33 hb_34 hb_35
  obtain ⟨hr_4_0, hr_4_1, hr_4_2⟩ := hr_4
  refine lv_istore_n (lv' := [(3, .int r_4), (2, .int r_2), (0, .ref r0), (1, .int a1)]) hx hb dX11_makeChange_23 rfl hl (by decide) rfl (fun ls hl => ?_)
  refine lv_aload_n hx hb dX11_makeChange_24 rfl (lv_at hl 2 rfl) ?_
  refine j7_read hx hb hown hK (C := RX11) (T := TX11) (N := 19) rfl hly_13_2 hlk_28 (hh_3.at 0 rfl) dX11_makeChange_25 ?_
  refine lv_iload_n hx hb dX11_makeChange_28 rfl (lv_at hl 1 rfl) ?_
  refine va_calli (A0 := jA base) (H0 := s.heap) (va_runV (As := [.int r_2]) (rest := []) ⟨hx, hb, hml, hown, hts⟩ (uX4_kindOfW l dC dI ca base B hB hAp hB6 hB140 G0 H_3 js r_2 pv wk wi wz fk fi fz) (cwV 1 hts (jgV (jWr_27 _ (List.mem_of_getElem? (i := 5) rfl)) (jWr_23 _ (List.mem_of_getElem? (i := 15) rfl)) (jWr_23 _ (List.mem_of_getElem? (i := 16) rfl)) (jWr_1 _ (List.mem_of_getElem? (i := 22) rfl)) (jWr_23 _ (List.mem_of_getElem? (i := 17) rfl))) rfl rfl rfl (by decide +kernel) ⟨by rw [← hR]; exact Nat.le_of_ble_eq_true rfl, by rw [← hR]; exact Nat.le_of_ble_eq_true rfl⟩) ⟨fun a U g mk q => by obtain ⟨q0, q1, q2, qK, q10, q11, q12, q13, q14, q15, q16⟩ := q; exact ⟨q0, q1, q2, jG.calling g mk a qK, q10, q11, q12, q13, q14, q15, q16⟩, hh_3.recv (C := RX4) (T := TX4) (N := 12) hB6 rfl (by decide) hg_js hK, fun U hU hW => ⟨rfl, hU, hh_3.2.1, hG.step hW hU hh_3.1, hg_js, hg_wk, hg_wi, hg_wz, (hh_3.2.2.1.sub (L1 := [(js, 6, 7, .int pv), (js, 6, 0, .ref wk), (js, 6, 1, .ref wi), (js, 6, 2, .ref wz)]) [1, 3, 4, 5] rfl), (hh_3.2.2.2.2.2.2.2.1.sub (L1 := [(wk, 140, 1502, ca 1, fk), (wi, 141, 1502, ca 1, fi), (wz, 142, 1502, ca 1, fz)]) [0, 1, 2] rfl), by first | omega | (refine ⟨?_, ?_⟩ <;> (first | omega | rfl | assumption | decide | exact Or.inl rfl | exact Or.inr rfl | (simp only; omega)))⟩⟩ rfl rfl hl.1 rfl (lv_room (Nat.le_of_ble_eq_true rfl)) dX11_makeChange_29 ⟨Nat.zero_le _, Nat.zero_le _⟩) hh_3.1 (fun q _ h => h) (fun q h => h) (fun r_6 u_5 t_5 H_5 locs_5 ht_5 hvm_5 hr_6 hb_5 hz_5 hk_5 hS_5 => ?_)
  rw [ht_5] at hb_5
  obtain ⟨hb_5, hbF_5⟩ := hb_5
  obtain ⟨hb_51, hb_52, hb_53, hb_54, hb_55⟩ := hb_5
  have hh_5 : jSt (dC, dI) B base G0 G0 EX11_makeChange s.heap 0 0 [(r0, 13, 2, .ref js), (js, 6, 7, .int pv), (js, 6, 8, .int pu), (js, 6, 0, .ref wk), (js, 6, 1, .ref wi), (js, 6, 2, .ref wz), (js, 6, 5, .ref jks)] [(wk, 140, 1502, ca 1, fk), (wi, 141, 1502, ca 1, fi), (wz, 142, 1502, ca 1, fz), (jks, 145, 1502, ca 1, fs)] [] H_5 locs_5 := ((hh_3.call hb_51 hb_52 hb_53 hb_54 hS_5 rfl (L1 := [(r0, 13, 2, .ref js), (js, 6, 7, .int pv), (js, 6, 8, .int pu), (js, 6, 0, .ref wk), (js, 6, 1, .ref wi), (js, 6, 2, .ref wz), (js, 6, 5, .ref jks)]) [0, 1, 2, 3, 4, 5, 6] rfl rfl (M1 := [(wk, 140, 1502, ca 1, fk), (wi, 141, 1502, ca 1, fi), (wz, 142, 1502, ca 1, fz), (jks, 145, 1502, ca 1, fs)]) [0, 1, 2, 3] rfl rfl (I1 := []) [] rfl rfl).more hb_55)
  clear hh_3 ht_5 hvm_5 hz_5 hk_5 hS_5 hb_51 hb_52 hb_53 hb_54 hb_55
  refine lv_iconst (v := 3) hx hb dX11_makeChange_32 (by decide) ?_
  refine lv_icmp_eq (tgt := 38) hx hb dX11_makeChange_33 (by decide) (fun c_7 => ?_) (fun c_7 => ?_)
  · skip
    have c_7' : r_6.toInt = 3 := jb_eq (rfl) ((by decide)) c_7
    first | (have hr_2_2q := hr_2_2.resolve_left (by omega); clear hr_2_2) | (have hr_2_2q := hr_2_2.resolve_right (by omega); clear hr_2_2) | skip
    first | (have hr_6q := hr_6.resolve_left (by omega); clear hr_6) | (have hr_6q := hr_6.resolve_right (by omega); clear hr_6) | try clear hr_6
    refine lv_iload_n hx hb dX11_makeChange_38 rfl (lv_at hl 0 rfl) ?_
    refine lv_if_ge (tgt := 63) hx hb dX11_makeChange_39 (by decide) (fun c_8 => ?_) (fun c_8 => ?_)
    · skip
      have c_8' : r_4.toInt ≥ 0 := jb_ge (rfl) ((by decide)) c_8
      first | (have hr_2_2q := hr_2_2.resolve_left (by omega); clear hr_2_2) | (have hr_2_2q := hr_2_2.resolve_right (by omega); clear hr_2_2) | skip
      first | (have hr_4_2q := hr_4_2.resolve_left (by omega); clear hr_4_2) | (have hr_4_2q := hr_4_2.resolve_right (by omega); clear hr_4_2) | skip
      refine lv_aload_n hx hb dX11_makeChange_63 rfl (lv_at hl 2 rfl) ?_
      refine lv_aload_n hx hb dX11_makeChange_64 rfl (lv_at hl 2 rfl) ?_
      refine j7_read hx hb hown hK (C := RX11) (T := TX11) (N := 19) rfl hly_13_2 hlk_28 (hh_5.at 0 rfl) dX11_makeChange_65 ?_
      refine lv_iload_n hx hb dX11_makeChange_68 rfl (lv_at hl 0 rfl) ?_
      refine j_ldcSw hx hb hown rstr408 dX11_makeChange_69 ?_
      refine va_calli (A0 := jA base) (H0 := s.heap) (va_runV (As := [.int r_4, .ref str408]) (rest := [.ref r0]) ⟨hx, hb, hml, hown, hts⟩ (uX4_memberQ l dC dI ca base B hB hAp hB6 hB140 hB141 hB142 hB143 hB144 hB145 hB146 G0 H_5 js r_4 str408 5 pv wk wi wz jks fk fi fz fs) (cwV 2 hts (jgV (jWr_23 _ (List.mem_of_getElem? (i := 10) rfl)) (jWr_23 _ (List.mem_of_getElem? (i := 11) rfl)) (jWr_23 _ (List.mem_of_getElem? (i := 12) rfl)) (jWr_1 _ (List.mem_of_getElem? (i := 22) rfl)) (jWr_23 _ (List.mem_of_getElem? (i := 13) rfl))) rfl rfl rfl (by decide +kernel) ⟨by rw [← hR]; exact Nat.le_of_ble_eq_true rfl, by rw [← hR]; exact Nat.le_of_ble_eq_true rfl⟩) ⟨fun a U g mk q => by obtain ⟨q0, q1, q2, qK, q10, q11, q12, q13, q14, q15, q16, q17, q18⟩ := q; exact ⟨q0, q1, q2, jG.calling g mk a qK, (q10.moved (Vm.Alike.refl U.vm)), q11, q12, q13, q14, q15, q16, q17, q18⟩, hh_5.recv (C := RX4) (T := TX4) (N := 12) hB6 rfl (by decide) hg_js hK, fun U hU hW => ⟨rfl, hU, hh_5.2.1, hG.step hW hU hh_5.1, (hstr408.moved hW.alike).kept hh_5.1.2.1, hg_js, hg_wk, hg_wi, hg_wz, hg_jks, (hh_5.2.2.1.sub (L1 := [(js, 6, 7, .int pv), (js, 6, 0, .ref wk), (js, 6, 1, .ref wi), (js, 6, 2, .ref wz), (js, 6, 5, .ref jks)]) [1, 3, 4, 5, 6] rfl), (hh_5.2.2.2.2.2.2.2.1.sub (L1 := [(wk, 140, 1502, ca 1, fk), (wi, 141, 1502, ca 1, fi), (wz, 142, 1502, ca 1, fz), (jks, 145, 1502, ca 1, fs)]) [0, 1, 2, 3] rfl), by first | omega | (refine ⟨?_, ?_, ?_⟩ <;> (first | omega | rfl | assumption | decide | exact Or.inl rfl | exact Or.inr rfl | (simp only; omega)))⟩⟩ rfl rfl hl.1 rfl (lv_room (Nat.le_of_ble_eq_true rfl)) dX11_makeChange_72 ⟨Nat.zero_le _, Nat.zero_le _⟩) hh_5.1 (fun q _ h => h) (fun q h => h) (fun r_10 u_9 t_9 H_9 locs_9 ht_9 hvm_9 hr_10 hb_9 hz_9 hk_9 hS_9 => ?_)
      rw [ht_9] at hb_9
      obtain ⟨hb_9, hbF_9⟩ := hb_9
      obtain ⟨hb_91, hb_92, hb_93, hb_94, hb_95⟩ := hb_9
      have hh_9 : jSt (dC, dI) B base G0 G0 EX11_makeChange s.heap 0 0 [(r0, 13, 2, .ref js), (js, 6, 7, .int pv), (js, 6, 8, .int pu), (js, 6, 0, .ref wk), (js, 6, 1, .ref wi), (js, 6, 2, .ref wz), (js, 6, 5, .ref jks)] [(wk, 140, 1502, ca 1, fk), (wi, 141, 1502, ca 1, fi), (wz, 142, 1502, ca 1, fz), (jks, 145, 1502, ca 1, fs)] [] H_9 locs_9 := ((hh_5.call hb_91 hb_92 hb_93 hb_94 hS_9 rfl (L1 := [(r0, 13, 2, .ref js), (js, 6, 7, .int pv), (js, 6, 8, .int pu), (js, 6, 0, .ref wk), (js, 6, 1, .ref wi), (js, 6, 2, .ref wz), (js, 6, 5, .ref jks)]) [0, 1, 2, 3, 4, 5, 6] rfl rfl (M1 := [(wk, 140, 1502, ca 1, fk), (wi, 141, 1502, ca 1, fi), (wz, 142, 1502, ca 1, fz), (jks, 145, 1502, ca 1, fs)]) [0, 1, 2, 3] rfl rfl (I1 := []) [] rfl rfl).more hb_95)
      clear hh_5 ht_9 hvm_9 hz_9 hk_9 hS_9 hb_91 hb_92 hb_93 hb_94 hb_95
      obtain ⟨hr_10_0, hr_10_1, hr_10_2⟩ := hr_10
      refine lv_aload_n hx hb dX11_makeChange_75 rfl (lv_at hl 2 rfl) ?_
      obtain ⟨v_11, hv_11, hh_12⟩ := hh_9.pin (C := RX11) (T := TX11) (N := 19) hB13 rfl (by decide) hg_r0 (i := 15) (by decide) rfl
      clear hh_9
      obtain ⟨spare_13, rfl, hg_spare_13⟩ := hv_11
      refine j7_read hx hb hown hK (C := RX11) (T := TX11) (N := 19) rfl hly_13_15 hlk_82 (hh_12.at 0 rfl) dX11_makeChange_76 ?_
      refine va_calli (A0 := jA base) (H0 := s.heap) (va_runV (As := [.int r_10, .ref spare_13]) (rest := []) ⟨hx, hb, hml, hown, hts⟩ (uX11_placeToldE l dC dI ca base B hB hAp hB3 hB6 hB13 hB101 hB140 hB141 hB142 hB143 hB144 hB145 hB146 G0 H_9 r0 r_10 spare_13 1) (cwV 2 hts (jgV (jWr_28 _ (List.mem_of_getElem? (i := 20) rfl)) (jWr_28 _ (List.mem_of_getElem? (i := 21) rfl)) (jWr_28 _ (List.mem_of_getElem? (i := 22) rfl)) (jWr_1 _ (List.mem_of_getElem? (i := 2) rfl)) (jWr_28 _ (List.mem_of_getElem? (i := 23) rfl))) rfl rfl rfl (by decide +kernel) ⟨by rw [← hR]; exact Nat.le_of_ble_eq_true rfl, by rw [← hR]; exact Nat.le_of_ble_eq_true rfl⟩) ⟨fun a U g mk q => by obtain ⟨q0, q1, q2, qK, q10, q11, q12, q13⟩ := q; exact ⟨q0, q1, q2, jG.calling g mk a qK, q10, q11, q12, q13⟩, hh_12.recv (C := RX11) (T := TX11) (N := 19) hB13 rfl (by decide) hg_r0 hK, fun U hU hW => ⟨rfl, hU, hh_12.2.1, hG.step hW hU hh_12.1, hg_r0, hg_spare_13, jP.nil, trivial⟩⟩ rfl rfl hl.1 rfl (lv_room (Nat.le_of_ble_eq_true rfl)) dX11_makeChange_79 ⟨Nat.zero_le _, Nat.zero_le _⟩) hh_12.1 (fun q _ h => h) (fun q h => h) (fun r_15 u_14 t_14 H_14 locs_14 ht_14 hvm_14 hr_15 hb_14 hz_14 hk_14 hS_14 => ?_)
      rw [ht_14] at hb_14
      obtain ⟨hb_141, hb_142, hb_143, hb_144, hb_145⟩ := hb_14
      have hh_14 : jSt (dC, dI) B base G0 G0 EX11_makeChange s.heap 0 0 [(r0, 13, 15, .ref spare_13), (r0, 13, 2, .ref js), (js, 6, 7, .int pv), (js, 6, 8, .int pu), (js, 6, 0, .ref wk), (js, 6, 1, .ref wi), (js, 6, 2, .ref wz), (js, 6, 5, .ref jks)] [(wk, 140, 1502, ca 1, fk), (wi, 141, 1502, ca 1, fi), (wz, 142, 1502, ca 1, fz), (jks, 145, 1502, ca 1, fs)] [] H_14 locs_14 := ((hh_12.call hb_141 hb_142 hb_143 hb_144 hS_14 rfl (L1 := [(r0, 13, 15, .ref spare_13), (r0, 13, 2, .ref js), (js, 6, 7, .int pv), (js, 6, 8, .int pu), (js, 6, 0, .ref wk), (js, 6, 1, .ref wi), (js, 6, 2, .ref wz), (js, 6, 5, .ref jks)]) [0, 1, 2, 3, 4, 5, 6, 7] rfl rfl (M1 := [(wk, 140, 1502, ca 1, fk), (wi, 141, 1502, ca 1, fi), (wz, 142, 1502, ca 1, fz), (jks, 145, 1502, ca 1, fs)]) [0, 1, 2, 3] rfl rfl (I1 := []) [] rfl rfl).more hb_145)
      clear hh_12 ht_14 hvm_14 hz_14 hk_14 hS_14 hb_141 hb_142 hb_143 hb_144 hb_145
      obtain ⟨hr_15_0, hr_15_1⟩ := hr_15
      refine lv_istore (lv' := [(4, .int r_15), (3, .int r_4), (2, .int r_2), (0, .ref r0), (1, .int a1)]) hx hb dX11_makeChange_82 hl (by decide) rfl (fun ls hl => ?_)
      refine lv_aload_n hx hb dX11_makeChange_84 rfl (lv_at hl 3 rfl) ?_
      refine lv_aload_n hx hb dX11_makeChange_85 rfl (lv_at hl 3 rfl) ?_
      refine j7_read hx hb hown hK (C := RX11) (T := TX11) (N := 19) rfl hly_13_2 hlk_28 (hh_14.at 1 rfl) dX11_makeChange_86 ?_
      refine lv_iload_n hx hb dX11_makeChange_89 rfl (lv_at hl 1 rfl) ?_
      refine j_ldcSw hx hb hown rstr413 dX11_makeChange_90 ?_
      refine va_calli (A0 := jA base) (H0 := s.heap) (va_runV (As := [.int r_4, .ref str413]) (rest := [.ref r0]) ⟨hx, hb, hml, hown, hts⟩ (uX4_memberQ l dC dI ca base B hB hAp hB6 hB140 hB141 hB142 hB143 hB144 hB145 hB146 G0 H_14 js r_4 str413 3 pv wk wi wz jks fk fi fz fs) (cwV 2 hts (jgV (jWr_23 _ (List.mem_of_getElem? (i := 10) rfl)) (jWr_23 _ (List.mem_of_getElem? (i := 11) rfl)) (jWr_23 _ (List.mem_of_getElem? (i := 12) rfl)) (jWr_1 _ (List.mem_of_getElem? (i := 22) rfl)) (jWr_23 _ (List.mem_of_getElem? (i := 13) rfl))) rfl rfl rfl (by decide +kernel) ⟨by rw [← hR]; exact Nat.le_of_ble_eq_true rfl, by rw [← hR]; exact Nat.le_of_ble_eq_true rfl⟩) ⟨fun a U g mk q => by obtain ⟨q0, q1, q2, qK, q10, q11, q12, q13, q14, q15, q16, q17, q18⟩ := q; exact ⟨q0, q1, q2, jG.calling g mk a qK, (q10.moved (Vm.Alike.refl U.vm)), q11, q12, q13, q14, q15, q16, q17, q18⟩, hh_14.recv (C := RX4) (T := TX4) (N := 12) hB6 rfl (by decide) hg_js hK, fun U hU hW => ⟨rfl, hU, hh_14.2.1, hG.step hW hU hh_14.1, (hstr413.moved hW.alike).kept hh_14.1.2.1, hg_js, hg_wk, hg_wi, hg_wz, hg_jks, (hh_14.2.2.1.sub (L1 := [(js, 6, 7, .int pv), (js, 6, 0, .ref wk), (js, 6, 1, .ref wi), (js, 6, 2, .ref wz), (js, 6, 5, .ref jks)]) [2, 4, 5, 6, 7] rfl), (hh_14.2.2.2.2.2.2.2.1.sub (L1 := [(wk, 140, 1502, ca 1, fk), (wi, 141, 1502, ca 1, fi), (wz, 142, 1502, ca 1, fz), (jks, 145, 1502, ca 1, fs)]) [0, 1, 2, 3] rfl), by first | omega | (refine ⟨?_, ?_, ?_⟩ <;> (first | omega | rfl | assumption | decide | exact Or.inl rfl | exact Or.inr rfl | (simp only; omega)))⟩⟩ rfl rfl hl.1 rfl (lv_room (Nat.le_of_ble_eq_true rfl)) dX11_makeChange_93 ⟨Nat.zero_le _, Nat.zero_le _⟩) hh_14.1 (fun q _ h => h) (fun q h => h) (fun r_17 u_16 t_16 H_16 locs_16 ht_16 hvm_16 hr_17 hb_16 hz_16 hk_16 hS_16 => ?_)
      rw [ht_16] at hb_16
      obtain ⟨hb_16, hbF_16⟩ := hb_16
      obtain ⟨hb_161, hb_162, hb_163, hb_164, hb_165⟩ := hb_16
      have hh_16 : jSt (dC, dI) B base G0 G0 EX11_makeChange s.heap 0 0 [(r0, 13, 15, .ref spare_13), (r0, 13, 2, .ref js), (js, 6, 7, .int pv), (js, 6, 8, .int pu), (js, 6, 0, .ref wk), (js, 6, 1, .ref wi), (js, 6, 2, .ref wz), (js, 6, 5, .ref jks)] [(wk, 140, 1502, ca 1, fk), (wi, 141, 1502, ca 1, fi), (wz, 142, 1502, ca 1, fz), (jks, 145, 1502, ca 1, fs)] [] H_16 locs_16 := ((hh_14.call hb_161 hb_162 hb_163 hb_164 hS_16 rfl (L1 := [(r0, 13, 15, .ref spare_13), (r0, 13, 2, .ref js), (js, 6, 7, .int pv), (js, 6, 8, .int pu), (js, 6, 0, .ref wk), (js, 6, 1, .ref wi), (js, 6, 2, .ref wz), (js, 6, 5, .ref jks)]) [0, 1, 2, 3, 4, 5, 6, 7] rfl rfl (M1 := [(wk, 140, 1502, ca 1, fk), (wi, 141, 1502, ca 1, fi), (wz, 142, 1502, ca 1, fz), (jks, 145, 1502, ca 1, fs)]) [0, 1, 2, 3] rfl rfl (I1 := []) [] rfl rfl).more hb_165)
      clear hh_14 ht_16 hvm_16 hz_16 hk_16 hS_16 hb_161 hb_162 hb_163 hb_164 hb_165
      obtain ⟨hr_17_0, hr_17_1, hr_17_2⟩ := hr_17
      refine lv_aload_n hx hb dX11_makeChange_96 rfl (lv_at hl 3 rfl) ?_
      refine j7_read hx hb hown hK (C := RX11) (T := TX11) (N := 19) rfl hly_13_15 hlk_82 (hh_16.at 0 rfl) dX11_makeChange_97 ?_
      refine va_calli (A0 := jA base) (H0 := s.heap) (va_runV (As := [.int r_17, .ref spare_13]) (rest := []) ⟨hx, hb, hml, hown, hts⟩ (uX11_placeToldE l dC dI ca base B hB hAp hB3 hB6 hB13 hB101 hB140 hB141 hB142 hB143 hB144 hB145 hB146 G0 H_16 r0 r_17 spare_13 1) (cwV 2 hts (jgV (jWr_28 _ (List.mem_of_getElem? (i := 20) rfl)) (jWr_28 _ (List.mem_of_getElem? (i := 21) rfl)) (jWr_28 _ (List.mem_of_getElem? (i := 22) rfl)) (jWr_1 _ (List.mem_of_getElem? (i := 2) rfl)) (jWr_28 _ (List.mem_of_getElem? (i := 23) rfl))) rfl rfl rfl (by decide +kernel) ⟨by rw [← hR]; exact Nat.le_of_ble_eq_true rfl, by rw [← hR]; exact Nat.le_of_ble_eq_true rfl⟩) ⟨fun a U g mk q => by obtain ⟨q0, q1, q2, qK, q10, q11, q12, q13⟩ := q; exact ⟨q0, q1, q2, jG.calling g mk a qK, q10, q11, q12, q13⟩, hh_16.recv (C := RX11) (T := TX11) (N := 19) hB13 rfl (by decide) hg_r0 hK, fun U hU hW => ⟨rfl, hU, hh_16.2.1, hG.step hW hU hh_16.1, hg_r0, hg_spare_13, jP.nil, trivial⟩⟩ rfl rfl hl.1 rfl (lv_room (Nat.le_of_ble_eq_true rfl)) dX11_makeChange_100 ⟨Nat.zero_le _, Nat.zero_le _⟩) hh_16.1 (fun q _ h => h) (fun q h => h) (fun r_19 u_18 t_18 H_18 locs_18 ht_18 hvm_18 hr_19 hb_18 hz_18 hk_18 hS_18 => ?_)
      rw [ht_18] at hb_18
      obtain ⟨hb_181, hb_182, hb_183, hb_184, hb_185⟩ := hb_18
      have hh_18 : jSt (dC, dI) B base G0 G0 EX11_makeChange s.heap 0 0 [(r0, 13, 15, .ref spare_13), (r0, 13, 2, .ref js), (js, 6, 7, .int pv), (js, 6, 8, .int pu), (js, 6, 0, .ref wk), (js, 6, 1, .ref wi), (js, 6, 2, .ref wz), (js, 6, 5, .ref jks)] [(wk, 140, 1502, ca 1, fk), (wi, 141, 1502, ca 1, fi), (wz, 142, 1502, ca 1, fz), (jks, 145, 1502, ca 1, fs)] [] H_18 locs_18 := ((hh_16.call hb_181 hb_182 hb_183 hb_184 hS_18 rfl (L1 := [(r0, 13, 15, .ref spare_13), (r0, 13, 2, .ref js), (js, 6, 7, .int pv), (js, 6, 8, .int pu), (js, 6, 0, .ref wk), (js, 6, 1, .ref wi), (js, 6, 2, .ref wz), (js, 6, 5, .ref jks)]) [0, 1, 2, 3, 4, 5, 6, 7] rfl rfl (M1 := [(wk, 140, 1502, ca 1, fk), (wi, 141, 1502, ca 1, fi), (wz, 142, 1502, ca 1, fz), (jks, 145, 1502, ca 1, fs)]) [0, 1, 2, 3] rfl rfl (I1 := []) [] rfl rfl).more hb_185)
      clear hh_16 ht_18 hvm_18 hz_18 hk_18 hS_18 hb_181 hb_182 hb_183 hb_184 hb_185
      obtain ⟨hr_19_0, hr_19_1⟩ := hr_19
      refine lv_istore (lv' := [(5, .int r_19), (4, .int r_15), (3, .int r_4), (2, .int r_2), (0, .ref r0), (1, .int a1)]) hx hb dX11_makeChange_103 hl (by decide) rfl (fun ls hl => ?_)
      refine lv_iload hx hb dX11_makeChange_105 (lv_at hl 1 rfl) ?_
      refine lv_if_lt (tgt := 140) hx hb dX11_makeChange_107 (by decide) (fun c_20 => ?_) (fun c_20 => ?_)
      · skip
        have c_20' : r_15.toInt < 0 := jb_lt (rfl) ((by decide)) c_20
        first | (have hr_10_2q := hr_10_2.resolve_left (by omega); clear hr_10_2) | (have hr_10_2q := hr_10_2.resolve_right (by omega); clear hr_10_2) | try clear hr_10_2
        refine lv_iconst (v := 0) hx hb dX11_makeChange_140 (by decide) ?_
        rw [hQ]
        exact W.zret (v := 0) hx hb hr (jb_nz (Or.inl rfl)) (fun t ht hW => ⟨⟨0, (), rfl, ⟨(Or.inl rfl), Or.inr ⟨r_2.toInt, by omega, by omega, by omega, by omega⟩⟩, hh_18.rt (M1 := []) [] rfl ht⟩, by rw [ht]; try exact hh_18.1.1, fun q h9 hq => by rw [ht]; try exact hh_18.1.2.1 q h9 hq⟩) hh_18.1.2.2 dX11_makeChange_141
      · skip
        have c_20' : r_15.toInt ≥ 0 := jb_lt_n (rfl) ((by decide)) c_20
        first | (have hr_10_2q := hr_10_2.resolve_left (by omega); clear hr_10_2) | (have hr_10_2q := hr_10_2.resolve_right (by omega); clear hr_10_2) | try clear hr_10_2
        refine lv_iload hx hb dX11_makeChange_110 (lv_at hl 0 rfl) ?_
        refine lv_iload hx hb dX11_makeChange_112 (lv_at hl 1 rfl) ?_
        refine lv_icmp_lt (tgt := 140) hx hb dX11_makeChange_114 (by decide) (fun c_21 => ?_) (fun c_21 => ?_)
        · skip
          have c_21' : r_19.toInt < r_15.toInt := jb_lt (rfl) (rfl) c_21
          first | (have hr_17_2q := hr_17_2.resolve_left (by omega); clear hr_17_2) | (have hr_17_2q := hr_17_2.resolve_right (by omega); clear hr_17_2) | try clear hr_17_2
          refine lv_iconst (v := 0) hx hb dX11_makeChange_140 (by decide) ?_
          rw [hQ]
          exact W.zret (v := 0) hx hb hr (jb_nz (Or.inl rfl)) (fun t ht hW => ⟨⟨0, (), rfl, ⟨(Or.inl rfl), Or.inr ⟨r_2.toInt, by omega, by omega, by omega, by omega⟩⟩, hh_18.rt (M1 := []) [] rfl ht⟩, by rw [ht]; try exact hh_18.1.1, fun q h9 hq => by rw [ht]; try exact hh_18.1.2.1 q h9 hq⟩) hh_18.1.2.2 dX11_makeChange_141
        · skip
          have c_21' : r_19.toInt ≥ r_15.toInt := jb_lt_n (rfl) (rfl) c_21
          first | (have hr_17_2q := hr_17_2.resolve_left (by omega); clear hr_17_2) | (have hr_17_2q := hr_17_2.resolve_right (by omega); clear hr_17_2) | try clear hr_17_2
          refine lv_aload_n hx hb dX11_makeChange_117 rfl (lv_at hl 4 rfl) ?_
          refine j7_read hx hb hown hK (C := RX11) (T := TX11) (N := 19) rfl hly_13_15 hlk_82 (hh_18.at 0 rfl) dX11_makeChange_118 ?_
          refine lv_iload hx hb dX11_makeChange_121 (lv_at hl 1 rfl) ?_
          refine lv_iload hx hb dX11_makeChange_123 (lv_at hl 0 rfl) ?_
          refine lv_aload_n hx hb dX11_makeChange_125 rfl (lv_at hl 4 rfl) ?_
          refine j7_read hx hb hown hK (C := RX11) (T := TX11) (N := 19) rfl hly_13_2 hlk_28 (hh_18.at 1 rfl) dX11_makeChange_126 ?_
          refine lv_iload_n hx hb dX11_makeChange_129 rfl (lv_at hl 3 rfl) ?_
          refine va_calli (A0 := jA base) (H0 := s.heap) (va_runV (As := [.int r_15, .int r_19, .ref js, .int r_2]) (rest := []) ⟨hx, hb, hml, hown, hts⟩ (uX1_replace l dC dI ca base B hB hAp hB3 hB6 hB101 hB140 hB141 hB142 hB146 G0 H_18 spare_13 r_15 r_19 js r_2 1) (cwV 4 hts (jgV (jWr_35 _ (List.mem_of_getElem? (i := 19) rfl)) (jWr_35 _ (List.mem_of_getElem? (i := 20) rfl)) (jWr_35 _ (List.mem_of_getElem? (i := 21) rfl)) (jWr_2 _ (List.mem_of_getElem? (i := 21) rfl)) (jWr_35 _ (List.mem_of_getElem? (i := 22) rfl))) rfl rfl rfl (by decide +kernel) ⟨by rw [← hR]; exact Nat.le_of_ble_eq_true rfl, by rw [← hR]; exact Nat.le_of_ble_eq_true rfl⟩) ⟨fun a U g mk q => by obtain ⟨q0, q1, q2, qK, q10, q11, q12, q13⟩ := q; exact ⟨q0, q1, q2, jG.calling g mk a qK, q10, q11, q12, q13⟩, hh_18.recv (C := RX1) (T := TX1) (N := 17) hB3 rfl (by decide) hg_spare_13 hK, fun U hU hW => ⟨rfl, hU, hh_18.2.1, hG.step hW hU hh_18.1, hg_spare_13, hg_js, jP.nil, by first | omega | (refine ⟨?_, ?_, ?_, ?_⟩ <;> (first | omega | rfl | assumption | decide | exact Or.inl rfl | exact Or.inr rfl | (simp only; omega)))⟩⟩ rfl rfl hl.1 rfl (lv_room (Nat.le_of_ble_eq_true rfl)) dX11_makeChange_130 ⟨Nat.zero_le _, Nat.zero_le _⟩) hh_18.1 (fun q _ h => h) (fun q h => h) (fun r_23 u_22 t_22 H_22 locs_22 ht_22 hvm_22 hr_23 hb_22 hz_22 hk_22 hS_22 => ?_)
          rw [ht_22] at hb_22
          obtain ⟨hb_221, hb_222, hb_223, hb_224, hb_225⟩ := hb_22
          have hh_22 : jSt (dC, dI) B base G0 G0 EX11_makeChange s.heap 0 0 [(r0, 13, 15, .ref spare_13), (r0, 13, 2, .ref js), (js, 6, 7, .int pv), (js, 6, 8, .int pu), (js, 6, 0, .ref wk), (js, 6, 1, .ref wi), (js, 6, 2, .ref wz), (js, 6, 5, .ref jks)] [(wk, 140, 1502, ca 1, fk), (wi, 141, 1502, ca 1, fi), (wz, 142, 1502, ca 1, fz), (jks, 145, 1502, ca 1, fs)] [] H_22 locs_22 := ((hh_18.call hb_221 hb_222 hb_223 hb_224 hS_22 rfl (L1 := [(r0, 13, 15, .ref spare_13), (r0, 13, 2, .ref js), (js, 6, 7, .int pv), (js, 6, 8, .int pu), (js, 6, 0, .ref wk), (js, 6, 1, .ref wi), (js, 6, 2, .ref wz), (js, 6, 5, .ref jks)]) [0, 1, 2, 3, 4, 5, 6, 7] rfl rfl (M1 := [(wk, 140, 1502, ca 1, fk), (wi, 141, 1502, ca 1, fi), (wz, 142, 1502, ca 1, fz), (jks, 145, 1502, ca 1, fs)]) [0, 1, 2, 3] rfl rfl (I1 := []) [] rfl rfl).more hb_225)
          clear hh_18 ht_22 hvm_22 hz_22 hk_22 hS_22 hb_221 hb_222 hb_223 hb_224 hb_225
          obtain ⟨hr_23b, hr_23p⟩ := hr_23
          have hr_23' := jb_01 hr_23b
          refine lv_if_eq (tgt := 140) hx hb dX11_makeChange_133 (by decide) (fun c_24 => ?_) (fun c_24 => ?_)
          · skip
            have c_24' : r_23.toInt = 0 := jb_eq (rfl) ((by decide)) c_24
            first | (have hr_2_2q := hr_2_2.resolve_left (by omega); clear hr_2_2) | (have hr_2_2q := hr_2_2.resolve_right (by omega); clear hr_2_2) | skip
            refine lv_iconst (v := 0) hx hb dX11_makeChange_140 (by decide) ?_
            rw [hQ]
            exact W.zret (v := 0) hx hb hr (jb_nz (Or.inl rfl)) (fun t ht hW => ⟨⟨0, (), rfl, ⟨(Or.inl rfl), Or.inr ⟨r_2.toInt, by omega, by omega, by omega, by omega⟩⟩, hh_22.rt (M1 := []) [] rfl ht⟩, by rw [ht]; try exact hh_22.1.1, fun q h9 hq => by rw [ht]; try exact hh_22.1.2.1 q h9 hq⟩) hh_22.1.2.2 dX11_makeChange_141
          · skip
            have c_24' : r_23.toInt ≠ 0 := jb_eq_n (rfl) ((by decide)) c_24
            first | (have hr_2_2q := hr_2_2.resolve_left (by omega); clear hr_2_2) | (have hr_2_2q := hr_2_2.resolve_right (by omega); clear hr_2_2) | skip
            refine lv_iconst (v := 1) hx hb dX11_makeChange_136 (by decide) ?_
            refine lv_goto (tgt := 141) hx hb dX11_makeChange_137 (by decide) ?_
            rw [hQ]
            exact W.zret (v := 1) hx hb hr (jb_nz (Or.inr rfl)) (fun t ht hW => ⟨⟨1, (), rfl, ⟨(Or.inr rfl), Or.inr ⟨r_2.toInt, by omega, by omega, by omega, by omega⟩⟩, hh_22.rt (M1 := []) [] rfl ht⟩, by rw [ht]; try exact hh_22.1.1, fun q h9 hq => by rw [ht]; try exact hh_22.1.2.1 q h9 hq⟩) hh_22.1.2.2 dX11_makeChange_141
    · skip
      have c_8' : r_4.toInt < 0 := jb_ge_n (rfl) ((by decide)) c_8
      first | (have hr_2_2q := hr_2_2.resolve_left (by omega); clear hr_2_2) | (have hr_2_2q := hr_2_2.resolve_right (by omega); clear hr_2_2) | skip
      first | (have hr_4_2q := hr_4_2.resolve_left (by omega); clear hr_4_2) | (have hr_4_2q := hr_4_2.resolve_right (by omega); clear hr_4_2) | skip
      refine lv_aload_n hx hb dX11_makeChange_42 rfl (lv_at hl 2 rfl) ?_
      obtain ⟨v_25, hv_25, hh_26⟩ := hh_5.pin (C := RX11) (T := TX11) (N := 19) hB13 rfl (by decide) hg_r0 (i := 15) (by decide) rfl
      clear hh_5
      obtain ⟨spare_27, rfl, hg_spare_27⟩ := hv_25
      refine j7_read hx hb hown hK (C := RX11) (T := TX11) (N := 19) rfl hly_13_15 hlk_82 (hh_26.at 0 rfl) dX11_makeChange_43 ?_
      refine lv_iconst (v := 0) hx hb dX11_makeChange_46 (by decide) ?_
      refine lv_aload_n hx hb dX11_makeChange_47 rfl (lv_at hl 2 rfl) ?_
      refine j7_read hx hb hown hK (C := RX11) (T := TX11) (N := 19) rfl hly_13_15 hlk_82 (hh_26.at 0 rfl) dX11_makeChange_48 ?_
      obtain ⟨v_28, hv_28, hh_29⟩ := hh_26.pin (C := RX1) (T := TX1) (N := 17) hB3 rfl (by decide) hg_spare_27 (i := 3) (by decide) rfl
      clear hh_26
      obtain ⟨length_30, rfl, hlolength_30, hhilength_30⟩ := hv_28
      refine j7_read hx hb hown hK (C := RX1) (T := TX1) (N := 17) rfl hly_3_3 hlk_165 (hh_29.at 0 rfl) dX11_makeChange_51 ?_
      refine lv_aload_n hx hb dX11_makeChange_54 rfl (lv_at hl 2 rfl) ?_
      refine j7_read hx hb hown hK (C := RX11) (T := TX11) (N := 19) rfl hly_13_2 hlk_28 (hh_29.at 2 rfl) dX11_makeChange_55 ?_
      refine lv_iload_n hx hb dX11_makeChange_58 rfl (lv_at hl 1 rfl) ?_
      refine va_calli (A0 := jA base) (H0 := s.heap) (va_runV (As := [.int 0, .int length_30, .ref js, .int r_2]) (rest := []) ⟨hx, hb, hml, hown, hts⟩ (uX1_replace l dC dI ca base B hB hAp hB3 hB6 hB101 hB140 hB141 hB142 hB146 G0 H_5 spare_27 0 length_30 js r_2 1) (cwV 4 hts (jgV (jWr_35 _ (List.mem_of_getElem? (i := 19) rfl)) (jWr_35 _ (List.mem_of_getElem? (i := 20) rfl)) (jWr_35 _ (List.mem_of_getElem? (i := 21) rfl)) (jWr_2 _ (List.mem_of_getElem? (i := 21) rfl)) (jWr_35 _ (List.mem_of_getElem? (i := 22) rfl))) rfl rfl rfl (by decide +kernel) ⟨by rw [← hR]; exact Nat.le_of_ble_eq_true rfl, by rw [← hR]; exact Nat.le_of_ble_eq_true rfl⟩) ⟨fun a U g mk q => by obtain ⟨q0, q1, q2, qK, q10, q11, q12, q13⟩ := q; exact ⟨q0, q1, q2, jG.calling g mk a qK, q10, q11, q12, q13⟩, hh_29.recv (C := RX1) (T := TX1) (N := 17) hB3 rfl (by decide) hg_spare_27 hK, fun U hU hW => ⟨rfl, hU, hh_29.2.1, hG.step hW hU hh_29.1, hg_spare_27, hg_js, jP.nil, by first | omega | (refine ⟨?_, ?_, ?_, ?_⟩ <;> (first | omega | rfl | assumption | decide | exact Or.inl rfl | exact Or.inr rfl | (simp only; omega)))⟩⟩ rfl rfl hl.1 rfl (lv_room (Nat.le_of_ble_eq_true rfl)) dX11_makeChange_59 ⟨Nat.zero_le _, Nat.zero_le _⟩) hh_29.1 (fun q _ h => h) (fun q h => h) (fun r_32 u_31 t_31 H_31 locs_31 ht_31 hvm_31 hr_32 hb_31 hz_31 hk_31 hS_31 => ?_)
      rw [ht_31] at hb_31
      obtain ⟨hb_311, hb_312, hb_313, hb_314, hb_315⟩ := hb_31
      have hh_31 : jSt (dC, dI) B base G0 G0 EX11_makeChange s.heap 0 0 [(r0, 13, 15, .ref spare_27), (r0, 13, 2, .ref js), (js, 6, 7, .int pv), (js, 6, 8, .int pu), (js, 6, 0, .ref wk), (js, 6, 1, .ref wi), (js, 6, 2, .ref wz), (js, 6, 5, .ref jks)] [(wk, 140, 1502, ca 1, fk), (wi, 141, 1502, ca 1, fi), (wz, 142, 1502, ca 1, fz), (jks, 145, 1502, ca 1, fs)] [] H_31 locs_31 := ((hh_29.call hb_311 hb_312 hb_313 hb_314 hS_31 rfl (L1 := [(r0, 13, 15, .ref spare_27), (r0, 13, 2, .ref js), (js, 6, 7, .int pv), (js, 6, 8, .int pu), (js, 6, 0, .ref wk), (js, 6, 1, .ref wi), (js, 6, 2, .ref wz), (js, 6, 5, .ref jks)]) [1, 2, 3, 4, 5, 6, 7, 8] rfl rfl (M1 := [(wk, 140, 1502, ca 1, fk), (wi, 141, 1502, ca 1, fi), (wz, 142, 1502, ca 1, fz), (jks, 145, 1502, ca 1, fs)]) [0, 1, 2, 3] rfl rfl (I1 := []) [] rfl rfl).more hb_315)
      clear hh_29 ht_31 hvm_31 hz_31 hk_31 hS_31 hb_311 hb_312 hb_313 hb_314 hb_315
      obtain ⟨hr_32b, hr_32p⟩ := hr_32
      have hr_32' := jb_01 hr_32b
      rw [hQ]
      exact W.zret (v := r_32) hx hb hr (jb_nz (hr_32b)) (fun t ht hW => ⟨⟨r_32, (), rfl, ⟨(hr_32b), Or.inr ⟨r_2.toInt, by omega, by omega, by omega, by omega⟩⟩, hh_31.rt (M1 := []) [] rfl ht⟩, by rw [ht]; try exact hh_31.1.1, fun q h9 hq => by rw [ht]; try exact hh_31.1.2.1 q h9 hq⟩) hh_31.1.2.2 dX11_makeChange_62
  · skip
    have c_7' : r_6.toInt ≠ 3 := jb_eq_n (rfl) ((by decide)) c_7
    try clear hr_6
    refine lv_iconst (v := 0) hx hb dX11_makeChange_36 (by decide) ?_
    rw [hQ]
    exact W.zret (v := 0) hx hb hr (jb_nz (Or.inl rfl)) (fun t ht hW => ⟨⟨0, (), rfl, ⟨(Or.inl rfl), Or.inl (by first | rfl | decide)⟩, hh_5.rt (M1 := []) [] rfl ht⟩, by rw [ht]; try exact hh_5.1.1, fun q h9 hq => by rw [ht]; try exact hh_5.1.2.1 q h9 hq⟩) hh_5.1.2.2 dX11_makeChange_37
end
section
-- how long a message is at least that opens or changes a document
theorem jMg.chg {D : jC} {pv pu n p d u v c t : Int} (h : jMg D pv pu n 22) (hp : jNde D pv p 1 6) (hd : jNde D pv d 1 12) (hu : jNde D pv u 3 3) (hv : jNde D pv v 4 7) (hc : jNde D pv c 2 14) (ht : jNde D pv t 3 4) : 123 ≤ n := by
  obtain ⟨⟨C, h1⟩, ⟨h2, j, j0, j1, j2, j3, j4⟩, m, m0, m1, m2, m3, m4⟩ := h
  have hj : jNde D pv j 3 7 := ⟨j0, j1, j3, j2⟩
  have hm : jNde D pv m 3 6 := ⟨m0, m1, m3, m2⟩
  have nil : ∀ a ∈ ([] : List Int), False := fun a ha => by cases ha
  have zu := (h1.2.2.1 (2 * u.toNat) (by have := hu.1; omega) (by have := hu.1; have := hu.2.1; omega)).1.1
  have zt := (h1.2.2.1 (2 * t.toNat) (by have := ht.1; omega) (by have := ht.1; have := ht.2.1; omega)).1.1
  have eu : jln D (2 * u.toNat) = jSo D.2.2.1 u := by
    unfold jln
    rw [if_pos (by omega), show (((2 * u.toNat) / 2 : Nat) : Int) = u by have := hu.1; omega, if_pos hu.2.2.1]
  have et : jln D (2 * t.toNat) = jSo D.2.2.1 t := by
    unfold jln
    rw [if_pos (by omega), show (((2 * t.toNat) / 2 : Nat) : Int) = t by have := ht.1; omega, if_pos ht.2.2.1]
  rw [eu] at zu
  rw [et] at zt
  have b := jByt h1 h2 [j, m, p, d, u, v, c, t]
    (List.pairwise_cons.mpr ⟨List.forall_mem_cons.mpr ⟨hj.ne hm (by omega), List.forall_mem_cons.mpr ⟨hj.ne hp (by omega), List.forall_mem_cons.mpr ⟨hj.ne hd (by omega), List.forall_mem_cons.mpr ⟨hj.ne hu (by omega), List.forall_mem_cons.mpr ⟨hj.ne hv (by omega), List.forall_mem_cons.mpr ⟨hj.ne hc (by omega), List.forall_mem_cons.mpr ⟨hj.ne ht (by omega), fun a ha => (nil a ha).elim⟩⟩⟩⟩⟩⟩⟩,
    List.pairwise_cons.mpr ⟨List.forall_mem_cons.mpr ⟨hm.ne hp (by omega), List.forall_mem_cons.mpr ⟨hm.ne hd (by omega), List.forall_mem_cons.mpr ⟨hm.ne hu (by omega), List.forall_mem_cons.mpr ⟨hm.ne hv (by omega), List.forall_mem_cons.mpr ⟨hm.ne hc (by omega), List.forall_mem_cons.mpr ⟨hm.ne ht (by omega), fun a ha => (nil a ha).elim⟩⟩⟩⟩⟩⟩,
    List.pairwise_cons.mpr ⟨List.forall_mem_cons.mpr ⟨hp.ne hd (by omega), List.forall_mem_cons.mpr ⟨hp.ne hu (by omega), List.forall_mem_cons.mpr ⟨hp.ne hv (by omega), List.forall_mem_cons.mpr ⟨hp.ne hc (by omega), List.forall_mem_cons.mpr ⟨hp.ne ht (by omega), fun a ha => (nil a ha).elim⟩⟩⟩⟩⟩,
    List.pairwise_cons.mpr ⟨List.forall_mem_cons.mpr ⟨hd.ne hu (by omega), List.forall_mem_cons.mpr ⟨hd.ne hv (by omega), List.forall_mem_cons.mpr ⟨hd.ne hc (by omega), List.forall_mem_cons.mpr ⟨hd.ne ht (by omega), fun a ha => (nil a ha).elim⟩⟩⟩⟩,
    List.pairwise_cons.mpr ⟨List.forall_mem_cons.mpr ⟨hu.ne hv (by omega), List.forall_mem_cons.mpr ⟨hu.ne hc (by omega), List.forall_mem_cons.mpr ⟨hu.ne ht (by omega), fun a ha => (nil a ha).elim⟩⟩⟩,
    List.pairwise_cons.mpr ⟨List.forall_mem_cons.mpr ⟨hv.ne hc (by omega), List.forall_mem_cons.mpr ⟨hv.ne ht (by omega), fun a ha => (nil a ha).elim⟩⟩,
    List.pairwise_cons.mpr ⟨List.forall_mem_cons.mpr ⟨hc.ne ht (by omega), fun a ha => (nil a ha).elim⟩,
    List.pairwise_cons.mpr ⟨fun a ha => (nil a ha).elim, List.Pairwise.nil⟩⟩⟩⟩⟩⟩⟩⟩)
    (List.forall_mem_cons.mpr ⟨hj.r (by omega), List.forall_mem_cons.mpr ⟨hm.r (by omega), List.forall_mem_cons.mpr ⟨hp.r (by omega), List.forall_mem_cons.mpr ⟨hd.r (by omega), List.forall_mem_cons.mpr ⟨hu.r (by omega), List.forall_mem_cons.mpr ⟨hv.r (by omega), List.forall_mem_cons.mpr ⟨hc.r (by omega), List.forall_mem_cons.mpr ⟨ht.r (by omega), fun a ha => (nil a ha).elim⟩⟩⟩⟩⟩⟩⟩⟩)
  rw [hj.s, hm.s, hp.w (by omega), hd.w (by omega), hu.s, hv.w (by omega), hc.w (by omega), ht.s, show jWs D [] = 0 from rfl, j4, m4, show (([j, m, p, d, u, v, c, t].length : Nat) : Int) = 8 from rfl] at b
  omega
def jTxf (fk fs : Nat → Int32) (pv : Int) : Prop := ∃ t : Int, 0 ≤ t ∧ t < pv ∧ jSo fs t = 4 ∧ jSo fk t = 3
theorem jEd.ge {fb fe : Nat → Int32} {s u k : Int} (h : jSn fb fe s u) (h1 : k ≤ s) : 0 ≤ jEd fe k := by
  unfold jEd
  by_cases q : k ≤ 0
  · rw [if_pos q]; omega
  · rw [if_neg q]
    have := h (k - 1) (by omega) (by omega)
    omega
theorem jSn.ge {fb fe : Nat → Int32} {s u k : Int} (h : jSn fb fe s u) (h0 : 0 ≤ k) : s ≤ k ∨ 0 ≤ jSo fe k := by
  by_cases q : s ≤ k
  · exact Or.inl q
  · have := h k h0 (by omega)
    exact Or.inr (by omega)
end
