section
def EX1_isSentenceE : List (Nat × Nat) := []
def EX1_keepCheckedE : List (Nat × Nat) := [(3, 10)]
def EX11_releaseE : List (Nat × Nat) := [(3, 11), (3, 12), (3, 13), (212, 0)]
set_option maxHeartbeats 4000000 in
set_option maxRecDepth 20000 in
theorem uX1_isSentenceE (l : Launch) (dC : Nat → ClassId) (dI : Nat → Nat → Nat) (ca : Nat → ClassId) (base : Nat) (B : jF) (hB : jBok B) (hAp : jAp (dC, dI)) (hB3 : ∀ n G a H, B 3 n G a H ↔ jOb (dC, dI) 3 17 (F3 n G) a H) (hB101 : ∀ n G a H, B 101 n G a H ↔ jAr (dC, dI) (ca 1) (fun j z => True) n a H) (hB171 : ∀ n G a H, B 171 n G a H ↔ jAr (dC, dI) (ca 1) (fun j z => 0 ≤ z.toInt ∧ z.toInt ≤ 1500) n a H) (hB172 : ∀ n G a H, B 172 n G a H ↔ jAr (dC, dI) (ca 1) (fun j z => 0 ≤ z.toInt ∧ z.toInt ≤ 1500) n a H) (hB173 : ∀ n G a H, B 173 n G a H ↔ jAr (dC, dI) (ca 1) (fun j z => True) n a H) (G0 : jT) (H0 : Heap) (r0 : Nat) (a1 : Int32) (r2 : Nat) (n2 : Nat) (ps : Int32) : Met l yX1_isSentence (jw yX1_isSentence cX1_isSentence 4 (some .boolean)) ({ frames := 0, cells := 0, slots := 0, locals := 0 }) (va_Pc [.ref r0, .int a1, .ref r2] (fun U => U.heap = H0 ∧ jX B base G0 [] H0 ∧ jG dC dI ca base U ∧ G0 r0 = some (3, 0) ∧ G0 r2 = some (101, n2) ∧ jP (dC, dI) G0 H0 [(r0, 3, 4, .int ps)] ∧ n2 ≤ 3000 ∧ ps.toInt ≤ 40)) (va_Qi (S := Unit) (fun r u => (r = 0 ∨ r = 1) ∧ (r.toInt = 0 ∨ (0 ≤ a1.toInt ∧ a1.toInt < ps.toInt))) (fun u t => jRt (dC, dI) B base G0 EX1_isSentenceE H0 [] t.heap) (jA base)) 0 0 (jA base) := by
  refine Met.ofW (cc := cX1_isSentence) (maxL := 4) (ret := (some .boolean)) (by decide) rfl ?_
  intro p e s m args below meth c s₁ Bd hml hv
  obtain ⟨rfl, hH0, hX, hG, hg_r0, hg_r2, hP0, hp0, hp1⟩ := hv
  have hK := hG.1
  have hx := Bd.exec
  have hb := Bd.bytes
  have hr := Bd.returns
  have hts := atoms_spec (ws := (jw yX1_isSentence cX1_isSentence 4 (some .boolean))) Bd.pre
  have htw : ∀ w ∈ jWl, w.before _ s = true := fun w h => hts w (List.mem_cons_of_mem _ h)
  have hown : s.vm.findClass RX1 = some m.cls := findClass_of_methodNamed Bd.named
  have hlocks := Bd.notSynchronized
  obtain ⟨Q, hQ⟩ : ∃ Q, Q = MQ below (va_Qi (S := Unit) (fun r u => (r = 0 ∨ r = 1) ∧ (r.toInt = 0 ∨ (0 ≤ a1.toInt ∧ a1.toInt < ps.toInt))) (fun u t => jRt (dC, dI) B base G0 EX1_isSentenceE H0 [] t.heap) (jA base)) ([.ref r0, .int a1, .ref r2] : List Value).toArray s 0 0 (jA base) := ⟨_, rfl⟩
  rw [← hQ]
  have hl := lv_entry ([.ref r0, .int a1, .ref r2]) (n := 4) (Nat.le_of_ble_eq_true rfl)
  rw [lg_entry_eq]
  generalize (lg_sl ([.ref r0, .int a1, .ref r2]) ++ List.replicate (4 - (lg_sl ([.ref r0, .int a1, .ref r2])).length) Slot.unset).toArray = ls at hl ⊢
  have hl : lv_has ls 4 [(0, .ref r0), (1, .int a1), (2, .ref r2)] := hl
  generalize hR : (headSpec (jw yX1_isSentence cX1_isSentence 4 (some .boolean)) ({ frames := 0, cells := 0, slots := 0, locals := 0 })).room = R
  subst hH0
  have hh : jSt (dC, dI) B base G0 G0 EX1_isSentenceE s.heap 0 0 [(r0, 3, 4, .int ps)] [] [] s.heap [] := jSt.start hX hP0 jMc.nil jIs.nil
  clear hX hP0
  have hk0 : (0 : Int32).toInt = 0 := by decide
  have hk1 : (1 : Int32).toInt = 1 := by decide
  have hly_3_2 := htw (u_lay RX1 TX1 2) (jWc_wsX10 _ (u_in_lay (by decide)))
  have hly_3_4 := htw (u_lay RX1 TX1 4) (jWc_wsX10 _ (u_in_lay (by decide)))
  have hly_3_5 := htw (u_lay RX1 TX1 5) (jWc_wsX10 _ (u_in_lay (by decide)))
  have hly_3_6 := htw (u_lay RX1 TX1 6) (jWc_wsX10 _ (u_in_lay (by decide)))
  have hlk_69 := (htw (.fieldLink RX1 69 "ProofServer$Document" "sentences" "I") (jWr_29 _ (List.mem_of_getElem? (i := 14) rfl)))
  have hlk_21 := (htw (.fieldLink RX1 21 "ProofServer$Document" "ends" "[I") (jWr_10 _ (List.mem_of_getElem? (i := 8) rfl)))
  have hlk_18 := (htw (.fieldLink RX1 18 "ProofServer$Document" "starts" "[I") (jWr_10 _ (List.mem_of_getElem? (i := 7) rfl)))
  have hlk_15 := (htw (.fieldLink RX1 15 "ProofServer$Document" "text" "[I") (jWr_10 _ (List.mem_of_getElem? (i := 6) rfl)))
  have hrg_a1 := jb_rng a1
  refine lv_iload_n hx hb dX1_isSentence_0 rfl (lv_at hl 1 rfl) ?_
  refine lv_if_lt (tgt := 30) hx hb dX1_isSentence_1 (by decide) (fun c_1 => ?_) (fun c_1 => ?_)
  · skip
    have c_1' : a1.toInt < 0 := jb_lt (rfl) ((by decide)) c_1
    refine lv_iconst (v := 0) hx hb dX1_isSentence_30 (by decide) ?_
    rw [hQ]
    exact W.zret (v := 0) hx hb hr (jb_nz (Or.inl rfl)) (fun t ht hW => ⟨⟨0, (), rfl, ⟨(Or.inl rfl), by first | omega | rfl | assumption | decide | exact Or.inl rfl | exact Or.inr rfl | (simp only; omega)⟩, hh.rt (M1 := []) [] rfl ht⟩, by rw [ht]; try exact hh.1.1, fun q h9 hq => by rw [ht]; try exact hh.1.2.1 q h9 hq⟩) hh.1.2.2 dX1_isSentence_31
  · skip
    have c_1' : a1.toInt ≥ 0 := jb_lt_n (rfl) ((by decide)) c_1
    refine lv_iload_n hx hb dX1_isSentence_4 rfl (lv_at hl 1 rfl) ?_
    refine lv_aload_n hx hb dX1_isSentence_5 rfl (lv_at hl 0 rfl) ?_
    refine j7_read hx hb hown hK (C := RX1) (T := TX1) (N := 17) rfl hly_3_4 hlk_69 (hh.at 0 rfl) dX1_isSentence_6 ?_
    refine lv_icmp_ge (tgt := 30) hx hb dX1_isSentence_9 (by decide) (fun c_2 => ?_) (fun c_2 => ?_)
    · skip
      have c_2' : a1.toInt ≥ ps.toInt := jb_ge (rfl) (rfl) c_2
      refine lv_iconst (v := 0) hx hb dX1_isSentence_30 (by decide) ?_
      rw [hQ]
      exact W.zret (v := 0) hx hb hr (jb_nz (Or.inl rfl)) (fun t ht hW => ⟨⟨0, (), rfl, ⟨(Or.inl rfl), by first | omega | rfl | assumption | decide | exact Or.inl rfl | exact Or.inr rfl | (simp only; omega)⟩, hh.rt (M1 := []) [] rfl ht⟩, by rw [ht]; try exact hh.1.1, fun q h9 hq => by rw [ht]; try exact hh.1.2.1 q h9 hq⟩) hh.1.2.2 dX1_isSentence_31
    · skip
      have c_2' : a1.toInt < ps.toInt := jb_ge_n (rfl) (rfl) c_2
      obtain ⟨v_3, hv_3, hh_4⟩ := hh.pin (C := RX1) (T := TX1) (N := 17) hB3 rfl (by decide) hg_r0 (i := 5) (by decide) rfl
      obtain ⟨starts_5, rfl, hg_starts_5⟩ := hv_3
      obtain ⟨f_starts_6, hh_6⟩ := hh_4.cpin hB171 (by decide) (by decide) hg_starts_5
      clear hh_4
      obtain ⟨v_7, hv_7, hh_8⟩ := hh_6.pin (C := RX1) (T := TX1) (N := 17) hB3 rfl (by decide) hg_r0 (i := 6) (by decide) rfl
      obtain ⟨ends_9, rfl, hg_ends_9⟩ := hv_7
      obtain ⟨f_ends_10, hh_10⟩ := hh_8.cpin hB172 (by decide) (by decide) hg_ends_9
      clear hh_8
      refine lv_aload_n hx hb dX1_isSentence_12 rfl (lv_at hl 0 rfl) ?_
      refine j7_read hx hb hown hK (C := RX1) (T := TX1) (N := 17) rfl hly_3_6 hlk_21 (hh_10.at 0 rfl) dX1_isSentence_13 ?_
      refine lv_iload_n hx hb dX1_isSentence_16 rfl (lv_at hl 1 rfl) ?_
      refine j7_ialdM hx hb hK hh_10 hB172 1 rfl (by decide) hg_ends_9 (x := a1.toInt) (rfl) (by omega) (j := 0) rfl dX1_isSentence_17 (fun z_11 ez_11 (hz_11 : 0 ≤ z_11.toInt ∧ z_11.toInt ≤ 1500) => ?_)
      have hqz_11 : z_11.toInt = jSo f_ends_10 (a1.toInt) := by unfold jSo; rw [ez_11]
      refine lv_aload_n hx hb dX1_isSentence_18 rfl (lv_at hl 0 rfl) ?_
      refine j7_read hx hb hown hK (C := RX1) (T := TX1) (N := 17) rfl hly_3_5 hlk_18 (hh_10.at 1 rfl) dX1_isSentence_19 ?_
      refine lv_iload_n hx hb dX1_isSentence_22 rfl (lv_at hl 1 rfl) ?_
      refine j7_ialdM hx hb hK hh_10 hB171 1 rfl (by decide) hg_starts_5 (x := a1.toInt) (rfl) (by omega) (j := 1) rfl dX1_isSentence_23 (fun z_12 ez_12 (hz_12 : 0 ≤ z_12.toInt ∧ z_12.toInt ≤ 1500) => ?_)
      have hqz_12 : z_12.toInt = jSo f_starts_6 (a1.toInt) := by unfold jSo; rw [ez_12]
      refine lv_isub hx hb dX1_isSentence_24 ?_
      refine lv_topi (fun z_13 ez_13 => ?_)
      have hz_13 : z_13.toInt = z_11.toInt - z_12.toInt := by rw [ez_13]; exact jb_isub2 (rfl) (rfl) (by omega)
      refine lv_aload_n hx hb dX1_isSentence_25 rfl (lv_at hl 2 rfl) ?_
      refine j7_len hx hb hK hh_10 hB101 1 rfl (by decide) hg_r2 (by omega) dX1_isSentence_26 (fun z_14 hz_14 => ?_)
      refine lv_icmp_eq (tgt := 32) hx hb dX1_isSentence_27 (by decide) (fun c_15 => ?_) (fun c_15 => ?_)
      · skip
        have c_15' : z_13.toInt = z_14.toInt := jb_eq (rfl) (rfl) c_15
        refine lv_iconst (v := 0) hx hb dX1_isSentence_32 (by decide) ?_
        refine lv_istore_n (lv' := [(3, .int 0), (0, .ref r0), (1, .int a1), (2, .ref r2)]) hx hb dX1_isSentence_33 rfl hl (by decide) rfl (fun ls hl => ?_)
        have L34 : ∀ (N : Nat) (v3_16 : Int32) (H_16 : Heap) (locs_16 : List Loc), jSt (dC, dI) B base G0 G0 EX1_isSentenceE s.heap 0 0 [(r0, 3, 6, .ref ends_9), (r0, 3, 5, .ref starts_5), (r0, 3, 4, .int ps)] [(ends_9, 172, 40, ca 1, f_ends_10), (starts_5, 171, 40, ca 1, f_starts_6)] [] H_16 locs_16 → (0 ≤ v3_16.toInt ∧ v3_16.toInt ≤ n2) → (n2 - v3_16.toInt : Int) < N → ∀ ls : Array Slot, lv_has ls 4 [(0, .ref r0), (1, .int a1), (2, .ref r2), (3, .int v3_16)] → W p l e R s m ([.ref r0, .int a1, .ref r2] : List Value).toArray below meth c H_16 locs_16 0 0 Q (F0 m 34 ls []) := by
          intro N
          induction N with
          | zero => intro v3_16 H_16 locs_16 hh_16  hi_16 hm; exact absurd hm (by omega)
          | succ N L34 =>
            intro v3_16 H_16 locs_16 hh_16  hi_16 hm_16 ls hl
            obtain ⟨hi_16_0, hi_16_1⟩ := hi_16
            refine lv_iload_n hx hb dX1_isSentence_34 rfl (lv_at hl 3 rfl) ?_
            refine lv_aload_n hx hb dX1_isSentence_35 rfl (lv_at hl 2 rfl) ?_
            refine j7_len hx hb hK hh_16 hB101 1 rfl (by decide) hg_r2 (by omega) dX1_isSentence_36 (fun z_17 hz_17 => ?_)
            refine lv_icmp_ge (tgt := 67) hx hb dX1_isSentence_37 (by decide) (fun c_18 => ?_) (fun c_18 => ?_)
            · skip
              have c_18' : v3_16.toInt ≥ z_17.toInt := jb_ge (rfl) (rfl) c_18
              refine lv_iconst (v := 1) hx hb dX1_isSentence_67 (by decide) ?_
              rw [hQ]
              exact W.zret (v := 1) hx hb hr (jb_nz (Or.inr rfl)) (fun t ht hW => ⟨⟨1, (), rfl, ⟨(Or.inr rfl), by first | omega | rfl | assumption | decide | exact Or.inl rfl | exact Or.inr rfl | (simp only; omega)⟩, hh_16.rt (M1 := []) [] rfl ht⟩, by rw [ht]; try exact hh_16.1.1, fun q h9 hq => by rw [ht]; try exact hh_16.1.2.1 q h9 hq⟩) hh_16.1.2.2 dX1_isSentence_68
            · skip
              have c_18' : v3_16.toInt < z_17.toInt := jb_ge_n (rfl) (rfl) c_18
              refine lv_aload_n hx hb dX1_isSentence_40 rfl (lv_at hl 0 rfl) ?_
              obtain ⟨v_19, hv_19, hh_20⟩ := hh_16.pin (C := RX1) (T := TX1) (N := 17) hB3 rfl (by decide) hg_r0 (i := 2) (by decide) rfl
              clear hh_16
              obtain ⟨text_21, rfl, hg_text_21⟩ := hv_19
              refine j7_read hx hb hown hK (C := RX1) (T := TX1) (N := 17) rfl hly_3_2 hlk_15 (hh_20.at 0 rfl) dX1_isSentence_41 ?_
              refine lv_aload_n hx hb dX1_isSentence_44 rfl (lv_at hl 0 rfl) ?_
              refine j7_read hx hb hown hK (C := RX1) (T := TX1) (N := 17) rfl hly_3_5 hlk_18 (hh_20.at 2 rfl) dX1_isSentence_45 ?_
              refine lv_iload_n hx hb dX1_isSentence_48 rfl (lv_at hl 1 rfl) ?_
              refine j7_ialdM hx hb hK hh_20 hB171 1 rfl (by decide) hg_starts_5 (x := a1.toInt) (rfl) (by omega) (j := 1) rfl dX1_isSentence_49 (fun z_22 ez_22 (hz_22 : 0 ≤ z_22.toInt ∧ z_22.toInt ≤ 1500) => ?_)
              have hqz_22 : z_22.toInt = jSo f_starts_6 (a1.toInt) := by unfold jSo; rw [ez_22]
              refine lv_iload_n hx hb dX1_isSentence_50 rfl (lv_at hl 3 rfl) ?_
              refine lv_iadd hx hb dX1_isSentence_51 ?_
              refine lv_topi (fun z_23 ez_23 => ?_)
              have hz_23 : z_23.toInt = z_22.toInt + v3_16.toInt := by rw [ez_23]; exact jb_iadd2 (rfl) (rfl) (by omega)
              refine j7_iald hx hb hK hh_20 hB173 1 rfl (by decide) hg_text_21 (x := z_23.toInt) (rfl) (by omega) dX1_isSentence_52 (fun z_24 (hz_24 : True) => ?_)
              refine lv_aload_n hx hb dX1_isSentence_53 rfl (lv_at hl 2 rfl) ?_
              refine lv_iload_n hx hb dX1_isSentence_54 rfl (lv_at hl 3 rfl) ?_
              refine j7_iald hx hb hK hh_20 hB101 1 rfl (by decide) hg_r2 (x := v3_16.toInt) (rfl) (by omega) dX1_isSentence_55 (fun z_25 (hz_25 : True) => ?_)
              refine lv_icmp_eq (tgt := 61) hx hb dX1_isSentence_56 (by decide) (fun c_26 => ?_) (fun c_26 => ?_)
              · skip
                have c_26' : z_24.toInt = z_25.toInt := jb_eq (rfl) (rfl) c_26
                obtain ⟨z_27, ez_27⟩ : ∃ y : Int32, y = v3_16 + 1 := ⟨_, rfl⟩
                refine lv_iinc (v := z_27) (lv' := [(3, .int z_27), (0, .ref r0), (1, .int a1), (2, .ref r2)]) hx hb dX1_isSentence_61 hl (k := 3) rfl (by rw [ez_27]; rfl) (by decide) rfl (fun ls hl => ?_)
                have hz_27 : z_27.toInt = v3_16.toInt + 1 := by rw [ez_27]; exact jb_iadd2 (rfl) (by decide) (by omega)
                refine lv_goto (tgt := 34) hx hb dX1_isSentence_64 (by decide) ?_
                exact L34 z_27 _ _ (hh_20.sub (L1 := [(r0, 3, 6, .ref ends_9), (r0, 3, 5, .ref starts_5), (r0, 3, 4, .int ps)]) [1, 2, 3] rfl (M1 := [(ends_9, 172, 40, ca 1, f_ends_10), (starts_5, 171, 40, ca 1, f_starts_6)]) [0, 1] rfl (I1 := []) [] rfl) (by first | omega | (refine ⟨?_, ?_⟩ <;> (first | omega | rfl | assumption | decide | exact Or.inl rfl | exact Or.inr rfl | (simp only; omega)))) (by omega) _ (lv_sub hl [1, 2, 3, 0] rfl)
              · skip
                have c_26' : z_24.toInt ≠ z_25.toInt := jb_eq_n (rfl) (rfl) c_26
                refine lv_iconst (v := 0) hx hb dX1_isSentence_59 (by decide) ?_
                rw [hQ]
                exact W.zret (v := 0) hx hb hr (jb_nz (Or.inl rfl)) (fun t ht hW => ⟨⟨0, (), rfl, ⟨(Or.inl rfl), by first | omega | rfl | assumption | decide | exact Or.inl rfl | exact Or.inr rfl | (simp only; omega)⟩, hh_20.rt (M1 := []) [] rfl ht⟩, by rw [ht]; try exact hh_20.1.1, fun q h9 hq => by rw [ht]; try exact hh_20.1.2.1 q h9 hq⟩) hh_20.1.2.2 dX1_isSentence_60
        exact L34 (n2 - (0 : Int32).toInt : Int).toNat.succ 0 _ _ hh_10 (by first | omega | (refine ⟨?_, ?_⟩ <;> (first | omega | rfl | assumption | decide | exact Or.inl rfl | exact Or.inr rfl | (simp only; omega)))) (by omega) _ (lv_sub hl [1, 2, 3, 0] rfl)
      · skip
        have c_15' : z_13.toInt ≠ z_14.toInt := jb_eq_n (rfl) (rfl) c_15
        refine lv_iconst (v := 0) hx hb dX1_isSentence_30 (by decide) ?_
        rw [hQ]
        exact W.zret (v := 0) hx hb hr (jb_nz (Or.inl rfl)) (fun t ht hW => ⟨⟨0, (), rfl, ⟨(Or.inl rfl), by first | omega | rfl | assumption | decide | exact Or.inl rfl | exact Or.inr rfl | (simp only; omega)⟩, hh_10.rt (M1 := []) [] rfl ht⟩, by rw [ht]; try exact hh_10.1.1, fun q h9 hq => by rw [ht]; try exact hh_10.1.2.1 q h9 hq⟩) hh_10.1.2.2 dX1_isSentence_31
set_option maxHeartbeats 4000000 in
set_option maxRecDepth 20000 in
theorem uX1_keepCheckedE (l : Launch) (dC : Nat → ClassId) (dI : Nat → Nat → Nat) (ca : Nat → ClassId) (base : Nat) (B : jF) (hB : jBok B) (hAp : jAp (dC, dI)) (hB3 : ∀ n G a H, B 3 n G a H ↔ jOb (dC, dI) 3 17 (F3 n G) a H) (hB11 : ∀ n G a H, B 11 n G a H ↔ jOb (dC, dI) 11 9 (F11 n G) a H) (hB101 : ∀ n G a H, B 101 n G a H ↔ jAr (dC, dI) (ca 1) (fun j z => True) n a H) (hB171 : ∀ n G a H, B 171 n G a H ↔ jAr (dC, dI) (ca 1) (fun j z => 0 ≤ z.toInt ∧ z.toInt ≤ 1500) n a H) (hB172 : ∀ n G a H, B 172 n G a H ↔ jAr (dC, dI) (ca 1) (fun j z => 0 ≤ z.toInt ∧ z.toInt ≤ 1500) n a H) (hB173 : ∀ n G a H, B 173 n G a H ↔ jAr (dC, dI) (ca 1) (fun j z => True) n a H) (hB210 : ∀ n G a H, B 210 n G a H ↔ jAq (dC, dI) (ca 6) (jQn 11 0) n G a H) (G0 : jT) (H0 : Heap) (r0 : Nat) (sa_ : Nat) (ea_ : Nat) (ps : Int32) (pk : Int32) (ph : Nat) : Met l yX1_keepChecked (jw yX1_keepChecked cX1_keepChecked 3 (some .boolean)) ({ frames := 1, cells := 0, slots := 0, locals := 23 }) (va_Pc [.ref r0] (fun U => U.heap = H0 ∧ jX B base G0 [] H0 ∧ jG dC dI ca base U ∧ jK2 dC dI ca U ∧ G0 r0 = some (3, 0) ∧ G0 sa_ = some (171, 40) ∧ G0 ea_ = some (172, 40) ∧ jP (dC, dI) G0 H0 [(r0, 3, 5, .ref sa_), (r0, 3, 6, .ref ea_), (r0, 3, 4, .int ps), (r0, 3, 10, .int pk)] ∧ jIs (dC, dI) G0 H0 [(jFdo, jDcc dC dI ca G0 (some r0) ph)] ∧ 0 ≤ pk.toInt ∧ pk.toInt ≤ 40 ∧ 0 ≤ ps.toInt ∧ ps.toInt ≤ 40)) (va_Qi (S := Int32) (fun r u => (r = 0 ∨ r = 1) ∧ (0 ≤ u.toInt ∧ u.toInt ≤ ps.toInt ∧ u.toInt ≤ pk.toInt ∧ (r.toInt = 0 ∨ u.toInt < ps.toInt))) (fun u t => ((jRt (dC, dI) B base G0 EX1_keepCheckedE H0 [(r0, 3, 10, .int u)] t.heap) ∧ jOw (dC, dI) G0 3 r0 H0 t.heap) ∧ jIs (dC, dI) G0 t.heap [(jFdo, jDcc dC dI ca G0 (some r0) ph)]) (jA base)) 0 0 (jA base) := by
  refine Met.ofW (cc := cX1_keepChecked) (maxL := 3) (ret := (some .boolean)) (by decide) rfl ?_
  intro p e s m args below meth c s₁ Bd hml hv
  obtain ⟨rfl, hH0, hX, hG, hK2, hg_r0, hg_sa_, hg_ea_, hP0, hI0, hp0, hp1, hp2, hp3⟩ := hv
  have hK := hG.1
  have hx := Bd.exec
  have hb := Bd.bytes
  have hr := Bd.returns
  have hts := atoms_spec (ws := (jw yX1_keepChecked cX1_keepChecked 3 (some .boolean))) Bd.pre
  have htw : ∀ w ∈ jWl, w.before _ s = true := fun w h => hts w (List.mem_cons_of_mem _ h)
  have hown : s.vm.findClass RX1 = some m.cls := findClass_of_methodNamed Bd.named
  have hlocks := Bd.notSynchronized
  obtain ⟨Q, hQ⟩ : ∃ Q, Q = MQ below (va_Qi (S := Int32) (fun r u => (r = 0 ∨ r = 1) ∧ (0 ≤ u.toInt ∧ u.toInt ≤ ps.toInt ∧ u.toInt ≤ pk.toInt ∧ (r.toInt = 0 ∨ u.toInt < ps.toInt))) (fun u t => ((jRt (dC, dI) B base G0 EX1_keepCheckedE H0 [(r0, 3, 10, .int u)] t.heap) ∧ jOw (dC, dI) G0 3 r0 H0 t.heap) ∧ jIs (dC, dI) G0 t.heap [(jFdo, jDcc dC dI ca G0 (some r0) ph)]) (jA base)) ([.ref r0] : List Value).toArray s 0 0 (jA base) := ⟨_, rfl⟩
  rw [← hQ]
  have hl := lv_entry ([.ref r0]) (n := 3) (Nat.le_of_ble_eq_true rfl)
  rw [lg_entry_eq]
  generalize (lg_sl ([.ref r0]) ++ List.replicate (3 - (lg_sl ([.ref r0])).length) Slot.unset).toArray = ls at hl ⊢
  have hl : lv_has ls 3 [(0, .ref r0)] := hl
  generalize hR : (headSpec (jw yX1_keepChecked cX1_keepChecked 3 (some .boolean)) ({ frames := 1, cells := 0, slots := 0, locals := 23 })).room = R
  subst hH0
  have hh : jSt (dC, dI) B base G0 G0 EX1_keepCheckedE s.heap 0 0 [(r0, 3, 5, .ref sa_), (r0, 3, 6, .ref ea_), (r0, 3, 4, .int ps), (r0, 3, 10, .int pk)] [] [(jFdo, jDcc dC dI ca G0 (some r0) ph)] s.heap [] := jSt.start hX hP0 jMc.nil hI0
  clear hX hP0
  have hk0 : (0 : Int32).toInt = 0 := by decide
  have hk1 : (1 : Int32).toInt = 1 := by decide
  have hly_3_9 := htw (u_lay RX1 TX1 9) (jWc_wsX10 _ (u_in_lay (by decide)))
  have hly_3_10 := htw (u_lay RX1 TX1 10) (jWc_wsX10 _ (u_in_lay (by decide)))
  have hly_3_11 := htw (u_lay RX1 TX1 11) (jWc_wsX10 _ (u_in_lay (by decide)))
  have hly_11_1 := htw (u_lay RX9 TX9 1) (jWc_wsX90 _ (u_in_lay (by decide)))
  have hlk_72 := (htw (.fieldLink RX1 72 "ProofServer$Document" "checked" "I") (jWr_42 _ (List.mem_of_getElem? (i := 20) rfl)))
  have hlk_32 := (htw (.fieldLink RX1 32 "ProofServer$Document" "behind" "[LProofServer$State;") (jWr_10 _ (List.mem_of_getElem? (i := 12) rfl)))
  have hlk_98 := (htw (.fieldLink RX1 98 "ProofServer$State" "units" "[I") (jWr_42 _ (List.mem_of_getElem? (i := 21) rfl)))
  have hlk_105 := (htw (.fieldLink RX1 105 "ProofServer$Document" "checking" "[I") (jWr_42 _ (List.mem_of_getElem? (i := 22) rfl)))
  have hh_1 := hh.addI (jOw.ie (dC := dC) (dI := dI) (G0 := G0) (k := 3) (r := r0) (H0 := s.heap) (F := [(3, 0), (3, 1), (3, 2), (3, 3), (3, 4), (3, 5), (3, 6), (3, 7), (3, 8), (3, 9), (3, 10), (3, 11), (3, 12), (3, 13), (3, 14), (3, 15), (3, 16)]) (C := RX1) (T := TX1) (N := 17) rfl (by decide) hh.2.2.2.2.1 (jOw.rf))
  clear hh
  refine lv_iconst (v := 0) hx hb dX1_keepChecked_0 (by decide) ?_
  refine lv_istore_n (lv' := [(1, .int 0), (0, .ref r0)]) hx hb dX1_keepChecked_1 rfl hl (by decide) rfl (fun ls hl => ?_)
  obtain ⟨v_2, hv_2, hh_3⟩ := hh_1.pin (C := RX1) (T := TX1) (N := 17) hB3 rfl (by decide) hg_r0 (i := 9) (by decide) rfl
  obtain ⟨behind_4, rfl, hg_behind_4⟩ := hv_2
  have L2 : ∀ (N : Nat) (v1_5 : Int32) (H_5 : Heap) (locs_5 : List Loc), jSt (dC, dI) B base G0 G0 EX1_keepCheckedE s.heap 0 0 [(r0, 3, 9, .ref behind_4), (r0, 3, 5, .ref sa_), (r0, 3, 6, .ref ea_), (r0, 3, 4, .int ps), (r0, 3, 10, .int pk)] [] [([(3, 0), (3, 1), (3, 2), (3, 3), (3, 4), (3, 5), (3, 6), (3, 7), (3, 8), (3, 9), (3, 10), (3, 11), (3, 12), (3, 13), (3, 14), (3, 15), (3, 16)], jOw (dC, dI) G0 3 r0 s.heap), (jFdo, jDcc dC dI ca G0 (some r0) ph)] H_5 locs_5 → (0 ≤ v1_5.toInt ∧ v1_5.toInt ≤ pk.toInt ∧ v1_5.toInt ≤ ps.toInt) → (pk.toInt - v1_5.toInt : Int) < N → ∀ ls : Array Slot, lv_has ls 3 [(0, .ref r0), (1, .int v1_5)] → W p l e R s m ([.ref r0] : List Value).toArray below meth c H_5 locs_5 0 0 Q (F0 m 2 ls []) := by
    intro N
    induction N with
    | zero => intro v1_5 H_5 locs_5 hh_5  hi_5 hm; exact absurd hm (by omega)
    | succ N L2 =>
      intro v1_5 H_5 locs_5 hh_5  hi_5 hm_5 ls hl
      obtain ⟨hi_5_0, hi_5_1, hi_5_2⟩ := hi_5
      obtain ⟨fq_6, hfq_6a, hfq_6p⟩ := hh_5.aq hB210 (by decide) hg_behind_4
      have hh_7 := hh_5.addI (jQc.ie hfq_6a hg_behind_4 (by decide) (by decide))
      clear hh_5
      refine lv_iload_n hx hb dX1_keepChecked_2 rfl (lv_at hl 1 rfl) ?_
      refine lv_aload_n hx hb dX1_keepChecked_3 rfl (lv_at hl 0 rfl) ?_
      refine j7_read hx hb hown hK (C := RX1) (T := TX1) (N := 17) rfl hly_3_10 hlk_72 (hh_7.at 4 rfl) dX1_keepChecked_4 ?_
      refine lv_icmp_ge (tgt := 42) hx hb dX1_keepChecked_7 (by decide) (fun c_8 => ?_) (fun c_8 => ?_)
      · skip
        have c_8' : v1_5.toInt ≥ pk.toInt := jb_ge (rfl) (rfl) c_8
        refine lv_iload_n hx hb dX1_keepChecked_42 rfl (lv_at hl 1 rfl) ?_
        refine lv_aload_n hx hb dX1_keepChecked_43 rfl (lv_at hl 0 rfl) ?_
        refine j7_read hx hb hown hK (C := RX1) (T := TX1) (N := 17) rfl hly_3_10 hlk_72 (hh_7.at 4 rfl) dX1_keepChecked_44 ?_
        refine lv_icmp_ne (tgt := 73) hx hb dX1_keepChecked_47 (by decide) (fun c_9 => ?_) (fun c_9 => ?_)
        · skip
          have c_9' : v1_5.toInt ≠ pk.toInt := jb_ne (rfl) (rfl) c_9
          refine lv_iconst (v := 0) hx hb dX1_keepChecked_73 (by decide) ?_
          refine lv_istore_n (lv' := [(2, .int 0), (0, .ref r0), (1, .int v1_5)]) hx hb dX1_keepChecked_74 rfl hl (by decide) rfl (fun ls hl => ?_)
          refine lv_aload_n hx hb dX1_keepChecked_75 rfl (lv_at hl 1 rfl) ?_
          refine lv_iload_n hx hb dX1_keepChecked_76 rfl (lv_at hl 2 rfl) ?_
          have hd_11 := hh_7.iv 2 rfl
          have hd_115 := hh_7.at 1 rfl
          have hd_116 := hh_7.at 2 rfl
          have hd_11o := hh_7.iv 1 rfl
          have hh_12 := hh_7.sub (L1 := [(r0, 3, 9, .ref behind_4), (r0, 3, 5, .ref sa_), (r0, 3, 6, .ref ea_), (r0, 3, 4, .int ps), (r0, 3, 10, .int pk)]) [0, 1, 2, 3, 4] rfl (M1 := []) [] rfl (I1 := [([(210, 0)], jQc dC dI (ca 6) behind_4 40 fq_6)]) [0] rfl
          clear hh_7
          refine j7_putX hx hb hown hK hh_12 hB hAp hB3 (C := RX1) (T := TX1) (N := 17) rfl (by decide) hg_r0 (i := 10) (by decide) hly_3_10 rfl hlk_72 rfl (ty := .int) (v := .int v1_5) (by decide +kernel) rfl rfl (⟨_, rfl, by omega, by omega⟩) rfl (L1 := [(r0, 3, 9, .ref behind_4), (r0, 3, 5, .ref sa_), (r0, 3, 6, .ref ea_), (r0, 3, 4, .int ps)]) [0, 1, 2, 3] rfl rfl rfl dX1_keepChecked_77 (fun H_10 locs_10 hr_10 hh_10 => ?_)
          clear hh_12
          have hd_11n := jDcc.fld hd_11 hg_r0 hr_10 hd_115 hd_116 (hh_10.at 2 rfl) (hh_10.at 3 rfl)
          have hd_11on := jOw.put hd_11o hr_10
          have hh_13 := hh_10.addI (jDcc.ie hd_11n)
          clear hh_10
          have hh_14 := hh_13.addI (jOw.ie (dC := dC) (dI := dI) (G0 := G0) (k := 3) (r := r0) (H0 := s.heap) (F := [(3, 0), (3, 1), (3, 2), (3, 3), (3, 4), (3, 5), (3, 6), (3, 7), (3, 8), (3, 9), (3, 10), (3, 11), (3, 12), (3, 13), (3, 14), (3, 15), (3, 16)]) (C := RX1) (T := TX1) (N := 17) rfl (by decide) hh_13.2.2.2.2.1 (hd_11on))
          clear hh_13
          clear hd_11 hd_11n hd_115 hd_116 hr_10 hd_11o hd_11on
          refine lv_iload_n hx hb dX1_keepChecked_80 rfl (lv_at hl 0 rfl) ?_
          rw [hQ]
          exact W.zret (v := 0) hx hb hr (jb_nz (Or.inl rfl)) (fun t ht hW => ⟨⟨0, v1_5, rfl, ⟨(Or.inl rfl), by (try dsimp only); first | omega | (refine ⟨?_, ?_, ?_, ?_⟩ <;> (first | omega | rfl | assumption | decide | exact Or.inl rfl | exact Or.inr rfl | (simp only; omega)))⟩, ⟨⟨hh_14.rt (M1 := [(r0, 3, 10, .int v1_5)]) [0] rfl ht, by rw [ht]; exact hh_14.iv 0 rfl⟩, by rw [ht]; exact hh_14.2.2.2.2.2.2.2.2.sub (L1 := [(jFdo, jDcc dC dI ca G0 (some r0) ph)]) [1] rfl⟩⟩, by rw [ht]; try exact hh_14.1.1, fun q h9 hq => by rw [ht]; try exact hh_14.1.2.1 q h9 hq⟩) hh_14.1.2.2 dX1_keepChecked_81
        · skip
          have c_9' : v1_5.toInt = pk.toInt := jb_ne_n (rfl) (rfl) c_9
          refine lv_aload_n hx hb dX1_keepChecked_50 rfl (lv_at hl 0 rfl) ?_
          obtain ⟨v_15, hv_15, hh_16⟩ := hh_7.pin (C := RX1) (T := TX1) (N := 17) hB3 rfl (by decide) hg_r0 (i := 11) (by decide) rfl
          clear hh_7
          rcases hv_15 with rfl | ⟨checking_17, nchecking_17, rfl, hg_checking_17, hn_checking_17⟩
          · refine j7_read hx hb hown hK (C := RX1) (T := TX1) (N := 17) rfl hly_3_11 hlk_105 (hh_16.at 0 rfl) dX1_keepChecked_51 ?_
            refine lv_ifnullN (tgt := 73) hx hb dX1_keepChecked_54 (by decide) ?_
            refine lv_iconst (v := 0) hx hb dX1_keepChecked_73 (by decide) ?_
            refine lv_istore_n (lv' := [(2, .int 0), (0, .ref r0), (1, .int v1_5)]) hx hb dX1_keepChecked_74 rfl hl (by decide) rfl (fun ls hl => ?_)
            refine lv_aload_n hx hb dX1_keepChecked_75 rfl (lv_at hl 1 rfl) ?_
            refine lv_iload_n hx hb dX1_keepChecked_76 rfl (lv_at hl 2 rfl) ?_
            have hd_19 := hh_16.iv 2 rfl
            have hd_195 := hh_16.at 2 rfl
            have hd_196 := hh_16.at 3 rfl
            have hd_19o := hh_16.iv 1 rfl
            have hh_20 := hh_16.sub (L1 := [(r0, 3, 11, .null), (r0, 3, 9, .ref behind_4), (r0, 3, 5, .ref sa_), (r0, 3, 6, .ref ea_), (r0, 3, 4, .int ps), (r0, 3, 10, .int pk)]) [0, 1, 2, 3, 4, 5] rfl (M1 := []) [] rfl (I1 := [([(210, 0)], jQc dC dI (ca 6) behind_4 40 fq_6)]) [0] rfl
            clear hh_16
            refine j7_putX hx hb hown hK hh_20 hB hAp hB3 (C := RX1) (T := TX1) (N := 17) rfl (by decide) hg_r0 (i := 10) (by decide) hly_3_10 rfl hlk_72 rfl (ty := .int) (v := .int v1_5) (by decide +kernel) rfl rfl (⟨_, rfl, by omega, by omega⟩) rfl (L1 := [(r0, 3, 11, .null), (r0, 3, 9, .ref behind_4), (r0, 3, 5, .ref sa_), (r0, 3, 6, .ref ea_), (r0, 3, 4, .int ps)]) [0, 1, 2, 3, 4] rfl rfl rfl dX1_keepChecked_77 (fun H_18 locs_18 hr_18 hh_18 => ?_)
            clear hh_20
            have hd_19n := jDcc.fld hd_19 hg_r0 hr_18 hd_195 hd_196 (hh_18.at 3 rfl) (hh_18.at 4 rfl)
            have hd_19on := jOw.put hd_19o hr_18
            have hh_21 := hh_18.addI (jDcc.ie hd_19n)
            clear hh_18
            have hh_22 := hh_21.addI (jOw.ie (dC := dC) (dI := dI) (G0 := G0) (k := 3) (r := r0) (H0 := s.heap) (F := [(3, 0), (3, 1), (3, 2), (3, 3), (3, 4), (3, 5), (3, 6), (3, 7), (3, 8), (3, 9), (3, 10), (3, 11), (3, 12), (3, 13), (3, 14), (3, 15), (3, 16)]) (C := RX1) (T := TX1) (N := 17) rfl (by decide) hh_21.2.2.2.2.1 (hd_19on))
            clear hh_21
            clear hd_19 hd_19n hd_195 hd_196 hr_18 hd_19o hd_19on
            refine lv_iload_n hx hb dX1_keepChecked_80 rfl (lv_at hl 0 rfl) ?_
            rw [hQ]
            exact W.zret (v := 0) hx hb hr (jb_nz (Or.inl rfl)) (fun t ht hW => ⟨⟨0, v1_5, rfl, ⟨(Or.inl rfl), by (try dsimp only); first | omega | (refine ⟨?_, ?_, ?_, ?_⟩ <;> (first | omega | rfl | assumption | decide | exact Or.inl rfl | exact Or.inr rfl | (simp only; omega)))⟩, ⟨⟨hh_22.rt (M1 := [(r0, 3, 10, .int v1_5)]) [0] rfl ht, by rw [ht]; exact hh_22.iv 0 rfl⟩, by rw [ht]; exact hh_22.2.2.2.2.2.2.2.2.sub (L1 := [(jFdo, jDcc dC dI ca G0 (some r0) ph)]) [1] rfl⟩⟩, by rw [ht]; try exact hh_22.1.1, fun q h9 hq => by rw [ht]; try exact hh_22.1.2.1 q h9 hq⟩) hh_22.1.2.2 dX1_keepChecked_81
          · refine j7_read hx hb hown hK (C := RX1) (T := TX1) (N := 17) rfl hly_3_11 hlk_105 (hh_16.at 0 rfl) dX1_keepChecked_51 ?_
            refine lv_ifnull hx hb dX1_keepChecked_54 ?_
            refine lv_aload_n hx hb dX1_keepChecked_57 rfl (lv_at hl 0 rfl) ?_
            refine lv_iload_n hx hb dX1_keepChecked_58 rfl (lv_at hl 1 rfl) ?_
            refine lv_aload_n hx hb dX1_keepChecked_59 rfl (lv_at hl 0 rfl) ?_
            refine j7_read hx hb hown hK (C := RX1) (T := TX1) (N := 17) rfl hly_3_11 hlk_105 (hh_16.at 0 rfl) dX1_keepChecked_60 ?_
            refine va_calli (A0 := jA base) (H0 := s.heap) (va_runV (As := [.int v1_5, .ref checking_17]) (rest := []) ⟨hx, hb, hml, hown, hts⟩ (uX1_isSentenceE l dC dI ca base B hB hAp hB3 hB101 hB171 hB172 hB173 G0 H_5 r0 v1_5 checking_17 nchecking_17 ps) (cwV 2 hts (jgV (jWr_42 _ (List.mem_of_getElem? (i := 23) rfl)) (jWr_43 _ (List.mem_of_getElem? (i := 0) rfl)) (jWr_43 _ (List.mem_of_getElem? (i := 1) rfl)) (jWr_2 _ (List.mem_of_getElem? (i := 21) rfl)) (jWr_43 _ (List.mem_of_getElem? (i := 2) rfl))) rfl rfl rfl (by decide +kernel) ⟨by rw [← hR]; exact Nat.le_of_ble_eq_true rfl, by rw [← hR]; exact Nat.le_of_ble_eq_true rfl⟩) ⟨fun a U g mk q => by obtain ⟨q0, q1, q2, qK, q10, q11, q12, q13⟩ := q; exact ⟨q0, q1, q2, jG.calling g mk a qK, q10, q11, q12, q13⟩, hh_16.recv (C := RX1) (T := TX1) (N := 17) hB3 rfl (by decide) hg_r0 hK, fun U hU hW => ⟨rfl, hU, hh_16.2.1, hG.step hW hU hh_16.1, hg_r0, hg_checking_17, (hh_16.2.2.1.sub (L1 := [(r0, 3, 4, .int ps)]) [4] rfl), by first | omega | (refine ⟨?_, ?_⟩ <;> (first | omega | rfl | assumption | decide | exact Or.inl rfl | exact Or.inr rfl | (simp only; omega)))⟩⟩ rfl rfl hl.1 rfl (lv_room (Nat.le_of_ble_eq_true rfl)) dX1_keepChecked_63 ⟨Nat.zero_le _, Nat.zero_le _⟩) hh_16.1 (fun q _ h => h) (fun q h => h) (fun r_24 u_23 t_23 H_23 locs_23 ht_23 hvm_23 hr_24 hb_23 hz_23 hk_23 hS_23 => ?_)
            rw [ht_23] at hb_23
            obtain ⟨hb_231, hb_232, hb_233, hb_234, hb_235⟩ := hb_23
            have hh_23 : jSt (dC, dI) B base G0 G0 EX1_keepCheckedE s.heap 0 0 [(r0, 3, 11, .ref checking_17), (r0, 3, 9, .ref behind_4), (r0, 3, 5, .ref sa_), (r0, 3, 6, .ref ea_), (r0, 3, 4, .int ps), (r0, 3, 10, .int pk)] [] [([(210, 0)], jQc dC dI (ca 6) behind_4 40 fq_6), ([(3, 0), (3, 1), (3, 2), (3, 3), (3, 4), (3, 5), (3, 6), (3, 7), (3, 8), (3, 9), (3, 10), (3, 11), (3, 12), (3, 13), (3, 14), (3, 15), (3, 16)], jOw (dC, dI) G0 3 r0 s.heap), (jFdo, jDcc dC dI ca G0 (some r0) ph)] H_23 locs_23 := ((hh_16.call hb_231 hb_232 hb_233 hb_234 hS_23 rfl (L1 := [(r0, 3, 11, .ref checking_17), (r0, 3, 9, .ref behind_4), (r0, 3, 5, .ref sa_), (r0, 3, 6, .ref ea_), (r0, 3, 4, .int ps), (r0, 3, 10, .int pk)]) [0, 1, 2, 3, 4, 5] rfl rfl (M1 := []) [] rfl rfl (I1 := [([(210, 0)], jQc dC dI (ca 6) behind_4 40 fq_6), ([(3, 0), (3, 1), (3, 2), (3, 3), (3, 4), (3, 5), (3, 6), (3, 7), (3, 8), (3, 9), (3, 10), (3, 11), (3, 12), (3, 13), (3, 14), (3, 15), (3, 16)], jOw (dC, dI) G0 3 r0 s.heap), (jFdo, jDcc dC dI ca G0 (some r0) ph)]) [0, 1, 2] rfl rfl).more hb_235)
            clear hh_16 ht_23 hvm_23 hz_23 hk_23 hS_23 hb_231 hb_232 hb_233 hb_234 hb_235
            obtain ⟨hr_24b, hr_24p⟩ := hr_24
            have hr_24' := jb_01 hr_24b
            refine lv_if_eq (tgt := 73) hx hb dX1_keepChecked_66 (by decide) (fun c_25 => ?_) (fun c_25 => ?_)
            · skip
              have c_25' : r_24.toInt = 0 := jb_eq (rfl) ((by decide)) c_25
              first | (have hr_24pq := hr_24p.resolve_left (by omega); clear hr_24p) | (have hr_24pq := hr_24p.resolve_right (by omega); clear hr_24p) | try clear hr_24p
              refine lv_iconst (v := 0) hx hb dX1_keepChecked_73 (by decide) ?_
              refine lv_istore_n (lv' := [(2, .int 0), (0, .ref r0), (1, .int v1_5)]) hx hb dX1_keepChecked_74 rfl hl (by decide) rfl (fun ls hl => ?_)
              refine lv_aload_n hx hb dX1_keepChecked_75 rfl (lv_at hl 1 rfl) ?_
              refine lv_iload_n hx hb dX1_keepChecked_76 rfl (lv_at hl 2 rfl) ?_
              have hd_27 := hh_23.iv 2 rfl
              have hd_275 := hh_23.at 2 rfl
              have hd_276 := hh_23.at 3 rfl
              have hd_27o := hh_23.iv 1 rfl
              have hh_28 := hh_23.sub (L1 := [(r0, 3, 11, .ref checking_17), (r0, 3, 9, .ref behind_4), (r0, 3, 5, .ref sa_), (r0, 3, 6, .ref ea_), (r0, 3, 4, .int ps), (r0, 3, 10, .int pk)]) [0, 1, 2, 3, 4, 5] rfl (M1 := []) [] rfl (I1 := [([(210, 0)], jQc dC dI (ca 6) behind_4 40 fq_6)]) [0] rfl
              clear hh_23
              refine j7_putX hx hb hown hK hh_28 hB hAp hB3 (C := RX1) (T := TX1) (N := 17) rfl (by decide) hg_r0 (i := 10) (by decide) hly_3_10 rfl hlk_72 rfl (ty := .int) (v := .int v1_5) (by decide +kernel) rfl rfl (⟨_, rfl, by omega, by omega⟩) rfl (L1 := [(r0, 3, 11, .ref checking_17), (r0, 3, 9, .ref behind_4), (r0, 3, 5, .ref sa_), (r0, 3, 6, .ref ea_), (r0, 3, 4, .int ps)]) [0, 1, 2, 3, 4] rfl rfl rfl dX1_keepChecked_77 (fun H_26 locs_26 hr_26 hh_26 => ?_)
              clear hh_28
              have hd_27n := jDcc.fld hd_27 hg_r0 hr_26 hd_275 hd_276 (hh_26.at 3 rfl) (hh_26.at 4 rfl)
              have hd_27on := jOw.put hd_27o hr_26
              have hh_29 := hh_26.addI (jDcc.ie hd_27n)
              clear hh_26
              have hh_30 := hh_29.addI (jOw.ie (dC := dC) (dI := dI) (G0 := G0) (k := 3) (r := r0) (H0 := s.heap) (F := [(3, 0), (3, 1), (3, 2), (3, 3), (3, 4), (3, 5), (3, 6), (3, 7), (3, 8), (3, 9), (3, 10), (3, 11), (3, 12), (3, 13), (3, 14), (3, 15), (3, 16)]) (C := RX1) (T := TX1) (N := 17) rfl (by decide) hh_29.2.2.2.2.1 (hd_27on))
              clear hh_29
              clear hd_27 hd_27n hd_275 hd_276 hr_26 hd_27o hd_27on
              refine lv_iload_n hx hb dX1_keepChecked_80 rfl (lv_at hl 0 rfl) ?_
              rw [hQ]
              exact W.zret (v := 0) hx hb hr (jb_nz (Or.inl rfl)) (fun t ht hW => ⟨⟨0, v1_5, rfl, ⟨(Or.inl rfl), by (try dsimp only); first | omega | (refine ⟨?_, ?_, ?_, ?_⟩ <;> (first | omega | rfl | assumption | decide | exact Or.inl rfl | exact Or.inr rfl | (simp only; omega)))⟩, ⟨⟨hh_30.rt (M1 := [(r0, 3, 10, .int v1_5)]) [0] rfl ht, by rw [ht]; exact hh_30.iv 0 rfl⟩, by rw [ht]; exact hh_30.2.2.2.2.2.2.2.2.sub (L1 := [(jFdo, jDcc dC dI ca G0 (some r0) ph)]) [1] rfl⟩⟩, by rw [ht]; try exact hh_30.1.1, fun q h9 hq => by rw [ht]; try exact hh_30.1.2.1 q h9 hq⟩) hh_30.1.2.2 dX1_keepChecked_81
            · skip
              have c_25' : r_24.toInt ≠ 0 := jb_eq_n (rfl) ((by decide)) c_25
              first | (have hr_24pq := hr_24p.resolve_left (by omega); clear hr_24p) | (have hr_24pq := hr_24p.resolve_right (by omega); clear hr_24p) | try clear hr_24p
              refine lv_iconst (v := 1) hx hb dX1_keepChecked_69 (by decide) ?_
              refine lv_goto (tgt := 74) hx hb dX1_keepChecked_70 (by decide) ?_
              refine lv_istore_n (lv' := [(2, .int 1), (0, .ref r0), (1, .int v1_5)]) hx hb dX1_keepChecked_74 rfl hl (by decide) rfl (fun ls hl => ?_)
              refine lv_aload_n hx hb dX1_keepChecked_75 rfl (lv_at hl 1 rfl) ?_
              refine lv_iload_n hx hb dX1_keepChecked_76 rfl (lv_at hl 2 rfl) ?_
              have hd_32 := hh_23.iv 2 rfl
              have hd_325 := hh_23.at 2 rfl
              have hd_326 := hh_23.at 3 rfl
              have hd_32o := hh_23.iv 1 rfl
              have hh_33 := hh_23.sub (L1 := [(r0, 3, 11, .ref checking_17), (r0, 3, 9, .ref behind_4), (r0, 3, 5, .ref sa_), (r0, 3, 6, .ref ea_), (r0, 3, 4, .int ps), (r0, 3, 10, .int pk)]) [0, 1, 2, 3, 4, 5] rfl (M1 := []) [] rfl (I1 := [([(210, 0)], jQc dC dI (ca 6) behind_4 40 fq_6)]) [0] rfl
              clear hh_23
              refine j7_putX hx hb hown hK hh_33 hB hAp hB3 (C := RX1) (T := TX1) (N := 17) rfl (by decide) hg_r0 (i := 10) (by decide) hly_3_10 rfl hlk_72 rfl (ty := .int) (v := .int v1_5) (by decide +kernel) rfl rfl (⟨_, rfl, by omega, by omega⟩) rfl (L1 := [(r0, 3, 11, .ref checking_17), (r0, 3, 9, .ref behind_4), (r0, 3, 5, .ref sa_), (r0, 3, 6, .ref ea_), (r0, 3, 4, .int ps)]) [0, 1, 2, 3, 4] rfl rfl rfl dX1_keepChecked_77 (fun H_31 locs_31 hr_31 hh_31 => ?_)
              clear hh_33
              have hd_32n := jDcc.fld hd_32 hg_r0 hr_31 hd_325 hd_326 (hh_31.at 3 rfl) (hh_31.at 4 rfl)
              have hd_32on := jOw.put hd_32o hr_31
              have hh_34 := hh_31.addI (jDcc.ie hd_32n)
              clear hh_31
              have hh_35 := hh_34.addI (jOw.ie (dC := dC) (dI := dI) (G0 := G0) (k := 3) (r := r0) (H0 := s.heap) (F := [(3, 0), (3, 1), (3, 2), (3, 3), (3, 4), (3, 5), (3, 6), (3, 7), (3, 8), (3, 9), (3, 10), (3, 11), (3, 12), (3, 13), (3, 14), (3, 15), (3, 16)]) (C := RX1) (T := TX1) (N := 17) rfl (by decide) hh_34.2.2.2.2.1 (hd_32on))
              clear hh_34
              clear hd_32 hd_32n hd_325 hd_326 hr_31 hd_32o hd_32on
              refine lv_iload_n hx hb dX1_keepChecked_80 rfl (lv_at hl 0 rfl) ?_
              rw [hQ]
              exact W.zret (v := 1) hx hb hr (jb_nz (Or.inr rfl)) (fun t ht hW => ⟨⟨1, v1_5, rfl, ⟨(Or.inr rfl), by (try dsimp only); first | omega | (refine ⟨?_, ?_, ?_, ?_⟩ <;> (first | omega | rfl | assumption | decide | exact Or.inl rfl | exact Or.inr rfl | (simp only; omega)))⟩, ⟨⟨hh_35.rt (M1 := [(r0, 3, 10, .int v1_5)]) [0] rfl ht, by rw [ht]; exact hh_35.iv 0 rfl⟩, by rw [ht]; exact hh_35.2.2.2.2.2.2.2.2.sub (L1 := [(jFdo, jDcc dC dI ca G0 (some r0) ph)]) [1] rfl⟩⟩, by rw [ht]; try exact hh_35.1.1, fun q h9 hq => by rw [ht]; try exact hh_35.1.2.1 q h9 hq⟩) hh_35.1.2.2 dX1_keepChecked_81
      · skip
        have c_8' : v1_5.toInt < pk.toInt := jb_ge_n (rfl) (rfl) c_8
        refine lv_aload_n hx hb dX1_keepChecked_10 rfl (lv_at hl 0 rfl) ?_
        refine j7_read hx hb hown hK (C := RX1) (T := TX1) (N := 17) rfl hly_3_9 hlk_32 (hh_7.at 0 rfl) dX1_keepChecked_11 ?_
        refine lv_iload_n hx hb dX1_keepChecked_14 rfl (lv_at hl 1 rfl) ?_
        refine j7_qaldI hx hb hK2 hh_7 hB210 2 rfl (by decide) hg_behind_4 (x := v1_5.toInt) (rfl) (by omega) (hh_7.iv 0 rfl) dX1_keepChecked_15 (fun o_36 ho_36 heo_36 => ?_)
        rcases ho_36 with rfl | ⟨el_37, rfl, hg_el_37⟩
        · simp only [va_rf]
          refine lv_ifnullN (tgt := 42) hx hb dX1_keepChecked_16 (by decide) ?_
          refine lv_iload_n hx hb dX1_keepChecked_42 rfl (lv_at hl 1 rfl) ?_
          refine lv_aload_n hx hb dX1_keepChecked_43 rfl (lv_at hl 0 rfl) ?_
          refine j7_read hx hb hown hK (C := RX1) (T := TX1) (N := 17) rfl hly_3_10 hlk_72 (hh_7.at 4 rfl) dX1_keepChecked_44 ?_
          refine lv_icmp_ne (tgt := 73) hx hb dX1_keepChecked_47 (by decide) (fun c_38 => ?_) (fun c_38 => ?_)
          · skip
            have c_38' : v1_5.toInt ≠ pk.toInt := jb_ne (rfl) (rfl) c_38
            refine lv_iconst (v := 0) hx hb dX1_keepChecked_73 (by decide) ?_
            refine lv_istore_n (lv' := [(2, .int 0), (0, .ref r0), (1, .int v1_5)]) hx hb dX1_keepChecked_74 rfl hl (by decide) rfl (fun ls hl => ?_)
            refine lv_aload_n hx hb dX1_keepChecked_75 rfl (lv_at hl 1 rfl) ?_
            refine lv_iload_n hx hb dX1_keepChecked_76 rfl (lv_at hl 2 rfl) ?_
            have hd_40 := hh_7.iv 2 rfl
            have hd_405 := hh_7.at 1 rfl
            have hd_406 := hh_7.at 2 rfl
            have hd_40o := hh_7.iv 1 rfl
            have hh_41 := hh_7.sub (L1 := [(r0, 3, 9, .ref behind_4), (r0, 3, 5, .ref sa_), (r0, 3, 6, .ref ea_), (r0, 3, 4, .int ps), (r0, 3, 10, .int pk)]) [0, 1, 2, 3, 4] rfl (M1 := []) [] rfl (I1 := [([(210, 0)], jQc dC dI (ca 6) behind_4 40 fq_6)]) [0] rfl
            clear hh_7
            refine j7_putX hx hb hown hK hh_41 hB hAp hB3 (C := RX1) (T := TX1) (N := 17) rfl (by decide) hg_r0 (i := 10) (by decide) hly_3_10 rfl hlk_72 rfl (ty := .int) (v := .int v1_5) (by decide +kernel) rfl rfl (⟨_, rfl, by omega, by omega⟩) rfl (L1 := [(r0, 3, 9, .ref behind_4), (r0, 3, 5, .ref sa_), (r0, 3, 6, .ref ea_), (r0, 3, 4, .int ps)]) [0, 1, 2, 3] rfl rfl rfl dX1_keepChecked_77 (fun H_39 locs_39 hr_39 hh_39 => ?_)
            clear hh_41
            have hd_40n := jDcc.fld hd_40 hg_r0 hr_39 hd_405 hd_406 (hh_39.at 2 rfl) (hh_39.at 3 rfl)
            have hd_40on := jOw.put hd_40o hr_39
            have hh_42 := hh_39.addI (jDcc.ie hd_40n)
            clear hh_39
            have hh_43 := hh_42.addI (jOw.ie (dC := dC) (dI := dI) (G0 := G0) (k := 3) (r := r0) (H0 := s.heap) (F := [(3, 0), (3, 1), (3, 2), (3, 3), (3, 4), (3, 5), (3, 6), (3, 7), (3, 8), (3, 9), (3, 10), (3, 11), (3, 12), (3, 13), (3, 14), (3, 15), (3, 16)]) (C := RX1) (T := TX1) (N := 17) rfl (by decide) hh_42.2.2.2.2.1 (hd_40on))
            clear hh_42
            clear hd_40 hd_40n hd_405 hd_406 hr_39 hd_40o hd_40on
            refine lv_iload_n hx hb dX1_keepChecked_80 rfl (lv_at hl 0 rfl) ?_
            rw [hQ]
            exact W.zret (v := 0) hx hb hr (jb_nz (Or.inl rfl)) (fun t ht hW => ⟨⟨0, v1_5, rfl, ⟨(Or.inl rfl), by (try dsimp only); first | omega | (refine ⟨?_, ?_, ?_, ?_⟩ <;> (first | omega | rfl | assumption | decide | exact Or.inl rfl | exact Or.inr rfl | (simp only; omega)))⟩, ⟨⟨hh_43.rt (M1 := [(r0, 3, 10, .int v1_5)]) [0] rfl ht, by rw [ht]; exact hh_43.iv 0 rfl⟩, by rw [ht]; exact hh_43.2.2.2.2.2.2.2.2.sub (L1 := [(jFdo, jDcc dC dI ca G0 (some r0) ph)]) [1] rfl⟩⟩, by rw [ht]; try exact hh_43.1.1, fun q h9 hq => by rw [ht]; try exact hh_43.1.2.1 q h9 hq⟩) hh_43.1.2.2 dX1_keepChecked_81
          · skip
            have c_38' : v1_5.toInt = pk.toInt := jb_ne_n (rfl) (rfl) c_38
            refine lv_aload_n hx hb dX1_keepChecked_50 rfl (lv_at hl 0 rfl) ?_
            obtain ⟨v_44, hv_44, hh_45⟩ := hh_7.pin (C := RX1) (T := TX1) (N := 17) hB3 rfl (by decide) hg_r0 (i := 11) (by decide) rfl
            clear hh_7
            rcases hv_44 with rfl | ⟨checking_46, nchecking_46, rfl, hg_checking_46, hn_checking_46⟩
            · refine j7_read hx hb hown hK (C := RX1) (T := TX1) (N := 17) rfl hly_3_11 hlk_105 (hh_45.at 0 rfl) dX1_keepChecked_51 ?_
              refine lv_ifnullN (tgt := 73) hx hb dX1_keepChecked_54 (by decide) ?_
              refine lv_iconst (v := 0) hx hb dX1_keepChecked_73 (by decide) ?_
              refine lv_istore_n (lv' := [(2, .int 0), (0, .ref r0), (1, .int v1_5)]) hx hb dX1_keepChecked_74 rfl hl (by decide) rfl (fun ls hl => ?_)
              refine lv_aload_n hx hb dX1_keepChecked_75 rfl (lv_at hl 1 rfl) ?_
              refine lv_iload_n hx hb dX1_keepChecked_76 rfl (lv_at hl 2 rfl) ?_
              have hd_48 := hh_45.iv 2 rfl
              have hd_485 := hh_45.at 2 rfl
              have hd_486 := hh_45.at 3 rfl
              have hd_48o := hh_45.iv 1 rfl
              have hh_49 := hh_45.sub (L1 := [(r0, 3, 11, .null), (r0, 3, 9, .ref behind_4), (r0, 3, 5, .ref sa_), (r0, 3, 6, .ref ea_), (r0, 3, 4, .int ps), (r0, 3, 10, .int pk)]) [0, 1, 2, 3, 4, 5] rfl (M1 := []) [] rfl (I1 := [([(210, 0)], jQc dC dI (ca 6) behind_4 40 fq_6)]) [0] rfl
              clear hh_45
              refine j7_putX hx hb hown hK hh_49 hB hAp hB3 (C := RX1) (T := TX1) (N := 17) rfl (by decide) hg_r0 (i := 10) (by decide) hly_3_10 rfl hlk_72 rfl (ty := .int) (v := .int v1_5) (by decide +kernel) rfl rfl (⟨_, rfl, by omega, by omega⟩) rfl (L1 := [(r0, 3, 11, .null), (r0, 3, 9, .ref behind_4), (r0, 3, 5, .ref sa_), (r0, 3, 6, .ref ea_), (r0, 3, 4, .int ps)]) [0, 1, 2, 3, 4] rfl rfl rfl dX1_keepChecked_77 (fun H_47 locs_47 hr_47 hh_47 => ?_)
              clear hh_49
              have hd_48n := jDcc.fld hd_48 hg_r0 hr_47 hd_485 hd_486 (hh_47.at 3 rfl) (hh_47.at 4 rfl)
              have hd_48on := jOw.put hd_48o hr_47
              have hh_50 := hh_47.addI (jDcc.ie hd_48n)
              clear hh_47
              have hh_51 := hh_50.addI (jOw.ie (dC := dC) (dI := dI) (G0 := G0) (k := 3) (r := r0) (H0 := s.heap) (F := [(3, 0), (3, 1), (3, 2), (3, 3), (3, 4), (3, 5), (3, 6), (3, 7), (3, 8), (3, 9), (3, 10), (3, 11), (3, 12), (3, 13), (3, 14), (3, 15), (3, 16)]) (C := RX1) (T := TX1) (N := 17) rfl (by decide) hh_50.2.2.2.2.1 (hd_48on))
              clear hh_50
              clear hd_48 hd_48n hd_485 hd_486 hr_47 hd_48o hd_48on
              refine lv_iload_n hx hb dX1_keepChecked_80 rfl (lv_at hl 0 rfl) ?_
              rw [hQ]
              exact W.zret (v := 0) hx hb hr (jb_nz (Or.inl rfl)) (fun t ht hW => ⟨⟨0, v1_5, rfl, ⟨(Or.inl rfl), by (try dsimp only); first | omega | (refine ⟨?_, ?_, ?_, ?_⟩ <;> (first | omega | rfl | assumption | decide | exact Or.inl rfl | exact Or.inr rfl | (simp only; omega)))⟩, ⟨⟨hh_51.rt (M1 := [(r0, 3, 10, .int v1_5)]) [0] rfl ht, by rw [ht]; exact hh_51.iv 0 rfl⟩, by rw [ht]; exact hh_51.2.2.2.2.2.2.2.2.sub (L1 := [(jFdo, jDcc dC dI ca G0 (some r0) ph)]) [1] rfl⟩⟩, by rw [ht]; try exact hh_51.1.1, fun q h9 hq => by rw [ht]; try exact hh_51.1.2.1 q h9 hq⟩) hh_51.1.2.2 dX1_keepChecked_81
            · refine j7_read hx hb hown hK (C := RX1) (T := TX1) (N := 17) rfl hly_3_11 hlk_105 (hh_45.at 0 rfl) dX1_keepChecked_51 ?_
              refine lv_ifnull hx hb dX1_keepChecked_54 ?_
              refine lv_aload_n hx hb dX1_keepChecked_57 rfl (lv_at hl 0 rfl) ?_
              refine lv_iload_n hx hb dX1_keepChecked_58 rfl (lv_at hl 1 rfl) ?_
              refine lv_aload_n hx hb dX1_keepChecked_59 rfl (lv_at hl 0 rfl) ?_
              refine j7_read hx hb hown hK (C := RX1) (T := TX1) (N := 17) rfl hly_3_11 hlk_105 (hh_45.at 0 rfl) dX1_keepChecked_60 ?_
              refine va_calli (A0 := jA base) (H0 := s.heap) (va_runV (As := [.int v1_5, .ref checking_46]) (rest := []) ⟨hx, hb, hml, hown, hts⟩ (uX1_isSentenceE l dC dI ca base B hB hAp hB3 hB101 hB171 hB172 hB173 G0 H_5 r0 v1_5 checking_46 nchecking_46 ps) (cwV 2 hts (jgV (jWr_42 _ (List.mem_of_getElem? (i := 23) rfl)) (jWr_43 _ (List.mem_of_getElem? (i := 0) rfl)) (jWr_43 _ (List.mem_of_getElem? (i := 1) rfl)) (jWr_2 _ (List.mem_of_getElem? (i := 21) rfl)) (jWr_43 _ (List.mem_of_getElem? (i := 2) rfl))) rfl rfl rfl (by decide +kernel) ⟨by rw [← hR]; exact Nat.le_of_ble_eq_true rfl, by rw [← hR]; exact Nat.le_of_ble_eq_true rfl⟩) ⟨fun a U g mk q => by obtain ⟨q0, q1, q2, qK, q10, q11, q12, q13⟩ := q; exact ⟨q0, q1, q2, jG.calling g mk a qK, q10, q11, q12, q13⟩, hh_45.recv (C := RX1) (T := TX1) (N := 17) hB3 rfl (by decide) hg_r0 hK, fun U hU hW => ⟨rfl, hU, hh_45.2.1, hG.step hW hU hh_45.1, hg_r0, hg_checking_46, (hh_45.2.2.1.sub (L1 := [(r0, 3, 4, .int ps)]) [4] rfl), by first | omega | (refine ⟨?_, ?_⟩ <;> (first | omega | rfl | assumption | decide | exact Or.inl rfl | exact Or.inr rfl | (simp only; omega)))⟩⟩ rfl rfl hl.1 rfl (lv_room (Nat.le_of_ble_eq_true rfl)) dX1_keepChecked_63 ⟨Nat.zero_le _, Nat.zero_le _⟩) hh_45.1 (fun q _ h => h) (fun q h => h) (fun r_53 u_52 t_52 H_52 locs_52 ht_52 hvm_52 hr_53 hb_52 hz_52 hk_52 hS_52 => ?_)
              rw [ht_52] at hb_52
              obtain ⟨hb_521, hb_522, hb_523, hb_524, hb_525⟩ := hb_52
              have hh_52 : jSt (dC, dI) B base G0 G0 EX1_keepCheckedE s.heap 0 0 [(r0, 3, 11, .ref checking_46), (r0, 3, 9, .ref behind_4), (r0, 3, 5, .ref sa_), (r0, 3, 6, .ref ea_), (r0, 3, 4, .int ps), (r0, 3, 10, .int pk)] [] [([(210, 0)], jQc dC dI (ca 6) behind_4 40 fq_6), ([(3, 0), (3, 1), (3, 2), (3, 3), (3, 4), (3, 5), (3, 6), (3, 7), (3, 8), (3, 9), (3, 10), (3, 11), (3, 12), (3, 13), (3, 14), (3, 15), (3, 16)], jOw (dC, dI) G0 3 r0 s.heap), (jFdo, jDcc dC dI ca G0 (some r0) ph)] H_52 locs_52 := ((hh_45.call hb_521 hb_522 hb_523 hb_524 hS_52 rfl (L1 := [(r0, 3, 11, .ref checking_46), (r0, 3, 9, .ref behind_4), (r0, 3, 5, .ref sa_), (r0, 3, 6, .ref ea_), (r0, 3, 4, .int ps), (r0, 3, 10, .int pk)]) [0, 1, 2, 3, 4, 5] rfl rfl (M1 := []) [] rfl rfl (I1 := [([(210, 0)], jQc dC dI (ca 6) behind_4 40 fq_6), ([(3, 0), (3, 1), (3, 2), (3, 3), (3, 4), (3, 5), (3, 6), (3, 7), (3, 8), (3, 9), (3, 10), (3, 11), (3, 12), (3, 13), (3, 14), (3, 15), (3, 16)], jOw (dC, dI) G0 3 r0 s.heap), (jFdo, jDcc dC dI ca G0 (some r0) ph)]) [0, 1, 2] rfl rfl).more hb_525)
              clear hh_45 ht_52 hvm_52 hz_52 hk_52 hS_52 hb_521 hb_522 hb_523 hb_524 hb_525
              obtain ⟨hr_53b, hr_53p⟩ := hr_53
              have hr_53' := jb_01 hr_53b
              refine lv_if_eq (tgt := 73) hx hb dX1_keepChecked_66 (by decide) (fun c_54 => ?_) (fun c_54 => ?_)
              · skip
                have c_54' : r_53.toInt = 0 := jb_eq (rfl) ((by decide)) c_54
                first | (have hr_53pq := hr_53p.resolve_left (by omega); clear hr_53p) | (have hr_53pq := hr_53p.resolve_right (by omega); clear hr_53p) | try clear hr_53p
                refine lv_iconst (v := 0) hx hb dX1_keepChecked_73 (by decide) ?_
                refine lv_istore_n (lv' := [(2, .int 0), (0, .ref r0), (1, .int v1_5)]) hx hb dX1_keepChecked_74 rfl hl (by decide) rfl (fun ls hl => ?_)
                refine lv_aload_n hx hb dX1_keepChecked_75 rfl (lv_at hl 1 rfl) ?_
                refine lv_iload_n hx hb dX1_keepChecked_76 rfl (lv_at hl 2 rfl) ?_
                have hd_56 := hh_52.iv 2 rfl
                have hd_565 := hh_52.at 2 rfl
                have hd_566 := hh_52.at 3 rfl
                have hd_56o := hh_52.iv 1 rfl
                have hh_57 := hh_52.sub (L1 := [(r0, 3, 11, .ref checking_46), (r0, 3, 9, .ref behind_4), (r0, 3, 5, .ref sa_), (r0, 3, 6, .ref ea_), (r0, 3, 4, .int ps), (r0, 3, 10, .int pk)]) [0, 1, 2, 3, 4, 5] rfl (M1 := []) [] rfl (I1 := [([(210, 0)], jQc dC dI (ca 6) behind_4 40 fq_6)]) [0] rfl
                clear hh_52
                refine j7_putX hx hb hown hK hh_57 hB hAp hB3 (C := RX1) (T := TX1) (N := 17) rfl (by decide) hg_r0 (i := 10) (by decide) hly_3_10 rfl hlk_72 rfl (ty := .int) (v := .int v1_5) (by decide +kernel) rfl rfl (⟨_, rfl, by omega, by omega⟩) rfl (L1 := [(r0, 3, 11, .ref checking_46), (r0, 3, 9, .ref behind_4), (r0, 3, 5, .ref sa_), (r0, 3, 6, .ref ea_), (r0, 3, 4, .int ps)]) [0, 1, 2, 3, 4] rfl rfl rfl dX1_keepChecked_77 (fun H_55 locs_55 hr_55 hh_55 => ?_)
                clear hh_57
                have hd_56n := jDcc.fld hd_56 hg_r0 hr_55 hd_565 hd_566 (hh_55.at 3 rfl) (hh_55.at 4 rfl)
                have hd_56on := jOw.put hd_56o hr_55
                have hh_58 := hh_55.addI (jDcc.ie hd_56n)
                clear hh_55
                have hh_59 := hh_58.addI (jOw.ie (dC := dC) (dI := dI) (G0 := G0) (k := 3) (r := r0) (H0 := s.heap) (F := [(3, 0), (3, 1), (3, 2), (3, 3), (3, 4), (3, 5), (3, 6), (3, 7), (3, 8), (3, 9), (3, 10), (3, 11), (3, 12), (3, 13), (3, 14), (3, 15), (3, 16)]) (C := RX1) (T := TX1) (N := 17) rfl (by decide) hh_58.2.2.2.2.1 (hd_56on))
                clear hh_58
                clear hd_56 hd_56n hd_565 hd_566 hr_55 hd_56o hd_56on
                refine lv_iload_n hx hb dX1_keepChecked_80 rfl (lv_at hl 0 rfl) ?_
                rw [hQ]
                exact W.zret (v := 0) hx hb hr (jb_nz (Or.inl rfl)) (fun t ht hW => ⟨⟨0, v1_5, rfl, ⟨(Or.inl rfl), by (try dsimp only); first | omega | (refine ⟨?_, ?_, ?_, ?_⟩ <;> (first | omega | rfl | assumption | decide | exact Or.inl rfl | exact Or.inr rfl | (simp only; omega)))⟩, ⟨⟨hh_59.rt (M1 := [(r0, 3, 10, .int v1_5)]) [0] rfl ht, by rw [ht]; exact hh_59.iv 0 rfl⟩, by rw [ht]; exact hh_59.2.2.2.2.2.2.2.2.sub (L1 := [(jFdo, jDcc dC dI ca G0 (some r0) ph)]) [1] rfl⟩⟩, by rw [ht]; try exact hh_59.1.1, fun q h9 hq => by rw [ht]; try exact hh_59.1.2.1 q h9 hq⟩) hh_59.1.2.2 dX1_keepChecked_81
              · skip
                have c_54' : r_53.toInt ≠ 0 := jb_eq_n (rfl) ((by decide)) c_54
                first | (have hr_53pq := hr_53p.resolve_left (by omega); clear hr_53p) | (have hr_53pq := hr_53p.resolve_right (by omega); clear hr_53p) | try clear hr_53p
                refine lv_iconst (v := 1) hx hb dX1_keepChecked_69 (by decide) ?_
                refine lv_goto (tgt := 74) hx hb dX1_keepChecked_70 (by decide) ?_
                refine lv_istore_n (lv' := [(2, .int 1), (0, .ref r0), (1, .int v1_5)]) hx hb dX1_keepChecked_74 rfl hl (by decide) rfl (fun ls hl => ?_)
                refine lv_aload_n hx hb dX1_keepChecked_75 rfl (lv_at hl 1 rfl) ?_
                refine lv_iload_n hx hb dX1_keepChecked_76 rfl (lv_at hl 2 rfl) ?_
                have hd_61 := hh_52.iv 2 rfl
                have hd_615 := hh_52.at 2 rfl
                have hd_616 := hh_52.at 3 rfl
                have hd_61o := hh_52.iv 1 rfl
                have hh_62 := hh_52.sub (L1 := [(r0, 3, 11, .ref checking_46), (r0, 3, 9, .ref behind_4), (r0, 3, 5, .ref sa_), (r0, 3, 6, .ref ea_), (r0, 3, 4, .int ps), (r0, 3, 10, .int pk)]) [0, 1, 2, 3, 4, 5] rfl (M1 := []) [] rfl (I1 := [([(210, 0)], jQc dC dI (ca 6) behind_4 40 fq_6)]) [0] rfl
                clear hh_52
                refine j7_putX hx hb hown hK hh_62 hB hAp hB3 (C := RX1) (T := TX1) (N := 17) rfl (by decide) hg_r0 (i := 10) (by decide) hly_3_10 rfl hlk_72 rfl (ty := .int) (v := .int v1_5) (by decide +kernel) rfl rfl (⟨_, rfl, by omega, by omega⟩) rfl (L1 := [(r0, 3, 11, .ref checking_46), (r0, 3, 9, .ref behind_4), (r0, 3, 5, .ref sa_), (r0, 3, 6, .ref ea_), (r0, 3, 4, .int ps)]) [0, 1, 2, 3, 4] rfl rfl rfl dX1_keepChecked_77 (fun H_60 locs_60 hr_60 hh_60 => ?_)
                clear hh_62
                have hd_61n := jDcc.fld hd_61 hg_r0 hr_60 hd_615 hd_616 (hh_60.at 3 rfl) (hh_60.at 4 rfl)
                have hd_61on := jOw.put hd_61o hr_60
                have hh_63 := hh_60.addI (jDcc.ie hd_61n)
                clear hh_60
                have hh_64 := hh_63.addI (jOw.ie (dC := dC) (dI := dI) (G0 := G0) (k := 3) (r := r0) (H0 := s.heap) (F := [(3, 0), (3, 1), (3, 2), (3, 3), (3, 4), (3, 5), (3, 6), (3, 7), (3, 8), (3, 9), (3, 10), (3, 11), (3, 12), (3, 13), (3, 14), (3, 15), (3, 16)]) (C := RX1) (T := TX1) (N := 17) rfl (by decide) hh_63.2.2.2.2.1 (hd_61on))
                clear hh_63
                clear hd_61 hd_61n hd_615 hd_616 hr_60 hd_61o hd_61on
                refine lv_iload_n hx hb dX1_keepChecked_80 rfl (lv_at hl 0 rfl) ?_
                rw [hQ]
                exact W.zret (v := 1) hx hb hr (jb_nz (Or.inr rfl)) (fun t ht hW => ⟨⟨1, v1_5, rfl, ⟨(Or.inr rfl), by (try dsimp only); first | omega | (refine ⟨?_, ?_, ?_, ?_⟩ <;> (first | omega | rfl | assumption | decide | exact Or.inl rfl | exact Or.inr rfl | (simp only; omega)))⟩, ⟨⟨hh_64.rt (M1 := [(r0, 3, 10, .int v1_5)]) [0] rfl ht, by rw [ht]; exact hh_64.iv 0 rfl⟩, by rw [ht]; exact hh_64.2.2.2.2.2.2.2.2.sub (L1 := [(jFdo, jDcc dC dI ca G0 (some r0) ph)]) [1] rfl⟩⟩, by rw [ht]; try exact hh_64.1.1, fun q h9 hq => by rw [ht]; try exact hh_64.1.2.1 q h9 hq⟩) hh_64.1.2.2 dX1_keepChecked_81
        · simp only [va_rf]
          refine lv_ifnull hx hb dX1_keepChecked_16 ?_
          refine lv_aload_n hx hb dX1_keepChecked_19 rfl (lv_at hl 0 rfl) ?_
          refine lv_iload_n hx hb dX1_keepChecked_20 rfl (lv_at hl 1 rfl) ?_
          refine lv_aload_n hx hb dX1_keepChecked_21 rfl (lv_at hl 0 rfl) ?_
          refine j7_read hx hb hown hK (C := RX1) (T := TX1) (N := 17) rfl hly_3_9 hlk_32 (hh_7.at 0 rfl) dX1_keepChecked_22 ?_
          refine lv_iload_n hx hb dX1_keepChecked_25 rfl (lv_at hl 1 rfl) ?_
          refine j7_qaldI hx hb hK2 hh_7 hB210 2 rfl (by decide) hg_behind_4 (x := v1_5.toInt) (rfl) (by omega) (hh_7.iv 0 rfl) dX1_keepChecked_26 (fun o_65 ho_65 heo_65 => ?_)
          rcases ho_65 with rfl | ⟨el_66, rfl, hg_el_66⟩
          · simp only [va_rf]
            exact absurd (heo_65.trans heo_36.symm) (by simp)
          · simp only [va_rf]
            obtain rfl : el_37 = el_66 := (Option.some.inj (heo_65.trans heo_36.symm)).symm
            obtain ⟨v_67, hv_67, hh_68⟩ := hh_7.pin (C := RX9) (T := TX9) (N := 9) hB11 rfl (by decide) hg_el_37 (i := 1) (by decide) rfl
            clear hh_7
            obtain ⟨units_69, nunits_69, rfl, hg_units_69, hn_units_69⟩ := hv_67
            refine j7_read hx hb hown hK (C := RX9) (T := TX9) (N := 9) rfl hly_11_1 hlk_98 (hh_68.at 0 rfl) dX1_keepChecked_27 ?_
            refine va_calli (A0 := jA base) (H0 := s.heap) (va_runV (As := [.int v1_5, .ref units_69]) (rest := []) ⟨hx, hb, hml, hown, hts⟩ (uX1_isSentenceE l dC dI ca base B hB hAp hB3 hB101 hB171 hB172 hB173 G0 H_5 r0 v1_5 units_69 nunits_69 ps) (cwV 2 hts (jgV (jWr_42 _ (List.mem_of_getElem? (i := 23) rfl)) (jWr_43 _ (List.mem_of_getElem? (i := 0) rfl)) (jWr_43 _ (List.mem_of_getElem? (i := 1) rfl)) (jWr_2 _ (List.mem_of_getElem? (i := 21) rfl)) (jWr_43 _ (List.mem_of_getElem? (i := 2) rfl))) rfl rfl rfl (by decide +kernel) ⟨by rw [← hR]; exact Nat.le_of_ble_eq_true rfl, by rw [← hR]; exact Nat.le_of_ble_eq_true rfl⟩) ⟨fun a U g mk q => by obtain ⟨q0, q1, q2, qK, q10, q11, q12, q13⟩ := q; exact ⟨q0, q1, q2, jG.calling g mk a qK, q10, q11, q12, q13⟩, hh_68.recv (C := RX1) (T := TX1) (N := 17) hB3 rfl (by decide) hg_r0 hK, fun U hU hW => ⟨rfl, hU, hh_68.2.1, hG.step hW hU hh_68.1, hg_r0, hg_units_69, (hh_68.2.2.1.sub (L1 := [(r0, 3, 4, .int ps)]) [4] rfl), by first | omega | (refine ⟨?_, ?_⟩ <;> (first | omega | rfl | assumption | decide | exact Or.inl rfl | exact Or.inr rfl | (simp only; omega)))⟩⟩ rfl rfl hl.1 rfl (lv_room (Nat.le_of_ble_eq_true rfl)) dX1_keepChecked_30 ⟨Nat.zero_le _, Nat.zero_le _⟩) hh_68.1 (fun q _ h => h) (fun q h => h) (fun r_71 u_70 t_70 H_70 locs_70 ht_70 hvm_70 hr_71 hb_70 hz_70 hk_70 hS_70 => ?_)
            rw [ht_70] at hb_70
            obtain ⟨hb_701, hb_702, hb_703, hb_704, hb_705⟩ := hb_70
            have hh_70 : jSt (dC, dI) B base G0 G0 EX1_keepCheckedE s.heap 0 0 [(el_37, 11, 1, .ref units_69), (r0, 3, 9, .ref behind_4), (r0, 3, 5, .ref sa_), (r0, 3, 6, .ref ea_), (r0, 3, 4, .int ps), (r0, 3, 10, .int pk)] [] [([(210, 0)], jQc dC dI (ca 6) behind_4 40 fq_6), ([(3, 0), (3, 1), (3, 2), (3, 3), (3, 4), (3, 5), (3, 6), (3, 7), (3, 8), (3, 9), (3, 10), (3, 11), (3, 12), (3, 13), (3, 14), (3, 15), (3, 16)], jOw (dC, dI) G0 3 r0 s.heap), (jFdo, jDcc dC dI ca G0 (some r0) ph)] H_70 locs_70 := ((hh_68.call hb_701 hb_702 hb_703 hb_704 hS_70 rfl (L1 := [(el_37, 11, 1, .ref units_69), (r0, 3, 9, .ref behind_4), (r0, 3, 5, .ref sa_), (r0, 3, 6, .ref ea_), (r0, 3, 4, .int ps), (r0, 3, 10, .int pk)]) [0, 1, 2, 3, 4, 5] rfl rfl (M1 := []) [] rfl rfl (I1 := [([(210, 0)], jQc dC dI (ca 6) behind_4 40 fq_6), ([(3, 0), (3, 1), (3, 2), (3, 3), (3, 4), (3, 5), (3, 6), (3, 7), (3, 8), (3, 9), (3, 10), (3, 11), (3, 12), (3, 13), (3, 14), (3, 15), (3, 16)], jOw (dC, dI) G0 3 r0 s.heap), (jFdo, jDcc dC dI ca G0 (some r0) ph)]) [0, 1, 2] rfl rfl).more hb_705)
            clear hh_68 ht_70 hvm_70 hz_70 hk_70 hS_70 hb_701 hb_702 hb_703 hb_704 hb_705
            obtain ⟨hr_71b, hr_71p⟩ := hr_71
            have hr_71' := jb_01 hr_71b
            refine lv_if_eq (tgt := 42) hx hb dX1_keepChecked_33 (by decide) (fun c_72 => ?_) (fun c_72 => ?_)
            · skip
              have c_72' : r_71.toInt = 0 := jb_eq (rfl) ((by decide)) c_72
              first | (have hr_71pq := hr_71p.resolve_left (by omega); clear hr_71p) | (have hr_71pq := hr_71p.resolve_right (by omega); clear hr_71p) | try clear hr_71p
              refine lv_iload_n hx hb dX1_keepChecked_42 rfl (lv_at hl 1 rfl) ?_
              refine lv_aload_n hx hb dX1_keepChecked_43 rfl (lv_at hl 0 rfl) ?_
              refine j7_read hx hb hown hK (C := RX1) (T := TX1) (N := 17) rfl hly_3_10 hlk_72 (hh_70.at 5 rfl) dX1_keepChecked_44 ?_
              refine lv_icmp_ne (tgt := 73) hx hb dX1_keepChecked_47 (by decide) (fun c_73 => ?_) (fun c_73 => ?_)
              · skip
                have c_73' : v1_5.toInt ≠ pk.toInt := jb_ne (rfl) (rfl) c_73
                refine lv_iconst (v := 0) hx hb dX1_keepChecked_73 (by decide) ?_
                refine lv_istore_n (lv' := [(2, .int 0), (0, .ref r0), (1, .int v1_5)]) hx hb dX1_keepChecked_74 rfl hl (by decide) rfl (fun ls hl => ?_)
                refine lv_aload_n hx hb dX1_keepChecked_75 rfl (lv_at hl 1 rfl) ?_
                refine lv_iload_n hx hb dX1_keepChecked_76 rfl (lv_at hl 2 rfl) ?_
                have hd_75 := hh_70.iv 2 rfl
                have hd_755 := hh_70.at 2 rfl
                have hd_756 := hh_70.at 3 rfl
                have hd_75o := hh_70.iv 1 rfl
                have hh_76 := hh_70.sub (L1 := [(el_37, 11, 1, .ref units_69), (r0, 3, 9, .ref behind_4), (r0, 3, 5, .ref sa_), (r0, 3, 6, .ref ea_), (r0, 3, 4, .int ps), (r0, 3, 10, .int pk)]) [0, 1, 2, 3, 4, 5] rfl (M1 := []) [] rfl (I1 := [([(210, 0)], jQc dC dI (ca 6) behind_4 40 fq_6)]) [0] rfl
                clear hh_70
                refine j7_putX hx hb hown hK hh_76 hB hAp hB3 (C := RX1) (T := TX1) (N := 17) rfl (by decide) hg_r0 (i := 10) (by decide) hly_3_10 rfl hlk_72 rfl (ty := .int) (v := .int v1_5) (by decide +kernel) rfl rfl (⟨_, rfl, by omega, by omega⟩) rfl (L1 := [(el_37, 11, 1, .ref units_69), (r0, 3, 9, .ref behind_4), (r0, 3, 5, .ref sa_), (r0, 3, 6, .ref ea_), (r0, 3, 4, .int ps)]) [0, 1, 2, 3, 4] rfl rfl rfl dX1_keepChecked_77 (fun H_74 locs_74 hr_74 hh_74 => ?_)
                clear hh_76
                have hd_75n := jDcc.fld hd_75 hg_r0 hr_74 hd_755 hd_756 (hh_74.at 3 rfl) (hh_74.at 4 rfl)
                have hd_75on := jOw.put hd_75o hr_74
                have hh_77 := hh_74.addI (jDcc.ie hd_75n)
                clear hh_74
                have hh_78 := hh_77.addI (jOw.ie (dC := dC) (dI := dI) (G0 := G0) (k := 3) (r := r0) (H0 := s.heap) (F := [(3, 0), (3, 1), (3, 2), (3, 3), (3, 4), (3, 5), (3, 6), (3, 7), (3, 8), (3, 9), (3, 10), (3, 11), (3, 12), (3, 13), (3, 14), (3, 15), (3, 16)]) (C := RX1) (T := TX1) (N := 17) rfl (by decide) hh_77.2.2.2.2.1 (hd_75on))
                clear hh_77
                clear hd_75 hd_75n hd_755 hd_756 hr_74 hd_75o hd_75on
                refine lv_iload_n hx hb dX1_keepChecked_80 rfl (lv_at hl 0 rfl) ?_
                rw [hQ]
                exact W.zret (v := 0) hx hb hr (jb_nz (Or.inl rfl)) (fun t ht hW => ⟨⟨0, v1_5, rfl, ⟨(Or.inl rfl), by (try dsimp only); first | omega | (refine ⟨?_, ?_, ?_, ?_⟩ <;> (first | omega | rfl | assumption | decide | exact Or.inl rfl | exact Or.inr rfl | (simp only; omega)))⟩, ⟨⟨hh_78.rt (M1 := [(r0, 3, 10, .int v1_5)]) [0] rfl ht, by rw [ht]; exact hh_78.iv 0 rfl⟩, by rw [ht]; exact hh_78.2.2.2.2.2.2.2.2.sub (L1 := [(jFdo, jDcc dC dI ca G0 (some r0) ph)]) [1] rfl⟩⟩, by rw [ht]; try exact hh_78.1.1, fun q h9 hq => by rw [ht]; try exact hh_78.1.2.1 q h9 hq⟩) hh_78.1.2.2 dX1_keepChecked_81
              · skip
                have c_73' : v1_5.toInt = pk.toInt := jb_ne_n (rfl) (rfl) c_73
                refine lv_aload_n hx hb dX1_keepChecked_50 rfl (lv_at hl 0 rfl) ?_
                obtain ⟨v_79, hv_79, hh_80⟩ := hh_70.pin (C := RX1) (T := TX1) (N := 17) hB3 rfl (by decide) hg_r0 (i := 11) (by decide) rfl
                clear hh_70
                rcases hv_79 with rfl | ⟨checking_81, nchecking_81, rfl, hg_checking_81, hn_checking_81⟩
                · refine j7_read hx hb hown hK (C := RX1) (T := TX1) (N := 17) rfl hly_3_11 hlk_105 (hh_80.at 0 rfl) dX1_keepChecked_51 ?_
                  refine lv_ifnullN (tgt := 73) hx hb dX1_keepChecked_54 (by decide) ?_
                  refine lv_iconst (v := 0) hx hb dX1_keepChecked_73 (by decide) ?_
                  refine lv_istore_n (lv' := [(2, .int 0), (0, .ref r0), (1, .int v1_5)]) hx hb dX1_keepChecked_74 rfl hl (by decide) rfl (fun ls hl => ?_)
                  refine lv_aload_n hx hb dX1_keepChecked_75 rfl (lv_at hl 1 rfl) ?_
                  refine lv_iload_n hx hb dX1_keepChecked_76 rfl (lv_at hl 2 rfl) ?_
                  have hd_83 := hh_80.iv 2 rfl
                  have hd_835 := hh_80.at 3 rfl
                  have hd_836 := hh_80.at 4 rfl
                  have hd_83o := hh_80.iv 1 rfl
                  have hh_84 := hh_80.sub (L1 := [(r0, 3, 11, .null), (el_37, 11, 1, .ref units_69), (r0, 3, 9, .ref behind_4), (r0, 3, 5, .ref sa_), (r0, 3, 6, .ref ea_), (r0, 3, 4, .int ps), (r0, 3, 10, .int pk)]) [0, 1, 2, 3, 4, 5, 6] rfl (M1 := []) [] rfl (I1 := [([(210, 0)], jQc dC dI (ca 6) behind_4 40 fq_6)]) [0] rfl
                  clear hh_80
                  refine j7_putX hx hb hown hK hh_84 hB hAp hB3 (C := RX1) (T := TX1) (N := 17) rfl (by decide) hg_r0 (i := 10) (by decide) hly_3_10 rfl hlk_72 rfl (ty := .int) (v := .int v1_5) (by decide +kernel) rfl rfl (⟨_, rfl, by omega, by omega⟩) rfl (L1 := [(r0, 3, 11, .null), (el_37, 11, 1, .ref units_69), (r0, 3, 9, .ref behind_4), (r0, 3, 5, .ref sa_), (r0, 3, 6, .ref ea_), (r0, 3, 4, .int ps)]) [0, 1, 2, 3, 4, 5] rfl rfl rfl dX1_keepChecked_77 (fun H_82 locs_82 hr_82 hh_82 => ?_)
                  clear hh_84
                  have hd_83n := jDcc.fld hd_83 hg_r0 hr_82 hd_835 hd_836 (hh_82.at 4 rfl) (hh_82.at 5 rfl)
                  have hd_83on := jOw.put hd_83o hr_82
                  have hh_85 := hh_82.addI (jDcc.ie hd_83n)
                  clear hh_82
                  have hh_86 := hh_85.addI (jOw.ie (dC := dC) (dI := dI) (G0 := G0) (k := 3) (r := r0) (H0 := s.heap) (F := [(3, 0), (3, 1), (3, 2), (3, 3), (3, 4), (3, 5), (3, 6), (3, 7), (3, 8), (3, 9), (3, 10), (3, 11), (3, 12), (3, 13), (3, 14), (3, 15), (3, 16)]) (C := RX1) (T := TX1) (N := 17) rfl (by decide) hh_85.2.2.2.2.1 (hd_83on))
                  clear hh_85
                  clear hd_83 hd_83n hd_835 hd_836 hr_82 hd_83o hd_83on
                  refine lv_iload_n hx hb dX1_keepChecked_80 rfl (lv_at hl 0 rfl) ?_
                  rw [hQ]
                  exact W.zret (v := 0) hx hb hr (jb_nz (Or.inl rfl)) (fun t ht hW => ⟨⟨0, v1_5, rfl, ⟨(Or.inl rfl), by (try dsimp only); first | omega | (refine ⟨?_, ?_, ?_, ?_⟩ <;> (first | omega | rfl | assumption | decide | exact Or.inl rfl | exact Or.inr rfl | (simp only; omega)))⟩, ⟨⟨hh_86.rt (M1 := [(r0, 3, 10, .int v1_5)]) [0] rfl ht, by rw [ht]; exact hh_86.iv 0 rfl⟩, by rw [ht]; exact hh_86.2.2.2.2.2.2.2.2.sub (L1 := [(jFdo, jDcc dC dI ca G0 (some r0) ph)]) [1] rfl⟩⟩, by rw [ht]; try exact hh_86.1.1, fun q h9 hq => by rw [ht]; try exact hh_86.1.2.1 q h9 hq⟩) hh_86.1.2.2 dX1_keepChecked_81
                · refine j7_read hx hb hown hK (C := RX1) (T := TX1) (N := 17) rfl hly_3_11 hlk_105 (hh_80.at 0 rfl) dX1_keepChecked_51 ?_
                  refine lv_ifnull hx hb dX1_keepChecked_54 ?_
                  refine lv_aload_n hx hb dX1_keepChecked_57 rfl (lv_at hl 0 rfl) ?_
                  refine lv_iload_n hx hb dX1_keepChecked_58 rfl (lv_at hl 1 rfl) ?_
                  refine lv_aload_n hx hb dX1_keepChecked_59 rfl (lv_at hl 0 rfl) ?_
                  refine j7_read hx hb hown hK (C := RX1) (T := TX1) (N := 17) rfl hly_3_11 hlk_105 (hh_80.at 0 rfl) dX1_keepChecked_60 ?_
                  refine va_calli (A0 := jA base) (H0 := s.heap) (va_runV (As := [.int v1_5, .ref checking_81]) (rest := []) ⟨hx, hb, hml, hown, hts⟩ (uX1_isSentenceE l dC dI ca base B hB hAp hB3 hB101 hB171 hB172 hB173 G0 H_70 r0 v1_5 checking_81 nchecking_81 ps) (cwV 2 hts (jgV (jWr_42 _ (List.mem_of_getElem? (i := 23) rfl)) (jWr_43 _ (List.mem_of_getElem? (i := 0) rfl)) (jWr_43 _ (List.mem_of_getElem? (i := 1) rfl)) (jWr_2 _ (List.mem_of_getElem? (i := 21) rfl)) (jWr_43 _ (List.mem_of_getElem? (i := 2) rfl))) rfl rfl rfl (by decide +kernel) ⟨by rw [← hR]; exact Nat.le_of_ble_eq_true rfl, by rw [← hR]; exact Nat.le_of_ble_eq_true rfl⟩) ⟨fun a U g mk q => by obtain ⟨q0, q1, q2, qK, q10, q11, q12, q13⟩ := q; exact ⟨q0, q1, q2, jG.calling g mk a qK, q10, q11, q12, q13⟩, hh_80.recv (C := RX1) (T := TX1) (N := 17) hB3 rfl (by decide) hg_r0 hK, fun U hU hW => ⟨rfl, hU, hh_80.2.1, hG.step hW hU hh_80.1, hg_r0, hg_checking_81, (hh_80.2.2.1.sub (L1 := [(r0, 3, 4, .int ps)]) [5] rfl), by first | omega | (refine ⟨?_, ?_⟩ <;> (first | omega | rfl | assumption | decide | exact Or.inl rfl | exact Or.inr rfl | (simp only; omega)))⟩⟩ rfl rfl hl.1 rfl (lv_room (Nat.le_of_ble_eq_true rfl)) dX1_keepChecked_63 ⟨Nat.zero_le _, Nat.zero_le _⟩) hh_80.1 (fun q _ h => h) (fun q h => h) (fun r_88 u_87 t_87 H_87 locs_87 ht_87 hvm_87 hr_88 hb_87 hz_87 hk_87 hS_87 => ?_)
                  rw [ht_87] at hb_87
                  obtain ⟨hb_871, hb_872, hb_873, hb_874, hb_875⟩ := hb_87
                  have hh_87 : jSt (dC, dI) B base G0 G0 EX1_keepCheckedE s.heap 0 0 [(r0, 3, 11, .ref checking_81), (el_37, 11, 1, .ref units_69), (r0, 3, 9, .ref behind_4), (r0, 3, 5, .ref sa_), (r0, 3, 6, .ref ea_), (r0, 3, 4, .int ps), (r0, 3, 10, .int pk)] [] [([(210, 0)], jQc dC dI (ca 6) behind_4 40 fq_6), ([(3, 0), (3, 1), (3, 2), (3, 3), (3, 4), (3, 5), (3, 6), (3, 7), (3, 8), (3, 9), (3, 10), (3, 11), (3, 12), (3, 13), (3, 14), (3, 15), (3, 16)], jOw (dC, dI) G0 3 r0 s.heap), (jFdo, jDcc dC dI ca G0 (some r0) ph)] H_87 locs_87 := ((hh_80.call hb_871 hb_872 hb_873 hb_874 hS_87 rfl (L1 := [(r0, 3, 11, .ref checking_81), (el_37, 11, 1, .ref units_69), (r0, 3, 9, .ref behind_4), (r0, 3, 5, .ref sa_), (r0, 3, 6, .ref ea_), (r0, 3, 4, .int ps), (r0, 3, 10, .int pk)]) [0, 1, 2, 3, 4, 5, 6] rfl rfl (M1 := []) [] rfl rfl (I1 := [([(210, 0)], jQc dC dI (ca 6) behind_4 40 fq_6), ([(3, 0), (3, 1), (3, 2), (3, 3), (3, 4), (3, 5), (3, 6), (3, 7), (3, 8), (3, 9), (3, 10), (3, 11), (3, 12), (3, 13), (3, 14), (3, 15), (3, 16)], jOw (dC, dI) G0 3 r0 s.heap), (jFdo, jDcc dC dI ca G0 (some r0) ph)]) [0, 1, 2] rfl rfl).more hb_875)
                  clear hh_80 ht_87 hvm_87 hz_87 hk_87 hS_87 hb_871 hb_872 hb_873 hb_874 hb_875
                  obtain ⟨hr_88b, hr_88p⟩ := hr_88
                  have hr_88' := jb_01 hr_88b
                  refine lv_if_eq (tgt := 73) hx hb dX1_keepChecked_66 (by decide) (fun c_89 => ?_) (fun c_89 => ?_)
                  · skip
                    have c_89' : r_88.toInt = 0 := jb_eq (rfl) ((by decide)) c_89
                    first | (have hr_88pq := hr_88p.resolve_left (by omega); clear hr_88p) | (have hr_88pq := hr_88p.resolve_right (by omega); clear hr_88p) | try clear hr_88p
                    refine lv_iconst (v := 0) hx hb dX1_keepChecked_73 (by decide) ?_
                    refine lv_istore_n (lv' := [(2, .int 0), (0, .ref r0), (1, .int v1_5)]) hx hb dX1_keepChecked_74 rfl hl (by decide) rfl (fun ls hl => ?_)
                    refine lv_aload_n hx hb dX1_keepChecked_75 rfl (lv_at hl 1 rfl) ?_
                    refine lv_iload_n hx hb dX1_keepChecked_76 rfl (lv_at hl 2 rfl) ?_
                    have hd_91 := hh_87.iv 2 rfl
                    have hd_915 := hh_87.at 3 rfl
                    have hd_916 := hh_87.at 4 rfl
                    have hd_91o := hh_87.iv 1 rfl
                    have hh_92 := hh_87.sub (L1 := [(r0, 3, 11, .ref checking_81), (el_37, 11, 1, .ref units_69), (r0, 3, 9, .ref behind_4), (r0, 3, 5, .ref sa_), (r0, 3, 6, .ref ea_), (r0, 3, 4, .int ps), (r0, 3, 10, .int pk)]) [0, 1, 2, 3, 4, 5, 6] rfl (M1 := []) [] rfl (I1 := [([(210, 0)], jQc dC dI (ca 6) behind_4 40 fq_6)]) [0] rfl
                    clear hh_87
                    refine j7_putX hx hb hown hK hh_92 hB hAp hB3 (C := RX1) (T := TX1) (N := 17) rfl (by decide) hg_r0 (i := 10) (by decide) hly_3_10 rfl hlk_72 rfl (ty := .int) (v := .int v1_5) (by decide +kernel) rfl rfl (⟨_, rfl, by omega, by omega⟩) rfl (L1 := [(r0, 3, 11, .ref checking_81), (el_37, 11, 1, .ref units_69), (r0, 3, 9, .ref behind_4), (r0, 3, 5, .ref sa_), (r0, 3, 6, .ref ea_), (r0, 3, 4, .int ps)]) [0, 1, 2, 3, 4, 5] rfl rfl rfl dX1_keepChecked_77 (fun H_90 locs_90 hr_90 hh_90 => ?_)
                    clear hh_92
                    have hd_91n := jDcc.fld hd_91 hg_r0 hr_90 hd_915 hd_916 (hh_90.at 4 rfl) (hh_90.at 5 rfl)
                    have hd_91on := jOw.put hd_91o hr_90
                    have hh_93 := hh_90.addI (jDcc.ie hd_91n)
                    clear hh_90
                    have hh_94 := hh_93.addI (jOw.ie (dC := dC) (dI := dI) (G0 := G0) (k := 3) (r := r0) (H0 := s.heap) (F := [(3, 0), (3, 1), (3, 2), (3, 3), (3, 4), (3, 5), (3, 6), (3, 7), (3, 8), (3, 9), (3, 10), (3, 11), (3, 12), (3, 13), (3, 14), (3, 15), (3, 16)]) (C := RX1) (T := TX1) (N := 17) rfl (by decide) hh_93.2.2.2.2.1 (hd_91on))
                    clear hh_93
                    clear hd_91 hd_91n hd_915 hd_916 hr_90 hd_91o hd_91on
                    refine lv_iload_n hx hb dX1_keepChecked_80 rfl (lv_at hl 0 rfl) ?_
                    rw [hQ]
                    exact W.zret (v := 0) hx hb hr (jb_nz (Or.inl rfl)) (fun t ht hW => ⟨⟨0, v1_5, rfl, ⟨(Or.inl rfl), by (try dsimp only); first | omega | (refine ⟨?_, ?_, ?_, ?_⟩ <;> (first | omega | rfl | assumption | decide | exact Or.inl rfl | exact Or.inr rfl | (simp only; omega)))⟩, ⟨⟨hh_94.rt (M1 := [(r0, 3, 10, .int v1_5)]) [0] rfl ht, by rw [ht]; exact hh_94.iv 0 rfl⟩, by rw [ht]; exact hh_94.2.2.2.2.2.2.2.2.sub (L1 := [(jFdo, jDcc dC dI ca G0 (some r0) ph)]) [1] rfl⟩⟩, by rw [ht]; try exact hh_94.1.1, fun q h9 hq => by rw [ht]; try exact hh_94.1.2.1 q h9 hq⟩) hh_94.1.2.2 dX1_keepChecked_81
                  · skip
                    have c_89' : r_88.toInt ≠ 0 := jb_eq_n (rfl) ((by decide)) c_89
                    first | (have hr_88pq := hr_88p.resolve_left (by omega); clear hr_88p) | (have hr_88pq := hr_88p.resolve_right (by omega); clear hr_88p) | try clear hr_88p
                    refine lv_iconst (v := 1) hx hb dX1_keepChecked_69 (by decide) ?_
                    refine lv_goto (tgt := 74) hx hb dX1_keepChecked_70 (by decide) ?_
                    refine lv_istore_n (lv' := [(2, .int 1), (0, .ref r0), (1, .int v1_5)]) hx hb dX1_keepChecked_74 rfl hl (by decide) rfl (fun ls hl => ?_)
                    refine lv_aload_n hx hb dX1_keepChecked_75 rfl (lv_at hl 1 rfl) ?_
                    refine lv_iload_n hx hb dX1_keepChecked_76 rfl (lv_at hl 2 rfl) ?_
                    have hd_96 := hh_87.iv 2 rfl
                    have hd_965 := hh_87.at 3 rfl
                    have hd_966 := hh_87.at 4 rfl
                    have hd_96o := hh_87.iv 1 rfl
                    have hh_97 := hh_87.sub (L1 := [(r0, 3, 11, .ref checking_81), (el_37, 11, 1, .ref units_69), (r0, 3, 9, .ref behind_4), (r0, 3, 5, .ref sa_), (r0, 3, 6, .ref ea_), (r0, 3, 4, .int ps), (r0, 3, 10, .int pk)]) [0, 1, 2, 3, 4, 5, 6] rfl (M1 := []) [] rfl (I1 := [([(210, 0)], jQc dC dI (ca 6) behind_4 40 fq_6)]) [0] rfl
                    clear hh_87
                    refine j7_putX hx hb hown hK hh_97 hB hAp hB3 (C := RX1) (T := TX1) (N := 17) rfl (by decide) hg_r0 (i := 10) (by decide) hly_3_10 rfl hlk_72 rfl (ty := .int) (v := .int v1_5) (by decide +kernel) rfl rfl (⟨_, rfl, by omega, by omega⟩) rfl (L1 := [(r0, 3, 11, .ref checking_81), (el_37, 11, 1, .ref units_69), (r0, 3, 9, .ref behind_4), (r0, 3, 5, .ref sa_), (r0, 3, 6, .ref ea_), (r0, 3, 4, .int ps)]) [0, 1, 2, 3, 4, 5] rfl rfl rfl dX1_keepChecked_77 (fun H_95 locs_95 hr_95 hh_95 => ?_)
                    clear hh_97
                    have hd_96n := jDcc.fld hd_96 hg_r0 hr_95 hd_965 hd_966 (hh_95.at 4 rfl) (hh_95.at 5 rfl)
                    have hd_96on := jOw.put hd_96o hr_95
                    have hh_98 := hh_95.addI (jDcc.ie hd_96n)
                    clear hh_95
                    have hh_99 := hh_98.addI (jOw.ie (dC := dC) (dI := dI) (G0 := G0) (k := 3) (r := r0) (H0 := s.heap) (F := [(3, 0), (3, 1), (3, 2), (3, 3), (3, 4), (3, 5), (3, 6), (3, 7), (3, 8), (3, 9), (3, 10), (3, 11), (3, 12), (3, 13), (3, 14), (3, 15), (3, 16)]) (C := RX1) (T := TX1) (N := 17) rfl (by decide) hh_98.2.2.2.2.1 (hd_96on))
                    clear hh_98
                    clear hd_96 hd_96n hd_965 hd_966 hr_95 hd_96o hd_96on
                    refine lv_iload_n hx hb dX1_keepChecked_80 rfl (lv_at hl 0 rfl) ?_
                    rw [hQ]
                    exact W.zret (v := 1) hx hb hr (jb_nz (Or.inr rfl)) (fun t ht hW => ⟨⟨1, v1_5, rfl, ⟨(Or.inr rfl), by (try dsimp only); first | omega | (refine ⟨?_, ?_, ?_, ?_⟩ <;> (first | omega | rfl | assumption | decide | exact Or.inl rfl | exact Or.inr rfl | (simp only; omega)))⟩, ⟨⟨hh_99.rt (M1 := [(r0, 3, 10, .int v1_5)]) [0] rfl ht, by rw [ht]; exact hh_99.iv 0 rfl⟩, by rw [ht]; exact hh_99.2.2.2.2.2.2.2.2.sub (L1 := [(jFdo, jDcc dC dI ca G0 (some r0) ph)]) [1] rfl⟩⟩, by rw [ht]; try exact hh_99.1.1, fun q h9 hq => by rw [ht]; try exact hh_99.1.2.1 q h9 hq⟩) hh_99.1.2.2 dX1_keepChecked_81
            · skip
              have c_72' : r_71.toInt ≠ 0 := jb_eq_n (rfl) ((by decide)) c_72
              first | (have hr_71pq := hr_71p.resolve_left (by omega); clear hr_71p) | (have hr_71pq := hr_71p.resolve_right (by omega); clear hr_71p) | try clear hr_71p
              obtain ⟨z_100, ez_100⟩ : ∃ y : Int32, y = v1_5 + 1 := ⟨_, rfl⟩
              refine lv_iinc (v := z_100) (lv' := [(1, .int z_100), (0, .ref r0)]) hx hb dX1_keepChecked_36 hl (k := 1) rfl (by rw [ez_100]; rfl) (by decide) rfl (fun ls hl => ?_)
              have hz_100 : z_100.toInt = v1_5.toInt + 1 := by rw [ez_100]; exact jb_iadd2 (rfl) (by decide) (by omega)
              refine lv_goto (tgt := 2) hx hb dX1_keepChecked_39 (by decide) ?_
              exact L2 z_100 _ _ (hh_70.sub (L1 := [(r0, 3, 9, .ref behind_4), (r0, 3, 5, .ref sa_), (r0, 3, 6, .ref ea_), (r0, 3, 4, .int ps), (r0, 3, 10, .int pk)]) [1, 2, 3, 4, 5] rfl (M1 := []) [] rfl (I1 := [([(3, 0), (3, 1), (3, 2), (3, 3), (3, 4), (3, 5), (3, 6), (3, 7), (3, 8), (3, 9), (3, 10), (3, 11), (3, 12), (3, 13), (3, 14), (3, 15), (3, 16)], jOw (dC, dI) G0 3 r0 s.heap), (jFdo, jDcc dC dI ca G0 (some r0) ph)]) [1, 2] rfl) (by first | omega | (refine ⟨?_, ?_, ?_⟩ <;> (first | omega | rfl | assumption | decide | exact Or.inl rfl | exact Or.inr rfl | (simp only; omega)))) (by omega) _ (lv_sub hl [1, 0] rfl)
  exact L2 (pk.toInt - (0 : Int32).toInt : Int).toNat.succ 0 _ _ hh_3 (by first | omega | (refine ⟨?_, ?_, ?_⟩ <;> (first | omega | rfl | assumption | decide | exact Or.inl rfl | exact Or.inr rfl | (simp only; omega)))) (by omega) _ (lv_sub hl [1, 0] rfl)
set_option maxHeartbeats 4000000 in
set_option maxRecDepth 20000 in
theorem uX11_releaseE (l : Launch) (dC : Nat → ClassId) (dI : Nat → Nat → Nat) (ca : Nat → ClassId) (base : Nat) (B : jF) (hB : jBok B) (hAp : jAp (dC, dI)) (hB3 : ∀ n G a H, B 3 n G a H ↔ jOb (dC, dI) 3 17 (F3 n G) a H) (hB11 : ∀ n G a H, B 11 n G a H ↔ jOb (dC, dI) 11 9 (F11 n G) a H) (hB13 : ∀ n G a H, B 13 n G a H ↔ jOb (dC, dI) 13 19 (F13 n G) a H) (hB101 : ∀ n G a H, B 101 n G a H ↔ jAr (dC, dI) (ca 1) (fun j z => True) n a H) (hB212 : ∀ n G a H, B 212 n G a H ↔ jAq (dC, dI) (ca 5) (jQn 3 0) n G a H) (G0 : jT) (H0 : Heap) (r0 : Nat) (r1 : Nat) (sa_ : Nat) (ea_ : Nat) (ph : Nat) : Met l yX11_release (jw yX11_release cX11_release 3 none) ({ frames := 0, cells := 0, slots := 0, locals := 0 }) (va_Pc [.ref r0, .ref r1] (fun U => U.heap = H0 ∧ jX B base G0 [] H0 ∧ jG dC dI ca base U ∧ jK2 dC dI ca U ∧ G0 r0 = some (13, 0) ∧ G0 r1 = some (3, 0) ∧ G0 sa_ = some (171, 40) ∧ G0 ea_ = some (172, 40) ∧ jP (dC, dI) G0 H0 [(r1, 3, 5, .ref sa_), (r1, 3, 6, .ref ea_)] ∧ jIs (dC, dI) G0 H0 [(jFdo, jDcc dC dI ca G0 (some r1) ph)] ∧ True)) (va_Qv (S := Unit) (fun u => True) (fun u t => (jRt (dC, dI) B base G0 EX11_releaseE H0 [(r1, 3, 11, .null)] t.heap) ∧ jIs (dC, dI) G0 t.heap [(jFdo, jDcc dC dI ca G0 (some r1) ph)]) (jA base)) 0 0 (jA base) := by
  refine Met.ofW (cc := cX11_release) (maxL := 3) (ret := none) (by decide) rfl ?_
  intro p e s m args below meth c s₁ Bd hml hv
  obtain ⟨rfl, hH0, hX, hG, hK2, hg_r0, hg_r1, hg_sa_, hg_ea_, hP0, hI0, hp0⟩ := hv
  have hK := hG.1
  have hx := Bd.exec
  have hb := Bd.bytes
  have hr := Bd.returns
  have hts := atoms_spec (ws := (jw yX11_release cX11_release 3 none)) Bd.pre
  have htw : ∀ w ∈ jWl, w.before _ s = true := fun w h => hts w (List.mem_cons_of_mem _ h)
  have hown : s.vm.findClass RX11 = some m.cls := findClass_of_methodNamed Bd.named
  have hlocks := Bd.notSynchronized
  obtain ⟨Q, hQ⟩ : ∃ Q, Q = MQ below (va_Qv (S := Unit) (fun u => True) (fun u t => (jRt (dC, dI) B base G0 EX11_releaseE H0 [(r1, 3, 11, .null)] t.heap) ∧ jIs (dC, dI) G0 t.heap [(jFdo, jDcc dC dI ca G0 (some r1) ph)]) (jA base)) ([.ref r0, .ref r1] : List Value).toArray s 0 0 (jA base) := ⟨_, rfl⟩
  rw [← hQ]
  have hl := lv_entry ([.ref r0, .ref r1]) (n := 3) (Nat.le_of_ble_eq_true rfl)
  rw [lg_entry_eq]
  generalize (lg_sl ([.ref r0, .ref r1]) ++ List.replicate (3 - (lg_sl ([.ref r0, .ref r1])).length) Slot.unset).toArray = ls at hl ⊢
  have hl : lv_has ls 3 [(0, .ref r0), (1, .ref r1)] := hl
  generalize hR : (headSpec (jw yX11_release cX11_release 3 none) ({ frames := 0, cells := 0, slots := 0, locals := 0 })).room = R
  subst hH0
  have hh : jSt (dC, dI) B base G0 G0 EX11_releaseE s.heap 0 0 [(r1, 3, 5, .ref sa_), (r1, 3, 6, .ref ea_)] [] [(jFdo, jDcc dC dI ca G0 (some r1) ph)] s.heap [] := jSt.start hX hP0 jMc.nil hI0
  clear hX hP0
  have hk0 : (0 : Int32).toInt = 0 := by decide
  have hk1 : (1 : Int32).toInt = 1 := by decide
  have hk2 : (2 : Int32).toInt = 2 := by decide
  have hly_3_11 := htw (u_lay RX1 TX1 11) (jWc_wsX10 _ (u_in_lay (by decide)))
  have hly_3_12 := htw (u_lay RX1 TX1 12) (jWc_wsX10 _ (u_in_lay (by decide)))
  have hly_3_13 := htw (u_lay RX1 TX1 13) (jWc_wsX10 _ (u_in_lay (by decide)))
  have hly_13_10 := htw (u_lay RX11 TX11 10) (jWc_wsX110 _ (u_in_lay (by decide)))
  have hlk_567 := (htw (.fieldLink RX11 567 "ProofServer$Document" "checking" "[I") (jWr_43 _ (List.mem_of_getElem? (i := 7) rfl)))
  have hlk_580 := (htw (.fieldLink RX11 580 "ProofServer$Document" "found" "LProofServer$State;") (jWr_43 _ (List.mem_of_getElem? (i := 8) rfl)))
  have hlk_577 := (htw (.fieldLink RX11 577 "ProofServer$Document" "left" "I") (jWr_43 _ (List.mem_of_getElem? (i := 9) rfl)))
  have hlk_73 := (htw (.fieldLink RX11 73 "ProofServer" "hands" "[LProofServer$Document;") (jWr_2 _ (List.mem_of_getElem? (i := 18) rfl)))
  refine lv_aload_n hx hb dX11_release_0 rfl (lv_at hl 1 rfl) ?_
  refine lv_null hx hb dX11_release_1 ?_
  have hd_2 := hh.iv 0 rfl
  have hd_25 := hh.at 0 rfl
  have hd_26 := hh.at 1 rfl
  have hh_3 := hh.sub (L1 := [(r1, 3, 5, .ref sa_), (r1, 3, 6, .ref ea_)]) [0, 1] rfl (M1 := []) [] rfl (I1 := []) [] rfl
  clear hh
  refine j7_putX hx hb hown hK hh_3 hB hAp hB3 (C := RX1) (T := TX1) (N := 17) rfl (by decide) hg_r1 (i := 11) (by decide) hly_3_11 rfl hlk_567 rfl (ty := (.array .int)) (v := .null) (by decide +kernel) rfl rfl (Or.inl rfl) rfl (L1 := [(r1, 3, 5, .ref sa_), (r1, 3, 6, .ref ea_)]) [0, 1] rfl rfl rfl dX11_release_2 (fun H_1 locs_1 hr_1 hh_1 => ?_)
  clear hh_3
  have hd_2n := jDcc.fld hd_2 hg_r1 hr_1 hd_25 hd_26 (hh_1.at 1 rfl) (hh_1.at 2 rfl)
  have hh_4 := hh_1.addI (jDcc.ie hd_2n)
  clear hh_1
  clear hd_2 hd_2n hd_25 hd_26 hr_1
  refine lv_aload_n hx hb dX11_release_5 rfl (lv_at hl 1 rfl) ?_
  refine lv_null hx hb dX11_release_6 ?_
  refine j7_put hx hb hown hK hh_4 hB hAp hB3 (C := RX1) (T := TX1) (N := 17) rfl (by decide) hg_r1 (i := 12) (by decide) hly_3_12 rfl hlk_580 rfl (ty := (.object "ProofServer$State")) (v := .null) (by decide +kernel) rfl rfl (Or.inl rfl) rfl (L1 := [(r1, 3, 11, .null), (r1, 3, 5, .ref sa_), (r1, 3, 6, .ref ea_)]) [0, 1, 2] rfl rfl rfl dX11_release_7 (fun H_5 locs_5 hh_5 => ?_)
  clear hh_4
  refine lv_aload_n hx hb dX11_release_10 rfl (lv_at hl 1 rfl) ?_
  refine lv_iconst (v := 0) hx hb dX11_release_11 (by decide) ?_
  refine j7_put hx hb hown hK hh_5 hB hAp hB3 (C := RX1) (T := TX1) (N := 17) rfl (by decide) hg_r1 (i := 13) (by decide) hly_3_13 rfl hlk_577 rfl (ty := .int) (v := .int 0) (by decide +kernel) rfl rfl (⟨_, rfl⟩) rfl (L1 := [(r1, 3, 12, .null), (r1, 3, 11, .null), (r1, 3, 5, .ref sa_), (r1, 3, 6, .ref ea_)]) [0, 1, 2, 3] rfl rfl rfl dX11_release_12 (fun H_6 locs_6 hh_6 => ?_)
  clear hh_5
  refine lv_iconst (v := 0) hx hb dX11_release_15 (by decide) ?_
  refine lv_istore_n (lv' := [(2, .int 0), (0, .ref r0), (1, .ref r1)]) hx hb dX11_release_16 rfl hl (by decide) rfl (fun ls hl => ?_)
  have L17 : ∀ (N : Nat) (v2_7 : Int32) (H_7 : Heap) (locs_7 : List Loc), jSt (dC, dI) B base G0 G0 EX11_releaseE s.heap 0 0 [(r1, 3, 13, .int 0), (r1, 3, 12, .null), (r1, 3, 11, .null), (r1, 3, 5, .ref sa_), (r1, 3, 6, .ref ea_)] [] [(jFdo, jDcc dC dI ca G0 (some r1) ph)] H_7 locs_7 → (0 ≤ v2_7.toInt ∧ v2_7.toInt ≤ 2) → (2 - v2_7.toInt : Int) < N → ∀ ls : Array Slot, lv_has ls 3 [(0, .ref r0), (1, .ref r1), (2, .int v2_7)] → W p l e R s m ([.ref r0, .ref r1] : List Value).toArray below meth c H_7 locs_7 0 0 Q (F0 m 17 ls []) := by
    intro N
    induction N with
    | zero => intro v2_7 H_7 locs_7 hh_7  hi_7 hm; exact absurd hm (by omega)
    | succ N L17 =>
      intro v2_7 H_7 locs_7 hh_7  hi_7 hm_7 ls hl
      obtain ⟨hi_7_0, hi_7_1⟩ := hi_7
      refine lv_iload_n hx hb dX11_release_17 rfl (lv_at hl 2 rfl) ?_
      refine lv_iconst (v := 2) hx hb dX11_release_18 (by decide) ?_
      refine lv_icmp_ge (tgt := 45) hx hb dX11_release_19 (by decide) (fun c_8 => ?_) (fun c_8 => ?_)
      · skip
        have c_8' : v2_7.toInt ≥ 2 := jb_ge (rfl) ((by decide)) c_8
        rw [hQ]
        exact W.vret hx hb hr (fun t ht hW => ⟨⟨(), rfl, trivial, ⟨hh_7.rt (M1 := [(r1, 3, 11, .null)]) [2] rfl ht, by rw [ht]; exact hh_7.2.2.2.2.2.2.2.2.sub (L1 := [(jFdo, jDcc dC dI ca G0 (some r1) ph)]) [0] rfl⟩⟩, by rw [ht]; try exact hh_7.1.1, fun q h9 hq => by rw [ht]; try exact hh_7.1.2.1 q h9 hq⟩) hh_7.1.2.2 dX11_release_45
      · skip
        have c_8' : v2_7.toInt < 2 := jb_ge_n (rfl) ((by decide)) c_8
        refine lv_aload_n hx hb dX11_release_22 rfl (lv_at hl 0 rfl) ?_
        obtain ⟨v_9, hv_9, hh_10⟩ := hh_7.pin (C := RX11) (T := TX11) (N := 19) hB13 rfl (by decide) hg_r0 (i := 10) (by decide) rfl
        clear hh_7
        obtain ⟨hands_11, rfl, hg_hands_11⟩ := hv_9
        refine j7_read hx hb hown hK (C := RX11) (T := TX11) (N := 19) rfl hly_13_10 hlk_73 (hh_10.at 0 rfl) dX11_release_23 ?_
        refine lv_iload_n hx hb dX11_release_26 rfl (lv_at hl 2 rfl) ?_
        refine j7_qald hx hb hK2 hh_10 hB212 1 rfl (by decide) hg_hands_11 (x := v2_7.toInt) (rfl) (by omega) dX11_release_27 (fun o_12 ho_12 => ?_)
        rcases ho_12 with rfl | ⟨el_13, rfl, hg_el_13⟩
        · simp only [va_rf]
          refine lv_aload_n hx hb dX11_release_28 rfl (lv_at hl 1 rfl) ?_
          refine lv_acmp_ne (rx := none) (ry := (some r1)) (tgt := 39) hx hb dX11_release_29 (by decide) (fun c_14 => ?_) (fun c_14 => ?_)
          · skip
            obtain ⟨z_15, ez_15⟩ : ∃ y : Int32, y = v2_7 + 1 := ⟨_, rfl⟩
            refine lv_iinc (v := z_15) (lv' := [(2, .int z_15), (0, .ref r0), (1, .ref r1)]) hx hb dX11_release_39 hl (k := 2) rfl (by rw [ez_15]; rfl) (by decide) rfl (fun ls hl => ?_)
            have hz_15 : z_15.toInt = v2_7.toInt + 1 := by rw [ez_15]; exact jb_iadd2 (rfl) (by decide) (by omega)
            refine lv_goto (tgt := 17) hx hb dX11_release_42 (by decide) ?_
            exact L17 z_15 _ _ (hh_10.sub (L1 := [(r1, 3, 13, .int 0), (r1, 3, 12, .null), (r1, 3, 11, .null), (r1, 3, 5, .ref sa_), (r1, 3, 6, .ref ea_)]) [1, 2, 3, 4, 5] rfl (M1 := []) [] rfl (I1 := [(jFdo, jDcc dC dI ca G0 (some r1) ph)]) [0] rfl) (by first | omega | (refine ⟨?_, ?_⟩ <;> (first | omega | rfl | assumption | decide | exact Or.inl rfl | exact Or.inr rfl | (simp only; omega)))) (by omega) _ (lv_sub hl [1, 2, 0] rfl)
          · skip
            cases c_14
        · simp only [va_rf]
          refine lv_aload_n hx hb dX11_release_28 rfl (lv_at hl 1 rfl) ?_
          refine lv_acmp_ne (rx := (some el_13)) (ry := (some r1)) (tgt := 39) hx hb dX11_release_29 (by decide) (fun c_16 => ?_) (fun c_16 => ?_)
          · skip
            obtain ⟨z_17, ez_17⟩ : ∃ y : Int32, y = v2_7 + 1 := ⟨_, rfl⟩
            refine lv_iinc (v := z_17) (lv' := [(2, .int z_17), (0, .ref r0), (1, .ref r1)]) hx hb dX11_release_39 hl (k := 2) rfl (by rw [ez_17]; rfl) (by decide) rfl (fun ls hl => ?_)
            have hz_17 : z_17.toInt = v2_7.toInt + 1 := by rw [ez_17]; exact jb_iadd2 (rfl) (by decide) (by omega)
            refine lv_goto (tgt := 17) hx hb dX11_release_42 (by decide) ?_
            exact L17 z_17 _ _ (hh_10.sub (L1 := [(r1, 3, 13, .int 0), (r1, 3, 12, .null), (r1, 3, 11, .null), (r1, 3, 5, .ref sa_), (r1, 3, 6, .ref ea_)]) [1, 2, 3, 4, 5] rfl (M1 := []) [] rfl (I1 := [(jFdo, jDcc dC dI ca G0 (some r1) ph)]) [0] rfl) (by first | omega | (refine ⟨?_, ?_⟩ <;> (first | omega | rfl | assumption | decide | exact Or.inl rfl | exact Or.inr rfl | (simp only; omega)))) (by omega) _ (lv_sub hl [1, 2, 0] rfl)
          · skip
            refine lv_aload_n hx hb dX11_release_32 rfl (lv_at hl 0 rfl) ?_
            refine j7_read hx hb hown hK (C := RX11) (T := TX11) (N := 19) rfl hly_13_10 hlk_73 (hh_10.at 0 rfl) dX11_release_33 ?_
            refine lv_iload_n hx hb dX11_release_36 rfl (lv_at hl 2 rfl) ?_
            refine lv_null hx hb dX11_release_37 ?_
            refine j7_qastN hx hb hK2 hh_10 hB hB212 1 rfl (by decide) (by decide) rfl rfl rfl hg_hands_11 (x := v2_7.toInt) (rfl) (by omega) (Or.inl rfl) dX11_release_38 (fun H_18 locs_18 hh_18 => ?_)
            clear hh_10
            obtain ⟨z_19, ez_19⟩ : ∃ y : Int32, y = v2_7 + 1 := ⟨_, rfl⟩
            refine lv_iinc (v := z_19) (lv' := [(2, .int z_19), (0, .ref r0), (1, .ref r1)]) hx hb dX11_release_39 hl (k := 2) rfl (by rw [ez_19]; rfl) (by decide) rfl (fun ls hl => ?_)
            have hz_19 : z_19.toInt = v2_7.toInt + 1 := by rw [ez_19]; exact jb_iadd2 (rfl) (by decide) (by omega)
            refine lv_goto (tgt := 17) hx hb dX11_release_42 (by decide) ?_
            exact L17 z_19 _ _ (hh_18.sub (L1 := [(r1, 3, 13, .int 0), (r1, 3, 12, .null), (r1, 3, 11, .null), (r1, 3, 5, .ref sa_), (r1, 3, 6, .ref ea_)]) [1, 2, 3, 4, 5] rfl (M1 := []) [] rfl (I1 := [(jFdo, jDcc dC dI ca G0 (some r1) ph)]) [0] rfl) (by first | omega | (refine ⟨?_, ?_⟩ <;> (first | omega | rfl | assumption | decide | exact Or.inl rfl | exact Or.inr rfl | (simp only; omega)))) (by omega) _ (lv_sub hl [1, 2, 0] rfl)
  exact L17 (2 - (0 : Int32).toInt : Int).toNat.succ 0 _ _ hh_6 (by first | omega | (refine ⟨?_, ?_⟩ <;> (first | omega | rfl | assumption | decide | exact Or.inl rfl | exact Or.inr rfl | (simp only; omega)))) (by omega) _ (lv_sub hl [1, 2, 0] rfl)
end
section
def EX4_firstOfJ : List (Nat × Nat) := []
def EX4_nextOfJ : List (Nat × Nat) := []
set_option maxHeartbeats 4000000 in
set_option maxRecDepth 20000 in
theorem uX4_firstOfJ (l : Launch) (dC : Nat → ClassId) (dI : Nat → Nat → Nat) (ca : Nat → ClassId) (base : Nat) (B : jF) (hB : jBok B) (hAp : jAp (dC, dI)) (hB6 : ∀ n G a H, B 6 n G a H ↔ jOb (dC, dI) 6 12 (F6 n G) a H) (hB141 : ∀ n G a H, B 141 n G a H ↔ jAr (dC, dI) (ca 1) (fun j z => True) n a H) (G0 : jT) (H0 : Heap) (r0 : Nat) (a1 : Int32) (pv : Int32) (pu : Int32) (wk : Nat) (wi : Nat) (wz : Nat) (jnx : Nat) (jkf : Nat) (jks : Nat) (jun : Nat) (T9 : Nat → Int → Int) (fk : Nat → Int32) (fi : Nat → Int32) (fz : Nat → Int32) (fn : Nat → Int32) (fa : Nat → Int32) (fs : Nat → Int32) (fu : Nat → Int32) : Met l yX4_firstOf (jw yX4_firstOf cX4_firstOf 2 (some .int)) ({ frames := 0, cells := 0, slots := 0, locals := 0 }) (va_Pc [.ref r0, .int a1] (fun U => U.heap = H0 ∧ jX B base G0 [] H0 ∧ jG dC dI ca base U ∧ G0 r0 = some (6, 0) ∧ G0 wk = some (140, 1502) ∧ G0 wi = some (141, 1502) ∧ G0 wz = some (142, 1502) ∧ G0 jnx = some (143, 1502) ∧ G0 jkf = some (144, 1502) ∧ G0 jks = some (145, 1502) ∧ G0 jun = some (146, 3000) ∧ jP (dC, dI) G0 H0 [(r0, 6, 7, .int pv), (r0, 6, 8, .int pu), (r0, 6, 0, .ref wk), (r0, 6, 1, .ref wi), (r0, 6, 2, .ref wz), (r0, 6, 3, .ref jnx), (r0, 6, 4, .ref jkf), (r0, 6, 5, .ref jks), (r0, 6, 6, .ref jun)] ∧ jMc (dC, dI) G0 H0 [(wk, 140, 1502, ca 1, fk), (wi, 141, 1502, ca 1, fi), (wz, 142, 1502, ca 1, fz), (jnx, 143, 1502, ca 1, fn), (jkf, 144, 1502, ca 1, fa), (jks, 145, 1502, ca 1, fs), (jun, 146, 3000, ca 1, fu)] ∧ 0 ≤ pv.toInt ∧ pv.toInt ≤ 1502 ∧ 0 ≤ pu.toInt ∧ pu.toInt ≤ 3000 ∧ jjTC T9 pv.toInt pu.toInt fk fi fz fn fa fs fu)) (va_Qi (S := Unit) (fun r u => (r.toInt = jqF T9 pv.toInt a1.toInt)) (fun u t => (jRt (dC, dI) B base G0 EX4_firstOfJ H0 [] t.heap) ∧ jKl [] H0 t.heap) (jA base)) 0 0 (jA base) := by
  refine Met.ofW (cc := cX4_firstOf) (maxL := 2) (ret := (some .int)) (by decide) rfl ?_
  intro p e s m args below meth c s₁ Bd hml hv
  obtain ⟨rfl, hH0, hX, hG, hg_r0, hg_wk, hg_wi, hg_wz, hg_jnx, hg_jkf, hg_jks, hg_jun, hP0, hM0, hp0, hp1, hp2, hp3, hp4⟩ := hv
  have hK := hG.1
  have hx := Bd.exec
  have hb := Bd.bytes
  have hr := Bd.returns
  have hts := atoms_spec (ws := (jw yX4_firstOf cX4_firstOf 2 (some .int))) Bd.pre
  have htw : ∀ w ∈ jWl, w.before _ s = true := fun w h => hts w (List.mem_cons_of_mem _ h)
  have hown : s.vm.findClass RX4 = some m.cls := findClass_of_methodNamed Bd.named
  have hlocks := Bd.notSynchronized
  obtain ⟨Q, hQ⟩ : ∃ Q, Q = MQ below (va_Qi (S := Unit) (fun r u => (r.toInt = jqF T9 pv.toInt a1.toInt)) (fun u t => (jRt (dC, dI) B base G0 EX4_firstOfJ H0 [] t.heap) ∧ jKl [] H0 t.heap) (jA base)) ([.ref r0, .int a1] : List Value).toArray s 0 0 (jA base) := ⟨_, rfl⟩
  rw [← hQ]
  have hl := lv_entry ([.ref r0, .int a1]) (n := 2) (Nat.le_of_ble_eq_true rfl)
  rw [lg_entry_eq]
  generalize (lg_sl ([.ref r0, .int a1]) ++ List.replicate (2 - (lg_sl ([.ref r0, .int a1])).length) Slot.unset).toArray = ls at hl ⊢
  have hl : lv_has ls 2 [(0, .ref r0), (1, .int a1)] := hl
  generalize hR : (headSpec (jw yX4_firstOf cX4_firstOf 2 (some .int)) ({ frames := 0, cells := 0, slots := 0, locals := 0 })).room = R
  subst hH0
  have hh : jSt (dC, dI) B base G0 G0 EX4_firstOfJ s.heap 0 0 [(r0, 6, 7, .int pv), (r0, 6, 8, .int pu), (r0, 6, 0, .ref wk), (r0, 6, 1, .ref wi), (r0, 6, 2, .ref wz), (r0, 6, 3, .ref jnx), (r0, 6, 4, .ref jkf), (r0, 6, 5, .ref jks), (r0, 6, 6, .ref jun)] [(wk, 140, 1502, ca 1, fk), (wi, 141, 1502, ca 1, fi), (wz, 142, 1502, ca 1, fz), (jnx, 143, 1502, ca 1, fn), (jkf, 144, 1502, ca 1, fa), (jks, 145, 1502, ca 1, fs), (jun, 146, 3000, ca 1, fu)] [] s.heap [] := jSt.start hX hP0 hM0 jIs.nil
  clear hX hP0
  have hkm1 : ((-1) : Int32).toInt = (-1) := by decide
  have hk0 : (0 : Int32).toInt = 0 := by decide
  have hk1 : (1 : Int32).toInt = 1 := by decide
  have hly_6_1 := htw (u_lay RX4 TX4 1) (jWc_wsX40 _ (u_in_lay (by decide)))
  have hly_6_7 := htw (u_lay RX4 TX4 7) (jWc_wsX40 _ (u_in_lay (by decide)))
  have hlk_50 := (htw (.fieldLink RX4 50 "ProofServer$Json" "values" "I") (jWr_19 _ (List.mem_of_getElem? (i := 13) rfl)))
  have hlk_15 := (htw (.fieldLink RX4 15 "ProofServer$Json" "firsts" "[I") (jWr_3 _ (List.mem_of_getElem? (i := 22) rfl)))
  have hrg_a1 := jb_rng a1
  have hfl : jKl [] s.heap s.heap := jKl.rf
  refine lv_iload_n hx hb dX4_firstOf_0 rfl (lv_at hl 1 rfl) ?_
  refine lv_if_lt (tgt := 12) hx hb dX4_firstOf_1 (by decide) (fun c_1 => ?_) (fun c_1 => ?_)
  · skip
    have c_1' : a1.toInt < 0 := jb_lt (rfl) ((by decide)) c_1
    refine lv_iconst (v := (-1)) hx hb dX4_firstOf_12 (by decide) ?_
    refine lv_goto (tgt := 22) hx hb dX4_firstOf_13 (by decide) ?_
    rw [hQ]
    exact W.iret (v := (-1)) hx hb hr (fun t ht hW => ⟨⟨(-1), (), rfl, by unfold jqF; rw [if_neg (fun h9 => by omega)]; exact hkm1, ⟨hh.rt (M1 := []) [] rfl ht, by rw [ht]; exact hfl⟩⟩, by rw [ht]; try exact hh.1.1, fun q h9 hq => by rw [ht]; try exact hh.1.2.1 q h9 hq⟩) hh.1.2.2 dX4_firstOf_22
  · skip
    have c_1' : a1.toInt ≥ 0 := jb_lt_n (rfl) ((by decide)) c_1
    refine lv_iload_n hx hb dX4_firstOf_4 rfl (lv_at hl 1 rfl) ?_
    refine lv_aload_n hx hb dX4_firstOf_5 rfl (lv_at hl 0 rfl) ?_
    refine j7_read hx hb hown hK (C := RX4) (T := TX4) (N := 12) rfl hly_6_7 hlk_50 (hh.at 0 rfl) dX4_firstOf_6 ?_
    refine lv_icmp_lt (tgt := 16) hx hb dX4_firstOf_9 (by decide) (fun c_2 => ?_) (fun c_2 => ?_)
    · skip
      have c_2' : a1.toInt < pv.toInt := jb_lt (rfl) (rfl) c_2
      refine lv_aload_n hx hb dX4_firstOf_16 rfl (lv_at hl 0 rfl) ?_
      refine j7_read hx hb hown hK (C := RX4) (T := TX4) (N := 12) rfl hly_6_1 hlk_15 (hh.at 3 rfl) dX4_firstOf_17 ?_
      refine lv_iload_n hx hb dX4_firstOf_20 rfl (lv_at hl 1 rfl) ?_
      refine j7_ialdM hx hb hK hh hB141 1 rfl (by decide) hg_wi (x := a1.toInt) (rfl) (by omega) (j := 1) rfl dX4_firstOf_21 (fun z_3 ez_3 (hz_3 : True) => ?_)
      have hqz_3 : z_3.toInt = jSo fi (a1.toInt) := by unfold jSo; rw [ez_3]
      rw [hQ]
      exact W.iret (v := z_3) hx hb hr (fun t ht hW => ⟨⟨z_3, (), rfl, by unfold jqF; rw [if_pos ⟨by omega, by omega⟩]; exact hqz_3.trans (hp4.2.1 _ (by omega) (by omega)).symm, ⟨hh.rt (M1 := []) [] rfl ht, by rw [ht]; exact hfl⟩⟩, by rw [ht]; try exact hh.1.1, fun q h9 hq => by rw [ht]; try exact hh.1.2.1 q h9 hq⟩) hh.1.2.2 dX4_firstOf_22
    · skip
      have c_2' : a1.toInt ≥ pv.toInt := jb_lt_n (rfl) (rfl) c_2
      refine lv_iconst (v := (-1)) hx hb dX4_firstOf_12 (by decide) ?_
      refine lv_goto (tgt := 22) hx hb dX4_firstOf_13 (by decide) ?_
      rw [hQ]
      exact W.iret (v := (-1)) hx hb hr (fun t ht hW => ⟨⟨(-1), (), rfl, by unfold jqF; rw [if_neg (fun h9 => by omega)]; exact hkm1, ⟨hh.rt (M1 := []) [] rfl ht, by rw [ht]; exact hfl⟩⟩, by rw [ht]; try exact hh.1.1, fun q h9 hq => by rw [ht]; try exact hh.1.2.1 q h9 hq⟩) hh.1.2.2 dX4_firstOf_22
set_option maxHeartbeats 4000000 in
set_option maxRecDepth 20000 in
theorem uX4_nextOfJ (l : Launch) (dC : Nat → ClassId) (dI : Nat → Nat → Nat) (ca : Nat → ClassId) (base : Nat) (B : jF) (hB : jBok B) (hAp : jAp (dC, dI)) (hB6 : ∀ n G a H, B 6 n G a H ↔ jOb (dC, dI) 6 12 (F6 n G) a H) (hB143 : ∀ n G a H, B 143 n G a H ↔ jAr (dC, dI) (ca 1) (fun j z => True) n a H) (G0 : jT) (H0 : Heap) (r0 : Nat) (a1 : Int32) (pv : Int32) (pu : Int32) (wk : Nat) (wi : Nat) (wz : Nat) (jnx : Nat) (jkf : Nat) (jks : Nat) (jun : Nat) (T9 : Nat → Int → Int) (fk : Nat → Int32) (fi : Nat → Int32) (fz : Nat → Int32) (fn : Nat → Int32) (fa : Nat → Int32) (fs : Nat → Int32) (fu : Nat → Int32) : Met l yX4_nextOf (jw yX4_nextOf cX4_nextOf 2 (some .int)) ({ frames := 0, cells := 0, slots := 0, locals := 0 }) (va_Pc [.ref r0, .int a1] (fun U => U.heap = H0 ∧ jX B base G0 [] H0 ∧ jG dC dI ca base U ∧ G0 r0 = some (6, 0) ∧ G0 wk = some (140, 1502) ∧ G0 wi = some (141, 1502) ∧ G0 wz = some (142, 1502) ∧ G0 jnx = some (143, 1502) ∧ G0 jkf = some (144, 1502) ∧ G0 jks = some (145, 1502) ∧ G0 jun = some (146, 3000) ∧ jP (dC, dI) G0 H0 [(r0, 6, 7, .int pv), (r0, 6, 8, .int pu), (r0, 6, 0, .ref wk), (r0, 6, 1, .ref wi), (r0, 6, 2, .ref wz), (r0, 6, 3, .ref jnx), (r0, 6, 4, .ref jkf), (r0, 6, 5, .ref jks), (r0, 6, 6, .ref jun)] ∧ jMc (dC, dI) G0 H0 [(wk, 140, 1502, ca 1, fk), (wi, 141, 1502, ca 1, fi), (wz, 142, 1502, ca 1, fz), (jnx, 143, 1502, ca 1, fn), (jkf, 144, 1502, ca 1, fa), (jks, 145, 1502, ca 1, fs), (jun, 146, 3000, ca 1, fu)] ∧ 0 ≤ pv.toInt ∧ pv.toInt ≤ 1502 ∧ 0 ≤ pu.toInt ∧ pu.toInt ≤ 3000 ∧ jjTC T9 pv.toInt pu.toInt fk fi fz fn fa fs fu)) (va_Qi (S := Unit) (fun r u => (r.toInt = jqN T9 pv.toInt a1.toInt)) (fun u t => (jRt (dC, dI) B base G0 EX4_nextOfJ H0 [] t.heap) ∧ jKl [] H0 t.heap) (jA base)) 0 0 (jA base) := by
  refine Met.ofW (cc := cX4_nextOf) (maxL := 2) (ret := (some .int)) (by decide) rfl ?_
  intro p e s m args below meth c s₁ Bd hml hv
  obtain ⟨rfl, hH0, hX, hG, hg_r0, hg_wk, hg_wi, hg_wz, hg_jnx, hg_jkf, hg_jks, hg_jun, hP0, hM0, hp0, hp1, hp2, hp3, hp4⟩ := hv
  have hK := hG.1
  have hx := Bd.exec
  have hb := Bd.bytes
  have hr := Bd.returns
  have hts := atoms_spec (ws := (jw yX4_nextOf cX4_nextOf 2 (some .int))) Bd.pre
  have htw : ∀ w ∈ jWl, w.before _ s = true := fun w h => hts w (List.mem_cons_of_mem _ h)
  have hown : s.vm.findClass RX4 = some m.cls := findClass_of_methodNamed Bd.named
  have hlocks := Bd.notSynchronized
  obtain ⟨Q, hQ⟩ : ∃ Q, Q = MQ below (va_Qi (S := Unit) (fun r u => (r.toInt = jqN T9 pv.toInt a1.toInt)) (fun u t => (jRt (dC, dI) B base G0 EX4_nextOfJ H0 [] t.heap) ∧ jKl [] H0 t.heap) (jA base)) ([.ref r0, .int a1] : List Value).toArray s 0 0 (jA base) := ⟨_, rfl⟩
  rw [← hQ]
  have hl := lv_entry ([.ref r0, .int a1]) (n := 2) (Nat.le_of_ble_eq_true rfl)
  rw [lg_entry_eq]
  generalize (lg_sl ([.ref r0, .int a1]) ++ List.replicate (2 - (lg_sl ([.ref r0, .int a1])).length) Slot.unset).toArray = ls at hl ⊢
  have hl : lv_has ls 2 [(0, .ref r0), (1, .int a1)] := hl
  generalize hR : (headSpec (jw yX4_nextOf cX4_nextOf 2 (some .int)) ({ frames := 0, cells := 0, slots := 0, locals := 0 })).room = R
  subst hH0
  have hh : jSt (dC, dI) B base G0 G0 EX4_nextOfJ s.heap 0 0 [(r0, 6, 7, .int pv), (r0, 6, 8, .int pu), (r0, 6, 0, .ref wk), (r0, 6, 1, .ref wi), (r0, 6, 2, .ref wz), (r0, 6, 3, .ref jnx), (r0, 6, 4, .ref jkf), (r0, 6, 5, .ref jks), (r0, 6, 6, .ref jun)] [(wk, 140, 1502, ca 1, fk), (wi, 141, 1502, ca 1, fi), (wz, 142, 1502, ca 1, fz), (jnx, 143, 1502, ca 1, fn), (jkf, 144, 1502, ca 1, fa), (jks, 145, 1502, ca 1, fs), (jun, 146, 3000, ca 1, fu)] [] s.heap [] := jSt.start hX hP0 hM0 jIs.nil
  clear hX hP0
  have hkm1 : ((-1) : Int32).toInt = (-1) := by decide
  have hk0 : (0 : Int32).toInt = 0 := by decide
  have hk1 : (1 : Int32).toInt = 1 := by decide
  have hly_6_3 := htw (u_lay RX4 TX4 3) (jWc_wsX40 _ (u_in_lay (by decide)))
  have hly_6_7 := htw (u_lay RX4 TX4 7) (jWc_wsX40 _ (u_in_lay (by decide)))
  have hlk_50 := (htw (.fieldLink RX4 50 "ProofServer$Json" "values" "I") (jWr_19 _ (List.mem_of_getElem? (i := 13) rfl)))
  have hlk_21 := (htw (.fieldLink RX4 21 "ProofServer$Json" "nexts" "[I") (jWr_4 _ (List.mem_of_getElem? (i := 0) rfl)))
  have hrg_a1 := jb_rng a1
  have hfl : jKl [] s.heap s.heap := jKl.rf
  refine lv_iload_n hx hb dX4_nextOf_0 rfl (lv_at hl 1 rfl) ?_
  refine lv_if_lt (tgt := 12) hx hb dX4_nextOf_1 (by decide) (fun c_1 => ?_) (fun c_1 => ?_)
  · skip
    have c_1' : a1.toInt < 0 := jb_lt (rfl) ((by decide)) c_1
    refine lv_iconst (v := (-1)) hx hb dX4_nextOf_12 (by decide) ?_
    refine lv_goto (tgt := 22) hx hb dX4_nextOf_13 (by decide) ?_
    rw [hQ]
    exact W.iret (v := (-1)) hx hb hr (fun t ht hW => ⟨⟨(-1), (), rfl, by unfold jqN; rw [if_neg (fun h9 => by omega)]; exact hkm1, ⟨hh.rt (M1 := []) [] rfl ht, by rw [ht]; exact hfl⟩⟩, by rw [ht]; try exact hh.1.1, fun q h9 hq => by rw [ht]; try exact hh.1.2.1 q h9 hq⟩) hh.1.2.2 dX4_nextOf_22
  · skip
    have c_1' : a1.toInt ≥ 0 := jb_lt_n (rfl) ((by decide)) c_1
    refine lv_iload_n hx hb dX4_nextOf_4 rfl (lv_at hl 1 rfl) ?_
    refine lv_aload_n hx hb dX4_nextOf_5 rfl (lv_at hl 0 rfl) ?_
    refine j7_read hx hb hown hK (C := RX4) (T := TX4) (N := 12) rfl hly_6_7 hlk_50 (hh.at 0 rfl) dX4_nextOf_6 ?_
    refine lv_icmp_lt (tgt := 16) hx hb dX4_nextOf_9 (by decide) (fun c_2 => ?_) (fun c_2 => ?_)
    · skip
      have c_2' : a1.toInt < pv.toInt := jb_lt (rfl) (rfl) c_2
      refine lv_aload_n hx hb dX4_nextOf_16 rfl (lv_at hl 0 rfl) ?_
      refine j7_read hx hb hown hK (C := RX4) (T := TX4) (N := 12) rfl hly_6_3 hlk_21 (hh.at 5 rfl) dX4_nextOf_17 ?_
      refine lv_iload_n hx hb dX4_nextOf_20 rfl (lv_at hl 1 rfl) ?_
      refine j7_ialdM hx hb hK hh hB143 1 rfl (by decide) hg_jnx (x := a1.toInt) (rfl) (by omega) (j := 3) rfl dX4_nextOf_21 (fun z_3 ez_3 (hz_3 : True) => ?_)
      have hqz_3 : z_3.toInt = jSo fn (a1.toInt) := by unfold jSo; rw [ez_3]
      rw [hQ]
      exact W.iret (v := z_3) hx hb hr (fun t ht hW => ⟨⟨z_3, (), rfl, by unfold jqN; rw [if_pos ⟨by omega, by omega⟩]; exact hqz_3.trans (hp4.2.2.2.1 _ (by omega) (by omega)).symm, ⟨hh.rt (M1 := []) [] rfl ht, by rw [ht]; exact hfl⟩⟩, by rw [ht]; try exact hh.1.1, fun q h9 hq => by rw [ht]; try exact hh.1.2.1 q h9 hq⟩) hh.1.2.2 dX4_nextOf_22
    · skip
      have c_2' : a1.toInt ≥ pv.toInt := jb_lt_n (rfl) (rfl) c_2
      refine lv_iconst (v := (-1)) hx hb dX4_nextOf_12 (by decide) ?_
      refine lv_goto (tgt := 22) hx hb dX4_nextOf_13 (by decide) ?_
      rw [hQ]
      exact W.iret (v := (-1)) hx hb hr (fun t ht hW => ⟨⟨(-1), (), rfl, by unfold jqN; rw [if_neg (fun h9 => by omega)]; exact hkm1, ⟨hh.rt (M1 := []) [] rfl ht, by rw [ht]; exact hfl⟩⟩, by rw [ht]; try exact hh.1.1, fun q h9 hq => by rw [ht]; try exact hh.1.2.1 q h9 hq⟩) hh.1.2.2 dX4_nextOf_22
end
section
-- p9: the texts of all documents, as a walk carries them; System.arraycopy of ints with contents
section J91
variable {dC : Nat → ClassId} {dI : Nat → Nat → Nat} {ca : Nat → ClassId} {G G1 : jT} {H H1 : Heap} {x : Option Nat} {t : jDtl}
end J91
-- the reference's
section J92
variable {dC : Nat → ClassId} {dI : Nat → Nat → Nat} {ca : Nat → ClassId} {G G1 : jT} {H H1 : Heap} {x : Option Nat} {t : jDtr}
end J92
section J93
variable {p : Program} {l : Launch} {e : Env} {R : Room} {s : State} {m : MethodId} {args : Array Value} {below : List Frame} {meth : Method} {c : Code} {H : Heap} {locs : List Loc} {cells slots : Nat} {Q : State → Prop}
variable {cc : ByteArray} {pc : Nat} {ls : Array Slot} {rest : List Value} {dC : Nat → ClassId} {dI : Nat → Nat → Nat} {ca : Nat → ClassId} {B : jF} {base : Nat} {G0 G : jT} {E : List (Nat × Nat)} {H0 : Heap} {zc zs : Nat} {L : List jPin} {M : List jCt} {I : List jIv} {a a0 k k0 n n0 index : Nat} {tys : List (ClassId × FieldType)} {own : String} {P P0 : Nat → Int32 → Prop} {cA : ClassId}
end J93
-- texts alike, a part of a text exchanged
theorem jdBd {s e n z n1 r : Int} {P Q W : Prop} (h0 : 0 ≤ n) (h1 : n ≤ 1500) (h : (r = 1 ∧ (0 ≤ s ∧ s ≤ e ∧ e ≤ n ∧ 0 ≤ z ∧ z ≤ 1500 ∧ s + z + (n - e) ≤ 1500) ∧ n1 = s + z + (n - e) ∧ P) ∨ (r = 0 ∧ Q ∧ n1 = n ∧ W)) : 0 ≤ n1 ∧ n1 ≤ 1500 := by
  rcases h with ⟨-, b, d, -⟩ | ⟨-, -, d, -⟩
  · omega
  · omega
end
section
def EX1_endsLineU : List (Nat × Nat) := []
def EX1_placeOfU : List (Nat × Nat) := []
set_option maxHeartbeats 4000000 in
set_option maxRecDepth 20000 in
theorem uX1_endsLineU (l : Launch) (dC : Nat → ClassId) (dI : Nat → Nat → Nat) (ca : Nat → ClassId) (base : Nat) (B : jF) (hB : jBok B) (hAp : jAp (dC, dI)) (hB3 : ∀ n G a H, B 3 n G a H ↔ jOb (dC, dI) 3 17 (F3 n G) a H) (hB173 : ∀ n G a H, B 173 n G a H ↔ jAr (dC, dI) (ca 1) (fun j z => True) n a H) (G0 : jT) (H0 : Heap) (r0 : Nat) (a1 : Int32) (n0 : Nat) (pl : Int32) (tx_ : Nat) (ft : Nat → Int32) : Met l yX1_endsLine (jw yX1_endsLine cX1_endsLine 3 (some .boolean)) ({ frames := 0, cells := 0, slots := 0, locals := 0 }) (va_Pc [.ref r0, .int a1] (fun U => U.heap = H0 ∧ jX B base G0 [] H0 ∧ jG dC dI ca base U ∧ G0 r0 = some (3, n0) ∧ G0 tx_ = some (173, 1500) ∧ jP (dC, dI) G0 H0 [(r0, 3, 3, .int pl), (r0, 3, 2, .ref tx_)] ∧ jMc (dC, dI) G0 H0 [(tx_, 173, 1500, ca 1, ft)] ∧ 0 ≤ a1.toInt ∧ a1.toInt < pl.toInt ∧ pl.toInt ≤ 1500)) (va_Qi (S := Unit) (fun r u => (r = 0 ∨ r = 1) ∧ (r.toInt = jdE (jSo ft) pl.toInt a1.toInt)) (fun u t => jRt (dC, dI) B base G0 EX1_endsLineU H0 [] t.heap) (jA base)) 0 0 (jA base) := by
  refine Met.ofW (cc := cX1_endsLine) (maxL := 3) (ret := (some .boolean)) (by decide) rfl ?_
  intro p e s m args below meth c s₁ Bd hml hv
  obtain ⟨rfl, hH0, hX, hG, hg_r0, hg_tx_, hP0, hM0, hp0, hp1, hp2⟩ := hv
  have hK := hG.1
  have hx := Bd.exec
  have hb := Bd.bytes
  have hr := Bd.returns
  have hts := atoms_spec (ws := (jw yX1_endsLine cX1_endsLine 3 (some .boolean))) Bd.pre
  have htw : ∀ w ∈ jWl, w.before _ s = true := fun w h => hts w (List.mem_cons_of_mem _ h)
  have hown : s.vm.findClass RX1 = some m.cls := findClass_of_methodNamed Bd.named
  have hlocks := Bd.notSynchronized
  obtain ⟨Q, hQ⟩ : ∃ Q, Q = MQ below (va_Qi (S := Unit) (fun r u => (r = 0 ∨ r = 1) ∧ (r.toInt = jdE (jSo ft) pl.toInt a1.toInt)) (fun u t => jRt (dC, dI) B base G0 EX1_endsLineU H0 [] t.heap) (jA base)) ([.ref r0, .int a1] : List Value).toArray s 0 0 (jA base) := ⟨_, rfl⟩
  rw [← hQ]
  have hl := lv_entry ([.ref r0, .int a1]) (n := 3) (Nat.le_of_ble_eq_true rfl)
  rw [lg_entry_eq]
  generalize (lg_sl ([.ref r0, .int a1]) ++ List.replicate (3 - (lg_sl ([.ref r0, .int a1])).length) Slot.unset).toArray = ls at hl ⊢
  have hl : lv_has ls 3 [(0, .ref r0), (1, .int a1)] := hl
  generalize hR : (headSpec (jw yX1_endsLine cX1_endsLine 3 (some .boolean)) ({ frames := 0, cells := 0, slots := 0, locals := 0 })).room = R
  subst hH0
  have hh : jSt (dC, dI) B base G0 G0 EX1_endsLineU s.heap 0 0 [(r0, 3, 3, .int pl), (r0, 3, 2, .ref tx_)] [(tx_, 173, 1500, ca 1, ft)] [] s.heap [] := jSt.start hX hP0 hM0 jIs.nil
  clear hX hP0
  have hk0 : (0 : Int32).toInt = 0 := by decide
  have hk1 : (1 : Int32).toInt = 1 := by decide
  have hk10 : (10 : Int32).toInt = 10 := by decide
  have hk13 : (13 : Int32).toInt = 13 := by decide
  have hly_3_2 := htw (u_lay RX1 TX1 2) (jWc_wsX10 _ (u_in_lay (by decide)))
  have hly_3_3 := htw (u_lay RX1 TX1 3) (jWc_wsX10 _ (u_in_lay (by decide)))
  have hlk_15 := (htw (.fieldLink RX1 15 "ProofServer$Document" "text" "[I") (jWr_10 _ (List.mem_of_getElem? (i := 6) rfl)))
  have hlk_42 := (htw (.fieldLink RX1 42 "ProofServer$Document" "length" "I") (jWr_29 _ (List.mem_of_getElem? (i := 5) rfl)))
  have hrg_a1 := jb_rng a1
  refine lv_aload_n hx hb dX1_endsLine_0 rfl (lv_at hl 0 rfl) ?_
  refine j7_read hx hb hown hK (C := RX1) (T := TX1) (N := 17) rfl hly_3_2 hlk_15 (hh.at 1 rfl) dX1_endsLine_1 ?_
  refine lv_iload_n hx hb dX1_endsLine_4 rfl (lv_at hl 1 rfl) ?_
  refine j7_ialdM hx hb hK hh hB173 1 rfl (by decide) hg_tx_ (x := a1.toInt) (rfl) (by omega) (j := 0) rfl dX1_endsLine_5 (fun z_1 ez_1 (hz_1 : True) => ?_)
  have hqz_1 : z_1.toInt = jSo ft (a1.toInt) := by unfold jSo; rw [ez_1]
  refine lv_bipush (v := 13) hx hb dX1_endsLine_6 (by decide) ?_
  refine lv_icmp_ne (tgt := 15) hx hb dX1_endsLine_8 (by decide) (fun c_2 => ?_) (fun c_2 => ?_)
  · skip
    have c_2' : z_1.toInt ≠ 13 := jb_ne (rfl) ((by decide)) c_2
    refine lv_iconst (v := 0) hx hb dX1_endsLine_15 (by decide) ?_
    refine lv_istore_n (lv' := [(2, .int 0), (0, .ref r0), (1, .int a1)]) hx hb dX1_endsLine_16 rfl hl (by decide) rfl (fun ls hl => ?_)
    refine lv_aload_n hx hb dX1_endsLine_17 rfl (lv_at hl 1 rfl) ?_
    refine j7_read hx hb hown hK (C := RX1) (T := TX1) (N := 17) rfl hly_3_2 hlk_15 (hh.at 1 rfl) dX1_endsLine_18 ?_
    refine lv_iload_n hx hb dX1_endsLine_21 rfl (lv_at hl 2 rfl) ?_
    refine j7_ialdM hx hb hK hh hB173 1 rfl (by decide) hg_tx_ (x := a1.toInt) (rfl) (by omega) (j := 0) rfl dX1_endsLine_22 (fun z_3 ez_3 (hz_3 : True) => ?_)
    have hqz_3 : z_3.toInt = jSo ft (a1.toInt) := by unfold jSo; rw [ez_3]
    refine lv_bipush (v := 10) hx hb dX1_endsLine_23 (by decide) ?_
    refine lv_icmp_eq (tgt := 55) hx hb dX1_endsLine_25 (by decide) (fun c_4 => ?_) (fun c_4 => ?_)
    · skip
      have c_4' : z_3.toInt = 10 := jb_eq (rfl) ((by decide)) c_4
      refine lv_iconst (v := 1) hx hb dX1_endsLine_55 (by decide) ?_
      refine lv_goto (tgt := 60) hx hb dX1_endsLine_56 (by decide) ?_
      rw [hQ]
      exact W.zret (v := 1) hx hb hr (jb_nz (Or.inr rfl)) (fun t ht hW => ⟨⟨1, (), rfl, ⟨(Or.inr rfl), by unfold jdE; rw [if_pos (Or.inl (by have h9 := hqz_3; omega))]; exact hk1⟩, hh.rt (M1 := []) [] rfl ht⟩, by rw [ht]; try exact hh.1.1, fun q h9 hq => by rw [ht]; try exact hh.1.2.1 q h9 hq⟩) hh.1.2.2 dX1_endsLine_60
    · skip
      have c_4' : z_3.toInt ≠ 10 := jb_eq_n (rfl) ((by decide)) c_4
      refine lv_iload_n hx hb dX1_endsLine_28 rfl (lv_at hl 0 rfl) ?_
      refine lv_if_eq (tgt := 59) hx hb dX1_endsLine_29 (by decide) (fun c_5 => ?_) (fun c_5 => ?_)
      · skip
        refine lv_iconst (v := 0) hx hb dX1_endsLine_59 (by decide) ?_
        rw [hQ]
        exact W.zret (v := 0) hx hb hr (jb_nz (Or.inl rfl)) (fun t ht hW => ⟨⟨0, (), rfl, ⟨(Or.inl rfl), by unfold jdE; rw [if_neg (fun q => by rcases q with q | q; (have h9 := hqz_3; omega); have h9 := hqz_1; have h8 := q.1; omega)]; exact hk0⟩, hh.rt (M1 := []) [] rfl ht⟩, by rw [ht]; try exact hh.1.1, fun q h9 hq => by rw [ht]; try exact hh.1.2.1 q h9 hq⟩) hh.1.2.2 dX1_endsLine_60
      · skip
        exact absurd c_5 (by decide)
  · skip
    have c_2' : z_1.toInt = 13 := jb_ne_n (rfl) ((by decide)) c_2
    refine lv_iconst (v := 1) hx hb dX1_endsLine_11 (by decide) ?_
    refine lv_goto (tgt := 16) hx hb dX1_endsLine_12 (by decide) ?_
    refine lv_istore_n (lv' := [(2, .int 1), (0, .ref r0), (1, .int a1)]) hx hb dX1_endsLine_16 rfl hl (by decide) rfl (fun ls hl => ?_)
    refine lv_aload_n hx hb dX1_endsLine_17 rfl (lv_at hl 1 rfl) ?_
    refine j7_read hx hb hown hK (C := RX1) (T := TX1) (N := 17) rfl hly_3_2 hlk_15 (hh.at 1 rfl) dX1_endsLine_18 ?_
    refine lv_iload_n hx hb dX1_endsLine_21 rfl (lv_at hl 2 rfl) ?_
    refine j7_ialdM hx hb hK hh hB173 1 rfl (by decide) hg_tx_ (x := a1.toInt) (rfl) (by omega) (j := 0) rfl dX1_endsLine_22 (fun z_6 ez_6 (hz_6 : True) => ?_)
    have hqz_6 : z_6.toInt = jSo ft (a1.toInt) := by unfold jSo; rw [ez_6]
    refine lv_bipush (v := 10) hx hb dX1_endsLine_23 (by decide) ?_
    refine lv_icmp_eq (tgt := 55) hx hb dX1_endsLine_25 (by decide) (fun c_7 => ?_) (fun c_7 => ?_)
    · skip
      have c_7' : z_6.toInt = 10 := jb_eq (rfl) ((by decide)) c_7
      refine lv_iconst (v := 1) hx hb dX1_endsLine_55 (by decide) ?_
      refine lv_goto (tgt := 60) hx hb dX1_endsLine_56 (by decide) ?_
      rw [hQ]
      exact W.zret (v := 1) hx hb hr (jb_nz (Or.inr rfl)) (fun t ht hW => ⟨⟨1, (), rfl, ⟨(Or.inr rfl), by unfold jdE; rw [if_pos (Or.inl (by have h9 := hqz_6; omega))]; exact hk1⟩, hh.rt (M1 := []) [] rfl ht⟩, by rw [ht]; try exact hh.1.1, fun q h9 hq => by rw [ht]; try exact hh.1.2.1 q h9 hq⟩) hh.1.2.2 dX1_endsLine_60
    · skip
      have c_7' : z_6.toInt ≠ 10 := jb_eq_n (rfl) ((by decide)) c_7
      refine lv_iload_n hx hb dX1_endsLine_28 rfl (lv_at hl 0 rfl) ?_
      refine lv_if_eq (tgt := 59) hx hb dX1_endsLine_29 (by decide) (fun c_8 => ?_) (fun c_8 => ?_)
      · skip
        exact absurd c_8 (by decide)
      · skip
        refine lv_iload_n hx hb dX1_endsLine_32 rfl (lv_at hl 2 rfl) ?_
        refine lv_iconst (v := 1) hx hb dX1_endsLine_33 (by decide) ?_
        refine lv_iadd hx hb dX1_endsLine_34 ?_
        refine lv_topi (fun z_9 ez_9 => ?_)
        have hz_9 : z_9.toInt = a1.toInt + 1 := by rw [ez_9]; exact jb_iadd2 (rfl) ((by decide)) (by omega)
        refine lv_aload_n hx hb dX1_endsLine_35 rfl (lv_at hl 1 rfl) ?_
        refine j7_read hx hb hown hK (C := RX1) (T := TX1) (N := 17) rfl hly_3_3 hlk_42 (hh.at 0 rfl) dX1_endsLine_36 ?_
        refine lv_icmp_ge (tgt := 55) hx hb dX1_endsLine_39 (by decide) (fun c_10 => ?_) (fun c_10 => ?_)
        · skip
          have c_10' : z_9.toInt ≥ pl.toInt := jb_ge (rfl) (rfl) c_10
          refine lv_iconst (v := 1) hx hb dX1_endsLine_55 (by decide) ?_
          refine lv_goto (tgt := 60) hx hb dX1_endsLine_56 (by decide) ?_
          rw [hQ]
          exact W.zret (v := 1) hx hb hr (jb_nz (Or.inr rfl)) (fun t ht hW => ⟨⟨1, (), rfl, ⟨(Or.inr rfl), by unfold jdE; rw [if_pos (Or.inr ⟨by have h9 := hqz_1; omega, fun q => by omega⟩)]; exact hk1⟩, hh.rt (M1 := []) [] rfl ht⟩, by rw [ht]; try exact hh.1.1, fun q h9 hq => by rw [ht]; try exact hh.1.2.1 q h9 hq⟩) hh.1.2.2 dX1_endsLine_60
        · skip
          have c_10' : z_9.toInt < pl.toInt := jb_ge_n (rfl) (rfl) c_10
          refine lv_aload_n hx hb dX1_endsLine_42 rfl (lv_at hl 1 rfl) ?_
          refine j7_read hx hb hown hK (C := RX1) (T := TX1) (N := 17) rfl hly_3_2 hlk_15 (hh.at 1 rfl) dX1_endsLine_43 ?_
          refine lv_iload_n hx hb dX1_endsLine_46 rfl (lv_at hl 2 rfl) ?_
          refine lv_iconst (v := 1) hx hb dX1_endsLine_47 (by decide) ?_
          refine lv_iadd hx hb dX1_endsLine_48 ?_
          refine lv_topi (fun z_11 ez_11 => ?_)
          have hz_11 : z_11.toInt = a1.toInt + 1 := by rw [ez_11]; exact jb_iadd2 (rfl) ((by decide)) (by omega)
          refine j7_ialdM hx hb hK hh hB173 1 rfl (by decide) hg_tx_ (x := z_11.toInt) (rfl) (by omega) (j := 0) rfl dX1_endsLine_49 (fun z_12 ez_12 (hz_12 : True) => ?_)
          have hqz_12 : z_12.toInt = jSo ft ((a1.toInt + 1)) := by unfold jSo; rw [ez_12, show z_11.toInt = (a1.toInt + 1) by omega]
          refine lv_bipush (v := 10) hx hb dX1_endsLine_50 (by decide) ?_
          refine lv_icmp_eq (tgt := 59) hx hb dX1_endsLine_52 (by decide) (fun c_13 => ?_) (fun c_13 => ?_)
          · skip
            have c_13' : z_12.toInt = 10 := jb_eq (rfl) ((by decide)) c_13
            refine lv_iconst (v := 0) hx hb dX1_endsLine_59 (by decide) ?_
            rw [hQ]
            exact W.zret (v := 0) hx hb hr (jb_nz (Or.inl rfl)) (fun t ht hW => ⟨⟨0, (), rfl, ⟨(Or.inl rfl), by unfold jdE; rw [if_neg (fun q => by rcases q with q | q; (have h9 := hqz_6; omega); exact q.2 ⟨by omega, by have h9 := hqz_12; omega⟩)]; exact hk0⟩, hh.rt (M1 := []) [] rfl ht⟩, by rw [ht]; try exact hh.1.1, fun q h9 hq => by rw [ht]; try exact hh.1.2.1 q h9 hq⟩) hh.1.2.2 dX1_endsLine_60
          · skip
            have c_13' : z_12.toInt ≠ 10 := jb_eq_n (rfl) ((by decide)) c_13
            refine lv_iconst (v := 1) hx hb dX1_endsLine_55 (by decide) ?_
            refine lv_goto (tgt := 60) hx hb dX1_endsLine_56 (by decide) ?_
            rw [hQ]
            exact W.zret (v := 1) hx hb hr (jb_nz (Or.inr rfl)) (fun t ht hW => ⟨⟨1, (), rfl, ⟨(Or.inr rfl), by unfold jdE; rw [if_pos (Or.inr ⟨by have h9 := hqz_1; omega, fun q => by have h9 := hqz_12; omega⟩)]; exact hk1⟩, hh.rt (M1 := []) [] rfl ht⟩, by rw [ht]; try exact hh.1.1, fun q h9 hq => by rw [ht]; try exact hh.1.2.1 q h9 hq⟩) hh.1.2.2 dX1_endsLine_60
set_option maxHeartbeats 4000000 in
set_option maxRecDepth 20000 in
theorem uX1_placeOfU (l : Launch) (dC : Nat → ClassId) (dI : Nat → Nat → Nat) (ca : Nat → ClassId) (base : Nat) (B : jF) (hB : jBok B) (hAp : jAp (dC, dI)) (hB3 : ∀ n G a H, B 3 n G a H ↔ jOb (dC, dI) 3 17 (F3 n G) a H) (hB173 : ∀ n G a H, B 173 n G a H ↔ jAr (dC, dI) (ca 1) (fun j z => True) n a H) (G0 : jT) (H0 : Heap) (r0 : Nat) (a1 : Int32) (a2 : Int32) (n0 : Nat) (pl : Int32) (tx_ : Nat) (ft : Nat → Int32) : Met l yX1_placeOf (jw yX1_placeOf cX1_placeOf 6 (some .int)) ({ frames := 1, cells := 0, slots := 0, locals := 22 }) (va_Pc [.ref r0, .int a1, .int a2] (fun U => U.heap = H0 ∧ jX B base G0 [] H0 ∧ jG dC dI ca base U ∧ G0 r0 = some (3, n0) ∧ G0 tx_ = some (173, 1500) ∧ jP (dC, dI) G0 H0 [(r0, 3, 3, .int pl), (r0, 3, 2, .ref tx_)] ∧ jMc (dC, dI) G0 H0 [(tx_, 173, 1500, ca 1, ft)] ∧ 0 ≤ pl.toInt ∧ pl.toInt ≤ 1500)) (va_Qi (S := Unit) (fun r u => (-1 ≤ r.toInt ∧ r.toInt ≤ 1500 ∧ r.toInt = jdP (jSo ft) pl.toInt a1.toInt a2.toInt)) (fun u t => jRt (dC, dI) B base G0 EX1_placeOfU H0 [] t.heap) (jA base)) 0 0 (jA base) := by
  refine Met.ofW (cc := cX1_placeOf) (maxL := 6) (ret := (some .int)) (by decide) rfl ?_
  intro p e s m args below meth c s₁ Bd hml hv
  obtain ⟨rfl, hH0, hX, hG, hg_r0, hg_tx_, hP0, hM0, hp0, hp1⟩ := hv
  have hK := hG.1
  have hx := Bd.exec
  have hb := Bd.bytes
  have hr := Bd.returns
  have hts := atoms_spec (ws := (jw yX1_placeOf cX1_placeOf 6 (some .int))) Bd.pre
  have htw : ∀ w ∈ jWl, w.before _ s = true := fun w h => hts w (List.mem_cons_of_mem _ h)
  have hown : s.vm.findClass RX1 = some m.cls := findClass_of_methodNamed Bd.named
  have hlocks := Bd.notSynchronized
  obtain ⟨Q, hQ⟩ : ∃ Q, Q = MQ below (va_Qi (S := Unit) (fun r u => (-1 ≤ r.toInt ∧ r.toInt ≤ 1500 ∧ r.toInt = jdP (jSo ft) pl.toInt a1.toInt a2.toInt)) (fun u t => jRt (dC, dI) B base G0 EX1_placeOfU H0 [] t.heap) (jA base)) ([.ref r0, .int a1, .int a2] : List Value).toArray s 0 0 (jA base) := ⟨_, rfl⟩
  rw [← hQ]
  have hl := lv_entry ([.ref r0, .int a1, .int a2]) (n := 6) (Nat.le_of_ble_eq_true rfl)
  rw [lg_entry_eq]
  generalize (lg_sl ([.ref r0, .int a1, .int a2]) ++ List.replicate (6 - (lg_sl ([.ref r0, .int a1, .int a2])).length) Slot.unset).toArray = ls at hl ⊢
  have hl : lv_has ls 6 [(0, .ref r0), (1, .int a1), (2, .int a2)] := hl
  generalize hR : (headSpec (jw yX1_placeOf cX1_placeOf 6 (some .int)) ({ frames := 1, cells := 0, slots := 0, locals := 22 })).room = R
  subst hH0
  have hh : jSt (dC, dI) B base G0 G0 EX1_placeOfU s.heap 0 0 [(r0, 3, 3, .int pl), (r0, 3, 2, .ref tx_)] [(tx_, 173, 1500, ca 1, ft)] [] s.heap [] := jSt.start hX hP0 hM0 jIs.nil
  clear hX hP0
  have hkm1 : ((-1) : Int32).toInt = (-1) := by decide
  have hk0 : (0 : Int32).toInt = 0 := by decide
  have hk1 : (1 : Int32).toInt = 1 := by decide
  have hk10 : (10 : Int32).toInt = 10 := by decide
  have hk13 : (13 : Int32).toInt = 13 := by decide
  have hly_3_2 := htw (u_lay RX1 TX1 2) (jWc_wsX10 _ (u_in_lay (by decide)))
  have hly_3_3 := htw (u_lay RX1 TX1 3) (jWc_wsX10 _ (u_in_lay (by decide)))
  have hlk_42 := (htw (.fieldLink RX1 42 "ProofServer$Document" "length" "I") (jWr_29 _ (List.mem_of_getElem? (i := 5) rfl)))
  have hlk_15 := (htw (.fieldLink RX1 15 "ProofServer$Document" "text" "[I") (jWr_10 _ (List.mem_of_getElem? (i := 6) rfl)))
  have hrg_a1 := jb_rng a1
  have hrg_a2 := jb_rng a2
  refine lv_iload_n hx hb dX1_placeOf_0 rfl (lv_at hl 1 rfl) ?_
  refine lv_if_lt (tgt := 8) hx hb dX1_placeOf_1 (by decide) (fun c_1 => ?_) (fun c_1 => ?_)
  · skip
    have c_1' : a1.toInt < 0 := jb_lt (rfl) ((by decide)) c_1
    refine lv_iconst (v := (-1)) hx hb dX1_placeOf_8 (by decide) ?_
    rw [hQ]
    exact W.iret (v := (-1)) hx hb hr (fun t ht hW => ⟨⟨(-1), (), rfl, by refine ⟨by omega, by omega, ?_⟩; unfold jdP; rw [if_pos (by omega)]; exact hkm1, hh.rt (M1 := []) [] rfl ht⟩, by rw [ht]; try exact hh.1.1, fun q h9 hq => by rw [ht]; try exact hh.1.2.1 q h9 hq⟩) hh.1.2.2 dX1_placeOf_9
  · skip
    have c_1' : a1.toInt ≥ 0 := jb_lt_n (rfl) ((by decide)) c_1
    refine lv_iload_n hx hb dX1_placeOf_4 rfl (lv_at hl 2 rfl) ?_
    refine lv_if_ge (tgt := 10) hx hb dX1_placeOf_5 (by decide) (fun c_2 => ?_) (fun c_2 => ?_)
    · skip
      have c_2' : a2.toInt ≥ 0 := jb_ge (rfl) ((by decide)) c_2
      refine lv_iconst (v := 0) hx hb dX1_placeOf_10 (by decide) ?_
      refine lv_istore_n (lv' := [(3, .int 0), (0, .ref r0), (1, .int a1), (2, .int a2)]) hx hb dX1_placeOf_11 rfl hl (by decide) rfl (fun ls hl => ?_)
      refine lv_iconst (v := 0) hx hb dX1_placeOf_12 (by decide) ?_
      refine lv_istore (lv' := [(4, .int 0), (3, .int 0), (0, .ref r0), (1, .int a1), (2, .int a2)]) hx hb dX1_placeOf_13 hl (by decide) rfl (fun ls hl => ?_)
      have L15 : ∀ (N : Nat) (v3_3 : Int32) (v4_3 : Int32) (kf : Nat) (H_3 : Heap) (locs_3 : List Loc), jSt (dC, dI) B base G0 G0 EX1_placeOfU s.heap 0 0 [(r0, 3, 3, .int pl), (r0, 3, 2, .ref tx_)] [(tx_, 173, 1500, ca 1, ft)] [] H_3 locs_3 → (0 ≤ v3_3.toInt ∧ v3_3.toInt ≤ pl.toInt ∧ 0 ≤ v4_3.toInt ∧ v4_3.toInt ≤ v3_3.toInt ∧ pl.toInt - v3_3.toInt ≤ kf ∧ jdL (jSo ft) pl.toInt a1.toInt kf v3_3.toInt v4_3.toInt = jdL (jSo ft) pl.toInt a1.toInt (pl.toInt).toNat 0 0) → (pl.toInt - v3_3.toInt : Int) < N → ∀ ls : Array Slot, lv_has ls 6 [(0, .ref r0), (1, .int a1), (2, .int a2), (3, .int v3_3), (4, .int v4_3)] → W p l e R s m ([.ref r0, .int a1, .int a2] : List Value).toArray below meth c H_3 locs_3 0 0 Q (F0 m 15 ls []) := by
        intro N
        induction N with
        | zero => intro v3_3 v4_3 kf H_3 locs_3 hh_3  hi_3 hm; exact absurd hm (by omega)
        | succ N L15 =>
          intro v3_3 v4_3 kf H_3 locs_3 hh_3  hi_3 hm_3 ls hl
          obtain ⟨hi_3_0, hi_3_1, hi_3_2, hi_3_3, hi_3_4, hi_3_5⟩ := hi_3
          refine lv_iload_n hx hb dX1_placeOf_15 rfl (lv_at hl 3 rfl) ?_
          refine lv_aload_n hx hb dX1_placeOf_16 rfl (lv_at hl 0 rfl) ?_
          refine j7_read hx hb hown hK (C := RX1) (T := TX1) (N := 17) rfl hly_3_3 hlk_42 (hh_3.at 0 rfl) dX1_placeOf_17 ?_
          have C46 : ∀ (v3_4 : Int32) (v4_4 : Int32) (H_4 : Heap) (locs_4 : List Loc), jSt (dC, dI) B base G0 G0 EX1_placeOfU s.heap 0 0 [(r0, 3, 3, .int pl), (r0, 3, 2, .ref tx_)] [(tx_, 173, 1500, ca 1, ft)] [] H_4 locs_4 → (0 ≤ v3_4.toInt ∧ v3_4.toInt ≤ pl.toInt ∧ 0 ≤ v4_4.toInt ∧ jdL (jSo ft) pl.toInt a1.toInt (pl.toInt).toNat 0 0 = (v3_4.toInt, v4_4.toInt)) → ∀ ls : Array Slot, lv_has ls 6 [(0, .ref r0), (1, .int a1), (2, .int a2), (3, .int v3_4), (4, .int v4_4)] → W p l e R s m ([.ref r0, .int a1, .int a2] : List Value).toArray below meth c H_4 locs_4 0 0 Q (F0 m 46 ls []) := by
            intro v3_4 v4_4 H_4 locs_4 hh_4  hi_4 ls hl
            obtain ⟨hi_4_0, hi_4_1, hi_4_2, hi_4_3⟩ := hi_4
            refine lv_iload hx hb dX1_placeOf_46 (lv_at hl 4 rfl) ?_
            refine lv_iload_n hx hb dX1_placeOf_48 rfl (lv_at hl 1 rfl) ?_
            refine lv_icmp_ge (tgt := 54) hx hb dX1_placeOf_49 (by decide) (fun c_5 => ?_) (fun c_5 => ?_)
            · skip
              have c_5' : v4_4.toInt ≥ a1.toInt := jb_ge (rfl) (rfl) c_5
              refine lv_iload_n hx hb dX1_placeOf_54 rfl (lv_at hl 3 rfl) ?_
              refine lv_istore (lv' := [(5, .int v3_4), (0, .ref r0), (1, .int a1), (2, .int a2), (3, .int v3_4), (4, .int v4_4)]) hx hb dX1_placeOf_55 hl (by decide) rfl (fun ls hl => ?_)
              have L57 : ∀ (N : Nat) (v3_6 : Int32) (kg : Nat) (H_6 : Heap) (locs_6 : List Loc), jSt (dC, dI) B base G0 G0 EX1_placeOfU s.heap 0 0 [(r0, 3, 3, .int pl), (r0, 3, 2, .ref tx_)] [(tx_, 173, 1500, ca 1, ft)] [] H_6 locs_6 → (v3_4.toInt ≤ v3_6.toInt ∧ v3_6.toInt ≤ pl.toInt ∧ pl.toInt - v3_6.toInt ≤ kg ∧ jdC (jSo ft) pl.toInt v3_4.toInt a2.toInt kg v3_6.toInt = jdC (jSo ft) pl.toInt v3_4.toInt a2.toInt (pl.toInt).toNat v3_4.toInt) → (pl.toInt - v3_6.toInt : Int) < N → ∀ ls : Array Slot, lv_has ls 6 [(0, .ref r0), (1, .int a1), (2, .int a2), (3, .int v3_6), (4, .int v4_4), (5, .int v3_4)] → W p l e R s m ([.ref r0, .int a1, .int a2] : List Value).toArray below meth c H_6 locs_6 0 0 Q (F0 m 57 ls []) := by
                intro N
                induction N with
                | zero => intro v3_6 kg H_6 locs_6 hh_6  hi_6 hm; exact absurd hm (by omega)
                | succ N L57 =>
                  intro v3_6 kg H_6 locs_6 hh_6  hi_6 hm_6 ls hl
                  obtain ⟨hi_6_0, hi_6_1, hi_6_2, hi_6_3⟩ := hi_6
                  refine lv_iload_n hx hb dX1_placeOf_57 rfl (lv_at hl 3 rfl) ?_
                  refine lv_aload_n hx hb dX1_placeOf_58 rfl (lv_at hl 0 rfl) ?_
                  refine j7_read hx hb hown hK (C := RX1) (T := TX1) (N := 17) rfl hly_3_3 hlk_42 (hh_6.at 0 rfl) dX1_placeOf_59 ?_
                  refine lv_icmp_ge (tgt := 101) hx hb dX1_placeOf_62 (by decide) (fun c_7 => ?_) (fun c_7 => ?_)
                  · skip
                    have c_7' : v3_6.toInt ≥ pl.toInt := jb_ge (rfl) (rfl) c_7
                    refine lv_iload_n hx hb dX1_placeOf_101 rfl (lv_at hl 3 rfl) ?_
                    rw [hQ]
                    exact W.iret (v := v3_6) hx hb hr (fun t ht hW => ⟨⟨v3_6, (), rfl, by refine ⟨by omega, by omega, ?_⟩; unfold jdP; rw [if_neg (by omega), hi_4_3, if_neg (by dsimp only; omega)]; exact (jdC_e (Or.inl (by omega))).symm.trans hi_6_3, hh_6.rt (M1 := []) [] rfl ht⟩, by rw [ht]; try exact hh_6.1.1, fun q h9 hq => by rw [ht]; try exact hh_6.1.2.1 q h9 hq⟩) hh_6.1.2.2 dX1_placeOf_102
                  · skip
                    have c_7' : v3_6.toInt < pl.toInt := jb_ge_n (rfl) (rfl) c_7
                    refine lv_iload_n hx hb dX1_placeOf_65 rfl (lv_at hl 3 rfl) ?_
                    refine lv_iload hx hb dX1_placeOf_66 (lv_at hl 5 rfl) ?_
                    refine lv_isub hx hb dX1_placeOf_68 ?_
                    refine lv_topi (fun z_8 ez_8 => ?_)
                    have hz_8 : z_8.toInt = v3_6.toInt - v3_4.toInt := by rw [ez_8]; exact jb_isub2 (rfl) (rfl) (by omega)
                    refine lv_iload_n hx hb dX1_placeOf_69 rfl (lv_at hl 2 rfl) ?_
                    refine lv_icmp_ge (tgt := 101) hx hb dX1_placeOf_70 (by decide) (fun c_9 => ?_) (fun c_9 => ?_)
                    · skip
                      have c_9' : z_8.toInt ≥ a2.toInt := jb_ge (rfl) (rfl) c_9
                      refine lv_iload_n hx hb dX1_placeOf_101 rfl (lv_at hl 3 rfl) ?_
                      rw [hQ]
                      exact W.iret (v := v3_6) hx hb hr (fun t ht hW => ⟨⟨v3_6, (), rfl, by refine ⟨by omega, by omega, ?_⟩; unfold jdP; rw [if_neg (by omega), hi_4_3, if_neg (by dsimp only; omega)]; exact (jdC_e (Or.inr (Or.inl (by omega)))).symm.trans hi_6_3, hh_6.rt (M1 := []) [] rfl ht⟩, by rw [ht]; try exact hh_6.1.1, fun q h9 hq => by rw [ht]; try exact hh_6.1.2.1 q h9 hq⟩) hh_6.1.2.2 dX1_placeOf_102
                    · skip
                      have c_9' : z_8.toInt < a2.toInt := jb_ge_n (rfl) (rfl) c_9
                      refine lv_aload_n hx hb dX1_placeOf_73 rfl (lv_at hl 0 rfl) ?_
                      refine j7_read hx hb hown hK (C := RX1) (T := TX1) (N := 17) rfl hly_3_2 hlk_15 (hh_6.at 1 rfl) dX1_placeOf_74 ?_
                      refine lv_iload_n hx hb dX1_placeOf_77 rfl (lv_at hl 3 rfl) ?_
                      refine j7_ialdM hx hb hK hh_6 hB173 1 rfl (by decide) hg_tx_ (x := v3_6.toInt) (rfl) (by omega) (j := 0) rfl dX1_placeOf_78 (fun z_10 ez_10 (hz_10 : True) => ?_)
                      have hqz_10 : z_10.toInt = jSo ft (v3_6.toInt) := by unfold jSo; rw [ez_10]
                      refine lv_bipush (v := 10) hx hb dX1_placeOf_79 (by decide) ?_
                      refine lv_icmp_eq (tgt := 101) hx hb dX1_placeOf_81 (by decide) (fun c_11 => ?_) (fun c_11 => ?_)
                      · skip
                        have c_11' : z_10.toInt = 10 := jb_eq (rfl) ((by decide)) c_11
                        refine lv_iload_n hx hb dX1_placeOf_101 rfl (lv_at hl 3 rfl) ?_
                        rw [hQ]
                        exact W.iret (v := v3_6) hx hb hr (fun t ht hW => ⟨⟨v3_6, (), rfl, by refine ⟨by omega, by omega, ?_⟩; unfold jdP; rw [if_neg (by omega), hi_4_3, if_neg (by dsimp only; omega)]; exact (jdC_e (Or.inr (Or.inr (Or.inl (by have h9 := hqz_10; omega))))).symm.trans hi_6_3, hh_6.rt (M1 := []) [] rfl ht⟩, by rw [ht]; try exact hh_6.1.1, fun q h9 hq => by rw [ht]; try exact hh_6.1.2.1 q h9 hq⟩) hh_6.1.2.2 dX1_placeOf_102
                      · skip
                        have c_11' : z_10.toInt ≠ 10 := jb_eq_n (rfl) ((by decide)) c_11
                        refine lv_aload_n hx hb dX1_placeOf_84 rfl (lv_at hl 0 rfl) ?_
                        refine j7_read hx hb hown hK (C := RX1) (T := TX1) (N := 17) rfl hly_3_2 hlk_15 (hh_6.at 1 rfl) dX1_placeOf_85 ?_
                        refine lv_iload_n hx hb dX1_placeOf_88 rfl (lv_at hl 3 rfl) ?_
                        refine j7_ialdM hx hb hK hh_6 hB173 1 rfl (by decide) hg_tx_ (x := v3_6.toInt) (rfl) (by omega) (j := 0) rfl dX1_placeOf_89 (fun z_12 ez_12 (hz_12 : True) => ?_)
                        have hqz_12 : z_12.toInt = jSo ft (v3_6.toInt) := by unfold jSo; rw [ez_12]
                        refine lv_bipush (v := 13) hx hb dX1_placeOf_90 (by decide) ?_
                        refine lv_icmp_eq (tgt := 101) hx hb dX1_placeOf_92 (by decide) (fun c_13 => ?_) (fun c_13 => ?_)
                        · skip
                          have c_13' : z_12.toInt = 13 := jb_eq (rfl) ((by decide)) c_13
                          refine lv_iload_n hx hb dX1_placeOf_101 rfl (lv_at hl 3 rfl) ?_
                          rw [hQ]
                          exact W.iret (v := v3_6) hx hb hr (fun t ht hW => ⟨⟨v3_6, (), rfl, by refine ⟨by omega, by omega, ?_⟩; unfold jdP; rw [if_neg (by omega), hi_4_3, if_neg (by dsimp only; omega)]; exact (jdC_e (Or.inr (Or.inr (Or.inr (by have h9 := hqz_12; omega))))).symm.trans hi_6_3, hh_6.rt (M1 := []) [] rfl ht⟩, by rw [ht]; try exact hh_6.1.1, fun q h9 hq => by rw [ht]; try exact hh_6.1.2.1 q h9 hq⟩) hh_6.1.2.2 dX1_placeOf_102
                        · skip
                          have c_13' : z_12.toInt ≠ 13 := jb_eq_n (rfl) ((by decide)) c_13
                          obtain ⟨z_14, ez_14⟩ : ∃ y : Int32, y = v3_6 + 1 := ⟨_, rfl⟩
                          refine lv_iinc (v := z_14) (lv' := [(3, .int z_14), (0, .ref r0), (1, .int a1), (2, .int a2), (4, .int v4_4), (5, .int v3_4)]) hx hb dX1_placeOf_95 hl (k := 3) rfl (by rw [ez_14]; rfl) (by decide) rfl (fun ls hl => ?_)
                          have hz_14 : z_14.toInt = v3_6.toInt + 1 := by rw [ez_14]; exact jb_iadd2 (rfl) (by decide) (by omega)
                          refine lv_goto (tgt := 57) hx hb dX1_placeOf_98 (by decide) ?_
                          exact L57 z_14 (kg - 1) _ _ hh_6 (by refine ⟨by omega, by omega, by omega, ?_⟩; exact (jdC_s (by omega) (by omega) (by have h9 := hqz_10; omega) (by have h9 := hqz_12; omega) (by omega) (by omega)).trans hi_6_3) (by omega) _ (lv_sub hl [1, 2, 3, 0, 4, 5] rfl)
              exact L57 (pl.toInt - (v3_4 : Int32).toInt : Int).toNat.succ v3_4 ((pl.toInt).toNat) _ _ hh_4 (by refine ⟨by omega, by omega, by omega, rfl⟩) (by omega) _ (lv_sub hl [1, 2, 3, 4, 5, 0] rfl)
            · skip
              have c_5' : v4_4.toInt < a1.toInt := jb_ge_n (rfl) (rfl) c_5
              refine lv_iconst (v := (-1)) hx hb dX1_placeOf_52 (by decide) ?_
              rw [hQ]
              exact W.iret (v := (-1)) hx hb hr (fun t ht hW => ⟨⟨(-1), (), rfl, by refine ⟨by omega, by omega, ?_⟩; unfold jdP; rw [if_neg (by omega), hi_4_3, if_pos (by dsimp only; omega)]; exact hkm1, hh_4.rt (M1 := []) [] rfl ht⟩, by rw [ht]; try exact hh_4.1.1, fun q h9 hq => by rw [ht]; try exact hh_4.1.2.1 q h9 hq⟩) hh_4.1.2.2 dX1_placeOf_53
          refine lv_icmp_ge (tgt := 46) hx hb dX1_placeOf_20 (by decide) (fun c_15 => ?_) (fun c_15 => ?_)
          · skip
            have c_15' : v3_3.toInt ≥ pl.toInt := jb_ge (rfl) (rfl) c_15
            exact C46 v3_3 v4_3 _ _ hh_3 (⟨(by first | omega | rfl | assumption | exact hi_3_5.symm.trans (jdL_e (by omega))), (by first | omega | rfl | assumption | exact hi_3_5.symm.trans (jdL_e (by omega))), (by first | omega | rfl | assumption | exact hi_3_5.symm.trans (jdL_e (by omega))), (by first | assumption | exact hi_3_5.symm.trans (jdL_e (by omega)) | omega)⟩) _ (lv_sub hl [0, 1, 2, 3, 4] rfl)
          · skip
            have c_15' : v3_3.toInt < pl.toInt := jb_ge_n (rfl) (rfl) c_15
            refine lv_iload hx hb dX1_placeOf_23 (lv_at hl 4 rfl) ?_
            refine lv_iload_n hx hb dX1_placeOf_25 rfl (lv_at hl 1 rfl) ?_
            refine lv_icmp_ge (tgt := 46) hx hb dX1_placeOf_26 (by decide) (fun c_16 => ?_) (fun c_16 => ?_)
            · skip
              have c_16' : v4_3.toInt ≥ a1.toInt := jb_ge (rfl) (rfl) c_16
              exact C46 v3_3 v4_3 _ _ hh_3 (⟨(by first | omega | rfl | assumption | exact hi_3_5.symm.trans (jdL_e (by omega))), (by first | omega | rfl | assumption | exact hi_3_5.symm.trans (jdL_e (by omega))), (by first | omega | rfl | assumption | exact hi_3_5.symm.trans (jdL_e (by omega))), (by first | assumption | exact hi_3_5.symm.trans (jdL_e (by omega)) | omega)⟩) _ (lv_sub hl [0, 1, 2, 3, 4] rfl)
            · skip
              have c_16' : v4_3.toInt < a1.toInt := jb_ge_n (rfl) (rfl) c_16
              refine lv_aload_n hx hb dX1_placeOf_29 rfl (lv_at hl 0 rfl) ?_
              refine lv_iload_n hx hb dX1_placeOf_30 rfl (lv_at hl 3 rfl) ?_
              refine va_calli (A0 := jA base) (H0 := s.heap) (va_runV (As := [.int v3_3]) (rest := []) ⟨hx, hb, hml, hown, hts⟩ (uX1_endsLineU l dC dI ca base B hB hAp hB3 hB173 G0 H_3 r0 v3_3 n0 pl tx_ ft) (cwV 1 hts (jgV (jWr_29 _ (List.mem_of_getElem? (i := 6) rfl)) (jWr_29 _ (List.mem_of_getElem? (i := 7) rfl)) (jWr_29 _ (List.mem_of_getElem? (i := 8) rfl)) (jWr_2 _ (List.mem_of_getElem? (i := 21) rfl)) (jWr_29 _ (List.mem_of_getElem? (i := 9) rfl))) rfl rfl rfl (by decide +kernel) ⟨by rw [← hR]; exact Nat.le_of_ble_eq_true rfl, by rw [← hR]; exact Nat.le_of_ble_eq_true rfl⟩) ⟨fun a U g mk q => by obtain ⟨q0, q1, q2, qK, q10, q11, q12, q13, q14⟩ := q; exact ⟨q0, q1, q2, jG.calling g mk a qK, q10, q11, q12, q13, q14⟩, hh_3.recv (C := RX1) (T := TX1) (N := 17) hB3 rfl (by decide) hg_r0 hK, fun U hU hW => ⟨rfl, hU, hh_3.2.1, hG.step hW hU hh_3.1, hg_r0, hg_tx_, (hh_3.2.2.1.sub (L1 := [(r0, 3, 3, .int pl), (r0, 3, 2, .ref tx_)]) [0, 1] rfl), (hh_3.2.2.2.2.2.2.2.1.sub (L1 := [(tx_, 173, 1500, ca 1, ft)]) [0] rfl), by first | omega | (refine ⟨?_, ?_, ?_⟩ <;> (first | omega | rfl | assumption | decide | exact Or.inl rfl | exact Or.inr rfl | (simp only; omega)))⟩⟩ rfl rfl hl.1 rfl (lv_room (Nat.le_of_ble_eq_true rfl)) dX1_placeOf_31 ⟨Nat.zero_le _, Nat.zero_le _⟩) hh_3.1 (fun q _ h => h) (fun q h => h) (fun r_18 u_17 t_17 H_17 locs_17 ht_17 hvm_17 hr_18 hb_17 hz_17 hk_17 hS_17 => ?_)
              rw [ht_17] at hb_17
              obtain ⟨hb_171, hb_172, hb_173, hb_174, hb_175⟩ := hb_17
              have hh_17 : jSt (dC, dI) B base G0 G0 EX1_placeOfU s.heap 0 0 [(r0, 3, 3, .int pl), (r0, 3, 2, .ref tx_)] [(tx_, 173, 1500, ca 1, ft)] [] H_17 locs_17 := ((hh_3.call hb_171 hb_172 hb_173 hb_174 hS_17 rfl (L1 := [(r0, 3, 3, .int pl), (r0, 3, 2, .ref tx_)]) [0, 1] rfl rfl (M1 := [(tx_, 173, 1500, ca 1, ft)]) [0] rfl rfl (I1 := []) [] rfl rfl).more hb_175)
              clear hh_3 ht_17 hvm_17 hz_17 hk_17 hS_17 hb_171 hb_172 hb_173 hb_174 hb_175
              obtain ⟨hr_18b, hr_18p⟩ := hr_18
              have hr_18' := jb_01 hr_18b
              refine lv_if_eq (tgt := 40) hx hb dX1_placeOf_34 (by decide) (fun c_19 => ?_) (fun c_19 => ?_)
              · skip
                have c_19' : r_18.toInt = 0 := jb_eq (rfl) ((by decide)) c_19
                obtain ⟨z_20, ez_20⟩ : ∃ y : Int32, y = v3_3 + 1 := ⟨_, rfl⟩
                refine lv_iinc (v := z_20) (lv' := [(3, .int z_20), (0, .ref r0), (1, .int a1), (2, .int a2), (4, .int v4_3)]) hx hb dX1_placeOf_40 hl (k := 3) rfl (by rw [ez_20]; rfl) (by decide) rfl (fun ls hl => ?_)
                have hz_20 : z_20.toInt = v3_3.toInt + 1 := by rw [ez_20]; exact jb_iadd2 (rfl) (by decide) (by omega)
                refine lv_goto (tgt := 15) hx hb dX1_placeOf_43 (by decide) ?_
                exact L15 z_20 v4_3 (kf - 1) _ _ hh_17 (by refine ⟨by omega, by omega, by omega, by omega, by omega, ?_⟩; exact (jdL_s (by omega) (by omega) (by omega) (by omega) (by rw [← hr_18p]; omega)).trans hi_3_5) (by omega) _ (lv_sub hl [1, 2, 3, 0, 4] rfl)
              · skip
                have c_19' : r_18.toInt ≠ 0 := jb_eq_n (rfl) ((by decide)) c_19
                obtain ⟨z_21, ez_21⟩ : ∃ y : Int32, y = v4_3 + 1 := ⟨_, rfl⟩
                refine lv_iinc (v := z_21) (lv' := [(4, .int z_21), (0, .ref r0), (1, .int a1), (2, .int a2), (3, .int v3_3)]) hx hb dX1_placeOf_37 hl (k := 4) rfl (by rw [ez_21]; rfl) (by decide) rfl (fun ls hl => ?_)
                have hz_21 : z_21.toInt = v4_3.toInt + 1 := by rw [ez_21]; exact jb_iadd2 (rfl) (by decide) (by omega)
                obtain ⟨z_22, ez_22⟩ : ∃ y : Int32, y = v3_3 + 1 := ⟨_, rfl⟩
                refine lv_iinc (v := z_22) (lv' := [(3, .int z_22), (4, .int z_21), (0, .ref r0), (1, .int a1), (2, .int a2)]) hx hb dX1_placeOf_40 hl (k := 4) rfl (by rw [ez_22]; rfl) (by decide) rfl (fun ls hl => ?_)
                have hz_22 : z_22.toInt = v3_3.toInt + 1 := by rw [ez_22]; exact jb_iadd2 (rfl) (by decide) (by omega)
                refine lv_goto (tgt := 15) hx hb dX1_placeOf_43 (by decide) ?_
                exact L15 z_22 z_21 (kf - 1) _ _ hh_17 (by refine ⟨by omega, by omega, by omega, by omega, by omega, ?_⟩; exact (jdL_s (by omega) (by omega) (by omega) (by omega) (by rw [← hr_18p]; omega)).trans hi_3_5) (by omega) _ (lv_sub hl [2, 3, 4, 0, 1] rfl)
      exact L15 (pl.toInt - (0 : Int32).toInt : Int).toNat.succ 0 0 ((pl.toInt).toNat) _ _ hh (by refine ⟨by omega, by omega, by omega, by omega, by omega, ?_⟩; rw [hk0]) (by omega) _ (lv_sub hl [2, 3, 4, 1, 0] rfl)
    · skip
      have c_2' : a2.toInt < 0 := jb_ge_n (rfl) ((by decide)) c_2
      refine lv_iconst (v := (-1)) hx hb dX1_placeOf_8 (by decide) ?_
      rw [hQ]
      exact W.iret (v := (-1)) hx hb hr (fun t ht hW => ⟨⟨(-1), (), rfl, by refine ⟨by omega, by omega, ?_⟩; unfold jdP; rw [if_pos (by omega)]; exact hkm1, hh.rt (M1 := []) [] rfl ht⟩, by rw [ht]; try exact hh.1.1, fun q h9 hq => by rw [ht]; try exact hh.1.2.1 q h9 hq⟩) hh.1.2.2 dX1_placeOf_9
end
section
def EX1_copyTextU : List (Nat × Nat) := [(3, 3), (173, 0)]
set_option maxHeartbeats 4000000 in
set_option maxRecDepth 20000 in
theorem uX1_copyTextU (l : Launch) (dC : Nat → ClassId) (dI : Nat → Nat → Nat) (ca : Nat → ClassId) (base : Nat) (B : jF) (hB : jBok B) (hAp : jAp (dC, dI)) (hB3 : ∀ n G a H, B 3 n G a H ↔ jOb (dC, dI) 3 17 (F3 n G) a H) (hB173 : ∀ n G a H, B 173 n G a H ↔ jAr (dC, dI) (ca 1) (fun j z => True) n a H) (G0 : jT) (H0 : Heap) (r0 : Nat) (r1 : Nat) (n0 : Nat) (n1 : Nat) (tx_ : Nat) (ty_ : Nat) (pm : Int32) (tq : jDtl) (ft : Nat → Int32) (fy : Nat → Int32) : Met l yX1_copyText (jw yX1_copyText cX1_copyText 2 none) ({ frames := 1, cells := 0, slots := 0, locals := 61 }) (va_Pc [.ref r0, .ref r1] (fun U => U.heap = H0 ∧ jX B base G0 [] H0 ∧ jG dC dI ca base U ∧ G0 r0 = some (3, n0) ∧ G0 r1 = some (3, n1) ∧ G0 tx_ = some (173, 1500) ∧ G0 ty_ = some (173, 1500) ∧ jP (dC, dI) G0 H0 [(r0, 3, 2, .ref tx_), (r1, 3, 2, .ref ty_), (r1, 3, 3, .int pm)] ∧ jMc (dC, dI) G0 H0 [(tx_, 173, 1500, ca 1, ft), (ty_, 173, 1500, ca 1, fy)] ∧ jIs (dC, dI) G0 H0 [(jFcd, jCD dC dI ca G0 (some r0) tq)] ∧ 0 ≤ pm.toInt ∧ pm.toInt ≤ 1500)) (va_Qv (S := Int32 × (Nat → Int32)) (fun u => u.1.toInt = pm.toInt ∧ jdW u.2 fy) (fun u t => (jRt (dC, dI) B base G0 EX1_copyTextU H0 [(r0, 3, 3, .int u.1)] t.heap ∧ jMc (dC, dI) G0 t.heap [(tx_, 173, 1500, ca 1, u.2)]) ∧ jIs (dC, dI) G0 t.heap [(jFcd, jCD dC dI ca G0 (some r0) tq)]) (jA base)) 0 0 (jA base) := by
  refine Met.ofW (cc := cX1_copyText) (maxL := 2) (ret := none) (by decide) rfl ?_
  intro p e s m args below meth c s₁ Bd hml hv
  obtain ⟨rfl, hH0, hX, hG, hg_r0, hg_r1, hg_tx_, hg_ty_, hP0, hM0, hI0, hp0, hp1⟩ := hv
  have hK := hG.1
  have hx := Bd.exec
  have hb := Bd.bytes
  have hr := Bd.returns
  have hts := atoms_spec (ws := (jw yX1_copyText cX1_copyText 2 none)) Bd.pre
  have htw : ∀ w ∈ jWl, w.before _ s = true := fun w h => hts w (List.mem_cons_of_mem _ h)
  have hown : s.vm.findClass RX1 = some m.cls := findClass_of_methodNamed Bd.named
  have hlocks := Bd.notSynchronized
  obtain ⟨Q, hQ⟩ : ∃ Q, Q = MQ below (va_Qv (S := Int32 × (Nat → Int32)) (fun u => u.1.toInt = pm.toInt ∧ jdW u.2 fy) (fun u t => (jRt (dC, dI) B base G0 EX1_copyTextU H0 [(r0, 3, 3, .int u.1)] t.heap ∧ jMc (dC, dI) G0 t.heap [(tx_, 173, 1500, ca 1, u.2)]) ∧ jIs (dC, dI) G0 t.heap [(jFcd, jCD dC dI ca G0 (some r0) tq)]) (jA base)) ([.ref r0, .ref r1] : List Value).toArray s 0 0 (jA base) := ⟨_, rfl⟩
  rw [← hQ]
  have hl := lv_entry ([.ref r0, .ref r1]) (n := 2) (Nat.le_of_ble_eq_true rfl)
  rw [lg_entry_eq]
  generalize (lg_sl ([.ref r0, .ref r1]) ++ List.replicate (2 - (lg_sl ([.ref r0, .ref r1])).length) Slot.unset).toArray = ls at hl ⊢
  have hl : lv_has ls 2 [(0, .ref r0), (1, .ref r1)] := hl
  generalize hR : (headSpec (jw yX1_copyText cX1_copyText 2 none) ({ frames := 1, cells := 0, slots := 0, locals := 61 })).room = R
  subst hH0
  have hh : jSt (dC, dI) B base G0 G0 EX1_copyTextU s.heap 0 0 [(r0, 3, 2, .ref tx_), (r1, 3, 2, .ref ty_), (r1, 3, 3, .int pm)] [(tx_, 173, 1500, ca 1, ft), (ty_, 173, 1500, ca 1, fy)] [(jFcd, jCD dC dI ca G0 (some r0) tq)] s.heap [] := jSt.start hX hP0 hM0 hI0
  clear hX hP0
  have hk0 : (0 : Int32).toInt = 0 := by decide
  have hk1 : (1 : Int32).toInt = 1 := by decide
  have hk1500 : (1500 : Int32).toInt = 1500 := by decide
  have hly_3_2 := htw (u_lay RX1 TX1 2) (jWc_wsX10 _ (u_in_lay (by decide)))
  have hly_3_3 := htw (u_lay RX1 TX1 3) (jWc_wsX10 _ (u_in_lay (by decide)))
  have hlk_15 := (htw (.fieldLink RX1 15 "ProofServer$Document" "text" "[I") (jWr_10 _ (List.mem_of_getElem? (i := 6) rfl)))
  have hlk_42 := (htw (.fieldLink RX1 42 "ProofServer$Document" "length" "I") (jWr_29 _ (List.mem_of_getElem? (i := 5) rfl)))
  refine lv_aload_n hx hb dX1_copyText_0 rfl (lv_at hl 1 rfl) ?_
  refine j7_read hx hb hown hK (C := RX1) (T := TX1) (N := 17) rfl hly_3_2 hlk_15 (hh.at 1 rfl) dX1_copyText_1 ?_
  refine lv_iconst (v := 0) hx hb dX1_copyText_4 (by decide) ?_
  refine lv_aload_n hx hb dX1_copyText_5 rfl (lv_at hl 0 rfl) ?_
  refine j7_read hx hb hown hK (C := RX1) (T := TX1) (N := 17) rfl hly_3_2 hlk_15 (hh.at 0 rfl) dX1_copyText_6 ?_
  refine lv_iconst (v := 0) hx hb dX1_copyText_9 (by decide) ?_
  refine lv_sipush (v := 1500) hx hb dX1_copyText_10 (by decide) ?_
  have hd_2 := hh.iv 0 rfl
  have hd_2f := hh.at 0 rfl
  have hh_3 := hh.sub (L1 := [(r0, 3, 2, .ref tx_), (r1, 3, 2, .ref ty_), (r1, 3, 3, .int pm)]) [0, 1, 2] rfl (M1 := [(tx_, 173, 1500, ca 1, ft), (ty_, 173, 1500, ca 1, fy)]) [0, 1] rfl (I1 := []) [] rfl
  clear hh
  refine j7_acopyX hx hb (by rw [hml]; exact hl.1.symm) hown (htw (.methodLink RX1 36 arraycopyName) (jWr_35 _ (List.mem_of_getElem? (i := 23) rfl))) (htw (.native arraycopyName) (jWr_16 _ (List.mem_of_getElem? (i := 19) rfl))) (htw (.static arraycopyName) (jWr_16 _ (List.mem_of_getElem? (i := 20) rfl))) (htw (.initialized "java/lang/System") (jWr_16 _ (List.mem_of_getElem? (i := 21) rfl))) hK hh_3 hB hB173 hB173 1 rfl (by decide) (by decide) (by decide) rfl 1 0 rfl rfl (M1 := []) [] rfl rfl rfl hg_ty_ hg_tx_ (x := 0) (y := 0) (z := 1500) (by decide) (by decide) (by decide) (by omega) (fun _ _ _ => trivial) (by rw [← hR]; exact Nat.le_of_ble_eq_true rfl) (by rw [← hR]; exact Nat.le_of_ble_eq_true rfl) dX1_copyText_13 (fun H_1 locs_1 fs_4 hv_1 ho_1 hr_1 hh_1 => ?_)
  clear hh_3
  have hd_2n := jCD.arr hd_2 hg_r0 hg_tx_ hd_2f hr_1
  have hh_5 := hh_1.addI (jCD.ie hd_2n)
  clear hh_1
  clear hd_2 hd_2f hd_2n hr_1
  refine lv_aload_n hx hb dX1_copyText_16 rfl (lv_at hl 0 rfl) ?_
  refine lv_aload_n hx hb dX1_copyText_17 rfl (lv_at hl 1 rfl) ?_
  refine j7_read hx hb hown hK (C := RX1) (T := TX1) (N := 17) rfl hly_3_3 hlk_42 (hh_5.at 2 rfl) dX1_copyText_18 ?_
  have hd_7 := hh_5.iv 0 rfl
  have hd_72 := hh_5.at 0 rfl
  have hh_8 := hh_5.sub (L1 := [(r0, 3, 2, .ref tx_), (r1, 3, 2, .ref ty_), (r1, 3, 3, .int pm)]) [0, 1, 2] rfl (M1 := [(tx_, 173, 1500, ca 1, fs_4)]) [0] rfl (I1 := []) [] rfl
  clear hh_5
  refine j7_putX hx hb hown hK hh_8 hB hAp hB3 (C := RX1) (T := TX1) (N := 17) rfl (by decide) hg_r0 (i := 3) (by decide) hly_3_3 rfl hlk_42 rfl (ty := .int) (v := .int pm) (by decide +kernel) rfl rfl (⟨_, rfl, by omega, by omega⟩) rfl (L1 := [(r0, 3, 2, .ref tx_), (r1, 3, 2, .ref ty_)]) [0, 1] rfl rfl rfl dX1_copyText_21 (fun H_6 locs_6 hr_6 hh_6 => ?_)
  clear hh_8
  have hd_7n := jCD.fld hd_7 hg_r0 hr_6 hd_72 (hh_6.at 1 rfl)
  have hh_9 := hh_6.addI (jCD.ie hd_7n)
  clear hh_6
  clear hd_7 hd_7n hd_72 hr_6
  rw [hQ]
  exact W.vret hx hb hr (fun t ht hW => ⟨⟨(pm, fs_4), rfl, by (try dsimp only); exact ⟨rfl, fun j h0 h1 => (hv_1 j (by omega) (by omega)).trans (congrArg (jSo fy) (by omega))⟩, ⟨⟨hh_9.rt (M1 := [(r0, 3, 3, .int pm)]) [0] rfl ht, by rw [ht]; exact hh_9.2.2.2.2.2.2.2.1.sub [0] rfl⟩, by rw [ht]; exact hh_9.2.2.2.2.2.2.2.2.sub (L1 := [(jFcd, jCD dC dI ca G0 (some r0) tq)]) [0] rfl⟩⟩, by rw [ht]; try exact hh_9.1.1, fun q h9 hq => by rw [ht]; try exact hh_9.1.2.1 q h9 hq⟩) hh_9.1.2.2 dX1_copyText_24
end
