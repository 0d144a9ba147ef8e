theorem dX1_isSentence_0 : decode cX1_isSentence 0 = .ok (.iload_n 1, 1) := by decide +kernel
theorem dX1_isSentence_1 : decode cX1_isSentence 1 = .ok (.ifCond .lt 29, 3) := by decide +kernel
theorem dX1_isSentence_4 : decode cX1_isSentence 4 = .ok (.iload_n 1, 1) := by decide +kernel
theorem dX1_isSentence_5 : decode cX1_isSentence 5 = .ok (.aload_n 0, 1) := by decide +kernel
theorem dX1_isSentence_6 : decode cX1_isSentence 6 = .ok (.getfield 69, 3) := by decide +kernel
theorem dX1_isSentence_9 : decode cX1_isSentence 9 = .ok (.if_icmp .ge 21, 3) := by decide +kernel
theorem dX1_isSentence_12 : decode cX1_isSentence 12 = .ok (.aload_n 0, 1) := by decide +kernel
theorem dX1_isSentence_13 : decode cX1_isSentence 13 = .ok (.getfield 21, 3) := by decide +kernel
theorem dX1_isSentence_16 : decode cX1_isSentence 16 = .ok (.iload_n 1, 1) := by decide +kernel
theorem dX1_isSentence_17 : decode cX1_isSentence 17 = .ok (.iaload, 1) := by decide +kernel
theorem dX1_isSentence_18 : decode cX1_isSentence 18 = .ok (.aload_n 0, 1) := by decide +kernel
theorem dX1_isSentence_19 : decode cX1_isSentence 19 = .ok (.getfield 18, 3) := by decide +kernel
theorem dX1_isSentence_22 : decode cX1_isSentence 22 = .ok (.iload_n 1, 1) := by decide +kernel
theorem dX1_isSentence_23 : decode cX1_isSentence 23 = .ok (.iaload, 1) := by decide +kernel
theorem dX1_isSentence_24 : decode cX1_isSentence 24 = .ok (.isub, 1) := by decide +kernel
theorem dX1_isSentence_25 : decode cX1_isSentence 25 = .ok (.aload_n 2, 1) := by decide +kernel
theorem dX1_isSentence_26 : decode cX1_isSentence 26 = .ok (.arraylength, 1) := by decide +kernel
theorem dX1_isSentence_27 : decode cX1_isSentence 27 = .ok (.if_icmp .eq 5, 3) := by decide +kernel
theorem dX1_isSentence_30 : decode cX1_isSentence 30 = .ok (.iconst 0, 1) := by decide +kernel
theorem dX1_isSentence_31 : decode cX1_isSentence 31 = .ok (.ireturn, 1) := by decide +kernel
theorem dX1_isSentence_32 : decode cX1_isSentence 32 = .ok (.iconst 0, 1) := by decide +kernel
theorem dX1_isSentence_33 : decode cX1_isSentence 33 = .ok (.istore_n 3, 1) := by decide +kernel
theorem dX1_isSentence_34 : decode cX1_isSentence 34 = .ok (.iload_n 3, 1) := by decide +kernel
theorem dX1_isSentence_35 : decode cX1_isSentence 35 = .ok (.aload_n 2, 1) := by decide +kernel
theorem dX1_isSentence_36 : decode cX1_isSentence 36 = .ok (.arraylength, 1) := by decide +kernel
theorem dX1_isSentence_37 : decode cX1_isSentence 37 = .ok (.if_icmp .ge 30, 3) := by decide +kernel
theorem dX1_isSentence_40 : decode cX1_isSentence 40 = .ok (.aload_n 0, 1) := by decide +kernel
theorem dX1_isSentence_41 : decode cX1_isSentence 41 = .ok (.getfield 15, 3) := by decide +kernel
theorem dX1_isSentence_44 : decode cX1_isSentence 44 = .ok (.aload_n 0, 1) := by decide +kernel
theorem dX1_isSentence_45 : decode cX1_isSentence 45 = .ok (.getfield 18, 3) := by decide +kernel
theorem dX1_isSentence_48 : decode cX1_isSentence 48 = .ok (.iload_n 1, 1) := by decide +kernel
theorem dX1_isSentence_49 : decode cX1_isSentence 49 = .ok (.iaload, 1) := by decide +kernel
theorem dX1_isSentence_50 : decode cX1_isSentence 50 = .ok (.iload_n 3, 1) := by decide +kernel
theorem dX1_isSentence_51 : decode cX1_isSentence 51 = .ok (.iadd, 1) := by decide +kernel
theorem dX1_isSentence_52 : decode cX1_isSentence 52 = .ok (.iaload, 1) := by decide +kernel
theorem dX1_isSentence_53 : decode cX1_isSentence 53 = .ok (.aload_n 2, 1) := by decide +kernel
theorem dX1_isSentence_54 : decode cX1_isSentence 54 = .ok (.iload_n 3, 1) := by decide +kernel
theorem dX1_isSentence_55 : decode cX1_isSentence 55 = .ok (.iaload, 1) := by decide +kernel
theorem dX1_isSentence_56 : decode cX1_isSentence 56 = .ok (.if_icmp .eq 5, 3) := by decide +kernel
theorem dX1_isSentence_59 : decode cX1_isSentence 59 = .ok (.iconst 0, 1) := by decide +kernel
theorem dX1_isSentence_60 : decode cX1_isSentence 60 = .ok (.ireturn, 1) := by decide +kernel
theorem dX1_isSentence_61 : decode cX1_isSentence 61 = .ok (.iinc 3 1, 3) := by decide +kernel
theorem dX1_isSentence_64 : decode cX1_isSentence 64 = .ok (.goto (-30), 3) := by decide +kernel
theorem dX1_isSentence_67 : decode cX1_isSentence 67 = .ok (.iconst 1, 1) := by decide +kernel
theorem dX1_isSentence_68 : decode cX1_isSentence 68 = .ok (.ireturn, 1) := by decide +kernel
def EX1_isSentence : List (Nat × Nat) := []
set_option maxHeartbeats 4000000 in
set_option maxRecDepth 20000 in
theorem uX1_isSentence (l : Launch) (dC : Nat → ClassId) (dI : Nat → Nat → Nat) (ca : Nat → ClassId) (base : Nat) (B : jF) (hB : jBok B) (hAp : jAp (dC, dI)) (hB3 : ∀ n G a H, B 3 n G a H ↔ jOb (dC, dI) 3 17 (F3 n G) a H) (hB101 : ∀ n G a H, B 101 n G a H ↔ jAr (dC, dI) (ca 1) (fun j z => True) n a H) (hB171 : ∀ n G a H, B 171 n G a H ↔ jAr (dC, dI) (ca 1) (fun j z => 0 ≤ z.toInt ∧ z.toInt ≤ 1500) n a H) (hB172 : ∀ n G a H, B 172 n G a H ↔ jAr (dC, dI) (ca 1) (fun j z => 0 ≤ z.toInt ∧ z.toInt ≤ 1500) n a H) (G0 : jT) (H0 : Heap) (r0 : Nat) (a1 : Int32) (r2 : Nat) (n2 : Nat) : Met l yX1_isSentence (jw yX1_isSentence cX1_isSentence 4 (some .boolean)) ({ frames := 0, cells := 0, slots := 0, locals := 0 }) (va_Pc [.ref r0, .int a1, .ref r2] (fun U => U.heap = H0 ∧ jX B base G0 [] H0 ∧ jG dC dI ca base U ∧ G0 r2 = some (101, n2) ∧ G0 r0 = some (3, 0) ∧ jP (dC, dI) G0 H0 [] ∧ n2 ≤ 3000)) (va_Qi (S := Unit) (fun r u => (r = 0 ∨ r = 1) ∧ (True)) (fun u t => jRt (dC, dI) B base G0 EX1_isSentence H0 [] t.heap) (jA base)) 0 0 (jA base) := by
  refine Met.ofW (cc := cX1_isSentence) (maxL := 4) (ret := (some .boolean)) (by decide) rfl ?_
  intro p e s m args below meth c s₁ Bd hml hv
  obtain ⟨rfl, hH0, hX, hG, hg_r2, hg_r0, hP0, hp0⟩ := hv
  have hK := hG.1
  have hx := Bd.exec
  have hb := Bd.bytes
  have hr := Bd.returns
  have hts := atoms_spec (ws := (jw yX1_isSentence cX1_isSentence 4 (some .boolean))) Bd.pre
  have htw : ∀ w ∈ jWl, w.before _ s = true := fun w h => hts w (List.mem_cons_of_mem _ h)
  have hown : s.vm.findClass RX1 = some m.cls := findClass_of_methodNamed Bd.named
  have hlocks := Bd.notSynchronized
  obtain ⟨Q, hQ⟩ : ∃ Q, Q = MQ below (va_Qi (S := Unit) (fun r u => (r = 0 ∨ r = 1) ∧ (True)) (fun u t => jRt (dC, dI) B base G0 EX1_isSentence H0 [] t.heap) (jA base)) ([.ref r0, .int a1, .ref r2] : List Value).toArray s 0 0 (jA base) := ⟨_, rfl⟩
  rw [← hQ]
  have hl := lv_entry ([.ref r0, .int a1, .ref r2]) (n := 4) (Nat.le_of_ble_eq_true rfl)
  rw [lg_entry_eq]
  generalize (lg_sl ([.ref r0, .int a1, .ref r2]) ++ List.replicate (4 - (lg_sl ([.ref r0, .int a1, .ref r2])).length) Slot.unset).toArray = ls at hl ⊢
  have hl : lv_has ls 4 [(0, .ref r0), (1, .int a1), (2, .ref r2)] := hl
  generalize hR : (headSpec (jw yX1_isSentence cX1_isSentence 4 (some .boolean)) ({ frames := 0, cells := 0, slots := 0, locals := 0 })).room = R
  subst hH0
  have hh : jSt (dC, dI) B base G0 G0 EX1_isSentence s.heap 0 0 [] [] [] s.heap [] := jSt.start hX hP0 jMc.nil jIs.nil
  clear hX hP0
  have hk0 : (0 : Int32).toInt = 0 := by decide
  have hk1 : (1 : Int32).toInt = 1 := by decide
  have hly_3_2 := htw (u_lay RX1 TX1 2) (jWc_wsX10 _ (u_in_lay (by decide)))
  have hly_3_4 := htw (u_lay RX1 TX1 4) (jWc_wsX10 _ (u_in_lay (by decide)))
  have hly_3_5 := htw (u_lay RX1 TX1 5) (jWc_wsX10 _ (u_in_lay (by decide)))
  have hly_3_6 := htw (u_lay RX1 TX1 6) (jWc_wsX10 _ (u_in_lay (by decide)))
  have hlk_69 := (htw (.fieldLink RX1 69 "ProofServer$Document" "sentences" "I") (jWr_29 _ (List.mem_of_getElem? (i := 14) rfl)))
  have hlk_21 := (htw (.fieldLink RX1 21 "ProofServer$Document" "ends" "[I") (jWr_10 _ (List.mem_of_getElem? (i := 8) rfl)))
  have hlk_18 := (htw (.fieldLink RX1 18 "ProofServer$Document" "starts" "[I") (jWr_10 _ (List.mem_of_getElem? (i := 7) rfl)))
  have hlk_15 := (htw (.fieldLink RX1 15 "ProofServer$Document" "text" "[I") (jWr_10 _ (List.mem_of_getElem? (i := 6) rfl)))
  have hrg_a1 := jb_rng a1
  refine lv_iload_n hx hb dX1_isSentence_0 rfl (lv_at hl 1 rfl) ?_
  refine lv_if_lt (tgt := 30) hx hb dX1_isSentence_1 (by decide) (fun c_1 => ?_) (fun c_1 => ?_)
  · skip
    have c_1' : a1.toInt < 0 := jb_lt (rfl) ((by decide)) c_1
    refine lv_iconst (v := 0) hx hb dX1_isSentence_30 (by decide) ?_
    rw [hQ]
    exact W.zret (v := 0) hx hb hr (jb_nz (Or.inl rfl)) (fun t ht hW => ⟨⟨0, (), rfl, ⟨(Or.inl rfl), trivial⟩, hh.rt (M1 := []) [] rfl ht⟩, by rw [ht]; try exact hh.1.1, fun q h9 hq => by rw [ht]; try exact hh.1.2.1 q h9 hq⟩) hh.1.2.2 dX1_isSentence_31
  · skip
    have c_1' : a1.toInt ≥ 0 := jb_lt_n (rfl) ((by decide)) c_1
    refine lv_iload_n hx hb dX1_isSentence_4 rfl (lv_at hl 1 rfl) ?_
    refine lv_aload_n hx hb dX1_isSentence_5 rfl (lv_at hl 0 rfl) ?_
    obtain ⟨v_2, hv_2, hh_3⟩ := hh.pin (C := RX1) (T := TX1) (N := 17) hB3 rfl (by decide) hg_r0 (i := 4) (by decide) rfl
    clear hh
    obtain ⟨sentences_4, rfl, hlosentences_4, hhisentences_4⟩ := hv_2
    refine j7_read hx hb hown hK (C := RX1) (T := TX1) (N := 17) rfl hly_3_4 hlk_69 (hh_3.at 0 rfl) dX1_isSentence_6 ?_
    refine lv_icmp_ge (tgt := 30) hx hb dX1_isSentence_9 (by decide) (fun c_5 => ?_) (fun c_5 => ?_)
    · skip
      have c_5' : a1.toInt ≥ sentences_4.toInt := jb_ge (rfl) (rfl) c_5
      refine lv_iconst (v := 0) hx hb dX1_isSentence_30 (by decide) ?_
      rw [hQ]
      exact W.zret (v := 0) hx hb hr (jb_nz (Or.inl rfl)) (fun t ht hW => ⟨⟨0, (), rfl, ⟨(Or.inl rfl), trivial⟩, hh_3.rt (M1 := []) [] rfl ht⟩, by rw [ht]; try exact hh_3.1.1, fun q h9 hq => by rw [ht]; try exact hh_3.1.2.1 q h9 hq⟩) hh_3.1.2.2 dX1_isSentence_31
    · skip
      have c_5' : a1.toInt < sentences_4.toInt := jb_ge_n (rfl) (rfl) c_5
      obtain ⟨v_6, hv_6, hh_7⟩ := hh_3.pin (C := RX1) (T := TX1) (N := 17) hB3 rfl (by decide) hg_r0 (i := 5) (by decide) rfl
      obtain ⟨starts_8, rfl, hg_starts_8⟩ := hv_6
      obtain ⟨f_starts_9, hh_9⟩ := hh_7.cpin hB171 (by decide) (by decide) hg_starts_8
      clear hh_7
      obtain ⟨v_10, hv_10, hh_11⟩ := hh_9.pin (C := RX1) (T := TX1) (N := 17) hB3 rfl (by decide) hg_r0 (i := 6) (by decide) rfl
      obtain ⟨ends_12, rfl, hg_ends_12⟩ := hv_10
      obtain ⟨f_ends_13, hh_13⟩ := hh_11.cpin hB172 (by decide) (by decide) hg_ends_12
      clear hh_11
      refine lv_aload_n hx hb dX1_isSentence_12 rfl (lv_at hl 0 rfl) ?_
      refine j7_read hx hb hown hK (C := RX1) (T := TX1) (N := 17) rfl hly_3_6 hlk_21 (hh_13.at 0 rfl) dX1_isSentence_13 ?_
      refine lv_iload_n hx hb dX1_isSentence_16 rfl (lv_at hl 1 rfl) ?_
      refine j7_ialdM hx hb hK hh_13 hB172 1 rfl (by decide) hg_ends_12 (x := a1.toInt) (rfl) (by omega) (j := 0) rfl dX1_isSentence_17 (fun z_14 ez_14 (hz_14 : 0 ≤ z_14.toInt ∧ z_14.toInt ≤ 1500) => ?_)
      have hqz_14 : z_14.toInt = jSo f_ends_13 (a1.toInt) := by unfold jSo; rw [ez_14]
      refine lv_aload_n hx hb dX1_isSentence_18 rfl (lv_at hl 0 rfl) ?_
      refine j7_read hx hb hown hK (C := RX1) (T := TX1) (N := 17) rfl hly_3_5 hlk_18 (hh_13.at 1 rfl) dX1_isSentence_19 ?_
      refine lv_iload_n hx hb dX1_isSentence_22 rfl (lv_at hl 1 rfl) ?_
      refine j7_ialdM hx hb hK hh_13 hB171 1 rfl (by decide) hg_starts_8 (x := a1.toInt) (rfl) (by omega) (j := 1) rfl dX1_isSentence_23 (fun z_15 ez_15 (hz_15 : 0 ≤ z_15.toInt ∧ z_15.toInt ≤ 1500) => ?_)
      have hqz_15 : z_15.toInt = jSo f_starts_9 (a1.toInt) := by unfold jSo; rw [ez_15]
      refine lv_isub hx hb dX1_isSentence_24 ?_
      refine lv_topi (fun z_16 ez_16 => ?_)
      have hz_16 : z_16.toInt = z_14.toInt - z_15.toInt := by rw [ez_16]; exact jb_isub2 (rfl) (rfl) (by omega)
      refine lv_aload_n hx hb dX1_isSentence_25 rfl (lv_at hl 2 rfl) ?_
      refine j7_len hx hb hK hh_13 hB101 1 rfl (by decide) hg_r2 (by omega) dX1_isSentence_26 (fun z_17 hz_17 => ?_)
      refine lv_icmp_eq (tgt := 32) hx hb dX1_isSentence_27 (by decide) (fun c_18 => ?_) (fun c_18 => ?_)
      · skip
        have c_18' : z_16.toInt = z_17.toInt := jb_eq (rfl) (rfl) c_18
        refine lv_iconst (v := 0) hx hb dX1_isSentence_32 (by decide) ?_
        refine lv_istore_n (lv' := [(3, .int 0), (0, .ref r0), (1, .int a1), (2, .ref r2)]) hx hb dX1_isSentence_33 rfl hl (by decide) rfl (fun ls hl => ?_)
        have L34 : ∀ (N : Nat) (v3_19 : Int32) (H_19 : Heap) (locs_19 : List Loc), jSt (dC, dI) B base G0 G0 EX1_isSentence s.heap 0 0 [(r0, 3, 6, .ref ends_12), (r0, 3, 5, .ref starts_8), (r0, 3, 4, .int sentences_4)] [(ends_12, 172, 40, ca 1, f_ends_13), (starts_8, 171, 40, ca 1, f_starts_9)] [] H_19 locs_19 → (0 ≤ v3_19.toInt ∧ v3_19.toInt ≤ n2) → (n2 - v3_19.toInt : Int) < N → ∀ ls : Array Slot, lv_has ls 4 [(0, .ref r0), (1, .int a1), (2, .ref r2), (3, .int v3_19)] → W p l e R s m ([.ref r0, .int a1, .ref r2] : List Value).toArray below meth c H_19 locs_19 0 0 Q (F0 m 34 ls []) := by
          intro N
          induction N with
          | zero => intro v3_19 H_19 locs_19 hh_19  hi_19 hm; exact absurd hm (by omega)
          | succ N L34 =>
            intro v3_19 H_19 locs_19 hh_19  hi_19 hm_19 ls hl
            obtain ⟨hi_19_0, hi_19_1⟩ := hi_19
            refine lv_iload_n hx hb dX1_isSentence_34 rfl (lv_at hl 3 rfl) ?_
            refine lv_aload_n hx hb dX1_isSentence_35 rfl (lv_at hl 2 rfl) ?_
            refine j7_len hx hb hK hh_19 hB101 1 rfl (by decide) hg_r2 (by omega) dX1_isSentence_36 (fun z_20 hz_20 => ?_)
            refine lv_icmp_ge (tgt := 67) hx hb dX1_isSentence_37 (by decide) (fun c_21 => ?_) (fun c_21 => ?_)
            · skip
              have c_21' : v3_19.toInt ≥ z_20.toInt := jb_ge (rfl) (rfl) c_21
              refine lv_iconst (v := 1) hx hb dX1_isSentence_67 (by decide) ?_
              rw [hQ]
              exact W.zret (v := 1) hx hb hr (jb_nz (Or.inr rfl)) (fun t ht hW => ⟨⟨1, (), rfl, ⟨(Or.inr rfl), trivial⟩, hh_19.rt (M1 := []) [] rfl ht⟩, by rw [ht]; try exact hh_19.1.1, fun q h9 hq => by rw [ht]; try exact hh_19.1.2.1 q h9 hq⟩) hh_19.1.2.2 dX1_isSentence_68
            · skip
              have c_21' : v3_19.toInt < z_20.toInt := jb_ge_n (rfl) (rfl) c_21
              refine lv_aload_n hx hb dX1_isSentence_40 rfl (lv_at hl 0 rfl) ?_
              obtain ⟨v_22, hv_22, hh_23⟩ := hh_19.pin (C := RX1) (T := TX1) (N := 17) hB3 rfl (by decide) hg_r0 (i := 2) (by decide) rfl
              clear hh_19
              obtain ⟨text_24, rfl, hg_text_24⟩ := hv_22
              refine j7_read hx hb hown hK (C := RX1) (T := TX1) (N := 17) rfl hly_3_2 hlk_15 (hh_23.at 0 rfl) dX1_isSentence_41 ?_
              refine lv_aload_n hx hb dX1_isSentence_44 rfl (lv_at hl 0 rfl) ?_
              refine j7_read hx hb hown hK (C := RX1) (T := TX1) (N := 17) rfl hly_3_5 hlk_18 (hh_23.at 2 rfl) dX1_isSentence_45 ?_
              refine lv_iload_n hx hb dX1_isSentence_48 rfl (lv_at hl 1 rfl) ?_
              refine j7_ialdM hx hb hK hh_23 hB171 1 rfl (by decide) hg_starts_8 (x := a1.toInt) (rfl) (by omega) (j := 1) rfl dX1_isSentence_49 (fun z_25 ez_25 (hz_25 : 0 ≤ z_25.toInt ∧ z_25.toInt ≤ 1500) => ?_)
              have hqz_25 : z_25.toInt = jSo f_starts_9 (a1.toInt) := by unfold jSo; rw [ez_25]
              refine lv_iload_n hx hb dX1_isSentence_50 rfl (lv_at hl 3 rfl) ?_
              refine lv_iadd hx hb dX1_isSentence_51 ?_
              refine lv_topi (fun z_26 ez_26 => ?_)
              have hz_26 : z_26.toInt = z_25.toInt + v3_19.toInt := by rw [ez_26]; exact jb_iadd2 (rfl) (rfl) (by omega)
              refine j7_iald hx hb hK hh_23 hB101 1 rfl (by decide) hg_text_24 (x := z_26.toInt) (rfl) (by omega) dX1_isSentence_52 (fun z_27 (hz_27 : True) => ?_)
              refine lv_aload_n hx hb dX1_isSentence_53 rfl (lv_at hl 2 rfl) ?_
              refine lv_iload_n hx hb dX1_isSentence_54 rfl (lv_at hl 3 rfl) ?_
              refine j7_iald hx hb hK hh_23 hB101 1 rfl (by decide) hg_r2 (x := v3_19.toInt) (rfl) (by omega) dX1_isSentence_55 (fun z_28 (hz_28 : True) => ?_)
              refine lv_icmp_eq (tgt := 61) hx hb dX1_isSentence_56 (by decide) (fun c_29 => ?_) (fun c_29 => ?_)
              · skip
                have c_29' : z_27.toInt = z_28.toInt := jb_eq (rfl) (rfl) c_29
                obtain ⟨z_30, ez_30⟩ : ∃ y : Int32, y = v3_19 + 1 := ⟨_, rfl⟩
                refine lv_iinc (v := z_30) (lv' := [(3, .int z_30), (0, .ref r0), (1, .int a1), (2, .ref r2)]) hx hb dX1_isSentence_61 hl (k := 3) rfl (by rw [ez_30]; rfl) (by decide) rfl (fun ls hl => ?_)
                have hz_30 : z_30.toInt = v3_19.toInt + 1 := by rw [ez_30]; exact jb_iadd2 (rfl) (by decide) (by omega)
                refine lv_goto (tgt := 34) hx hb dX1_isSentence_64 (by decide) ?_
                exact L34 z_30 _ _ (hh_23.sub (L1 := [(r0, 3, 6, .ref ends_12), (r0, 3, 5, .ref starts_8), (r0, 3, 4, .int sentences_4)]) [1, 2, 3] rfl (M1 := [(ends_12, 172, 40, ca 1, f_ends_13), (starts_8, 171, 40, ca 1, f_starts_9)]) [0, 1] rfl (I1 := []) [] rfl) (by first | omega | (refine ⟨?_, ?_⟩ <;> (first | omega | rfl | assumption | decide | exact Or.inl rfl | exact Or.inr rfl | (simp only; omega)))) (by omega) _ (lv_sub hl [1, 2, 3, 0] rfl)
              · skip
                have c_29' : z_27.toInt ≠ z_28.toInt := jb_eq_n (rfl) (rfl) c_29
                refine lv_iconst (v := 0) hx hb dX1_isSentence_59 (by decide) ?_
                rw [hQ]
                exact W.zret (v := 0) hx hb hr (jb_nz (Or.inl rfl)) (fun t ht hW => ⟨⟨0, (), rfl, ⟨(Or.inl rfl), trivial⟩, hh_23.rt (M1 := []) [] rfl ht⟩, by rw [ht]; try exact hh_23.1.1, fun q h9 hq => by rw [ht]; try exact hh_23.1.2.1 q h9 hq⟩) hh_23.1.2.2 dX1_isSentence_60
        exact L34 (n2 - (0 : Int32).toInt : Int).toNat.succ 0 _ _ hh_13 (by first | omega | (refine ⟨?_, ?_⟩ <;> (first | omega | rfl | assumption | decide | exact Or.inl rfl | exact Or.inr rfl | (simp only; omega)))) (by omega) _ (lv_sub hl [1, 2, 3, 0] rfl)
      · skip
        have c_18' : z_16.toInt ≠ z_17.toInt := jb_eq_n (rfl) (rfl) c_18
        refine lv_iconst (v := 0) hx hb dX1_isSentence_30 (by decide) ?_
        rw [hQ]
        exact W.zret (v := 0) hx hb hr (jb_nz (Or.inl rfl)) (fun t ht hW => ⟨⟨0, (), rfl, ⟨(Or.inl rfl), trivial⟩, hh_13.rt (M1 := []) [] rfl ht⟩, by rw [ht]; try exact hh_13.1.1, fun q h9 hq => by rw [ht]; try exact hh_13.1.2.1 q h9 hq⟩) hh_13.1.2.2 dX1_isSentence_31
