section
theorem dX4_isText_0 : decode cX4_isText 0 = .ok (.aload_n 0, 1) := by decide +kernel
theorem dX4_isText_1 : decode cX4_isText 1 = .ok (.iload_n 1, 1) := by decide +kernel
theorem dX4_isText_2 : decode cX4_isText 2 = .ok (.invokevirtual 63, 3) := by decide +kernel
theorem dX4_isText_5 : decode cX4_isText 5 = .ok (.iconst 3, 1) := by decide +kernel
theorem dX4_isText_6 : decode cX4_isText 6 = .ok (.if_icmp .ne 27, 3) := by decide +kernel
theorem dX4_isText_9 : decode cX4_isText 9 = .ok (.aload_n 0, 1) := by decide +kernel
theorem dX4_isText_10 : decode cX4_isText 10 = .ok (.aload_n 0, 1) := by decide +kernel
theorem dX4_isText_11 : decode cX4_isText 11 = .ok (.getfield 15, 3) := by decide +kernel
theorem dX4_isText_14 : decode cX4_isText 14 = .ok (.iload_n 1, 1) := by decide +kernel
theorem dX4_isText_15 : decode cX4_isText 15 = .ok (.iaload, 1) := by decide +kernel
theorem dX4_isText_16 : decode cX4_isText 16 = .ok (.aload_n 0, 1) := by decide +kernel
theorem dX4_isText_17 : decode cX4_isText 17 = .ok (.getfield 18, 3) := by decide +kernel
theorem dX4_isText_20 : decode cX4_isText 20 = .ok (.iload_n 1, 1) := by decide +kernel
theorem dX4_isText_21 : decode cX4_isText 21 = .ok (.iaload, 1) := by decide +kernel
theorem dX4_isText_22 : decode cX4_isText 22 = .ok (.aload_n 2, 1) := by decide +kernel
theorem dX4_isText_23 : decode cX4_isText 23 = .ok (.invokevirtual 66, 3) := by decide +kernel
theorem dX4_isText_26 : decode cX4_isText 26 = .ok (.ifCond .eq 7, 3) := by decide +kernel
theorem dX4_isText_29 : decode cX4_isText 29 = .ok (.iconst 1, 1) := by decide +kernel
theorem dX4_isText_30 : decode cX4_isText 30 = .ok (.goto 4, 3) := by decide +kernel
theorem dX4_isText_33 : decode cX4_isText 33 = .ok (.iconst 0, 1) := by decide +kernel
theorem dX4_isText_34 : decode cX4_isText 34 = .ok (.ireturn, 1) := by decide +kernel
end
section
theorem dX8_hasIdOf_0 : decode cX8_hasIdOf 0 = .ok (.aload_n 0, 1) := by decide +kernel
theorem dX8_hasIdOf_1 : decode cX8_hasIdOf 1 = .ok (.getfield 29, 3) := by decide +kernel
theorem dX8_hasIdOf_4 : decode cX8_hasIdOf 4 = .ok (.ifnull 27, 3) := by decide +kernel
theorem dX8_hasIdOf_7 : decode cX8_hasIdOf 7 = .ok (.aload_n 1, 1) := by decide +kernel
theorem dX8_hasIdOf_8 : decode cX8_hasIdOf 8 = .ok (.getfield 29, 3) := by decide +kernel
theorem dX8_hasIdOf_11 : decode cX8_hasIdOf 11 = .ok (.ifnull 20, 3) := by decide +kernel
theorem dX8_hasIdOf_14 : decode cX8_hasIdOf 14 = .ok (.aload_n 0, 1) := by decide +kernel
theorem dX8_hasIdOf_15 : decode cX8_hasIdOf 15 = .ok (.getfield 29, 3) := by decide +kernel
theorem dX8_hasIdOf_18 : decode cX8_hasIdOf 18 = .ok (.getfield 59, 3) := by decide +kernel
theorem dX8_hasIdOf_21 : decode cX8_hasIdOf 21 = .ok (.aload_n 1, 1) := by decide +kernel
theorem dX8_hasIdOf_22 : decode cX8_hasIdOf 22 = .ok (.getfield 29, 3) := by decide +kernel
theorem dX8_hasIdOf_25 : decode cX8_hasIdOf 25 = .ok (.getfield 59, 3) := by decide +kernel
theorem dX8_hasIdOf_28 : decode cX8_hasIdOf 28 = .ok (.if_icmp .eq 5, 3) := by decide +kernel
theorem dX8_hasIdOf_31 : decode cX8_hasIdOf 31 = .ok (.iconst 0, 1) := by decide +kernel
theorem dX8_hasIdOf_32 : decode cX8_hasIdOf 32 = .ok (.ireturn, 1) := by decide +kernel
theorem dX8_hasIdOf_33 : decode cX8_hasIdOf 33 = .ok (.iconst 0, 1) := by decide +kernel
theorem dX8_hasIdOf_34 : decode cX8_hasIdOf 34 = .ok (.istore_n 2, 1) := by decide +kernel
theorem dX8_hasIdOf_35 : decode cX8_hasIdOf 35 = .ok (.iload_n 2, 1) := by decide +kernel
theorem dX8_hasIdOf_36 : decode cX8_hasIdOf 36 = .ok (.aload_n 0, 1) := by decide +kernel
theorem dX8_hasIdOf_37 : decode cX8_hasIdOf 37 = .ok (.getfield 29, 3) := by decide +kernel
theorem dX8_hasIdOf_40 : decode cX8_hasIdOf 40 = .ok (.getfield 59, 3) := by decide +kernel
theorem dX8_hasIdOf_43 : decode cX8_hasIdOf 43 = .ok (.if_icmp .ge 32, 3) := by decide +kernel
theorem dX8_hasIdOf_46 : decode cX8_hasIdOf 46 = .ok (.aload_n 0, 1) := by decide +kernel
theorem dX8_hasIdOf_47 : decode cX8_hasIdOf 47 = .ok (.getfield 29, 3) := by decide +kernel
theorem dX8_hasIdOf_50 : decode cX8_hasIdOf 50 = .ok (.getfield 62, 3) := by decide +kernel
theorem dX8_hasIdOf_53 : decode cX8_hasIdOf 53 = .ok (.iload_n 2, 1) := by decide +kernel
theorem dX8_hasIdOf_54 : decode cX8_hasIdOf 54 = .ok (.baload, 1) := by decide +kernel
theorem dX8_hasIdOf_55 : decode cX8_hasIdOf 55 = .ok (.aload_n 1, 1) := by decide +kernel
theorem dX8_hasIdOf_56 : decode cX8_hasIdOf 56 = .ok (.getfield 29, 3) := by decide +kernel
theorem dX8_hasIdOf_59 : decode cX8_hasIdOf 59 = .ok (.getfield 62, 3) := by decide +kernel
theorem dX8_hasIdOf_62 : decode cX8_hasIdOf 62 = .ok (.iload_n 2, 1) := by decide +kernel
theorem dX8_hasIdOf_63 : decode cX8_hasIdOf 63 = .ok (.baload, 1) := by decide +kernel
theorem dX8_hasIdOf_64 : decode cX8_hasIdOf 64 = .ok (.if_icmp .eq 5, 3) := by decide +kernel
theorem dX8_hasIdOf_67 : decode cX8_hasIdOf 67 = .ok (.iconst 0, 1) := by decide +kernel
theorem dX8_hasIdOf_68 : decode cX8_hasIdOf 68 = .ok (.ireturn, 1) := by decide +kernel
theorem dX8_hasIdOf_69 : decode cX8_hasIdOf 69 = .ok (.iinc 2 1, 3) := by decide +kernel
theorem dX8_hasIdOf_72 : decode cX8_hasIdOf 72 = .ok (.goto (-37), 3) := by decide +kernel
theorem dX8_hasIdOf_75 : decode cX8_hasIdOf 75 = .ok (.iconst 1, 1) := by decide +kernel
theorem dX8_hasIdOf_76 : decode cX8_hasIdOf 76 = .ok (.ireturn, 1) := by decide +kernel
def EX8_hasIdOf : List (Nat × Nat) := []
set_option maxHeartbeats 4000000 in
set_option maxRecDepth 20000 in
theorem uX8_hasIdOf (l : Launch) (dC : Nat → ClassId) (dI : Nat → Nat → Nat) (ca : Nat → ClassId) (base : Nat) (B : jF) (hB : jBok B) (hAp : jAp (dC, dI)) (hB2 : ∀ n G a H, B 2 n G a H ↔ jOb (dC, dI) 2 2 (F2 n G) a H) (hB10 : ∀ n G a H, B 10 n G a H ↔ jOb (dC, dI) 10 5 (F10 n G) a H) (hB196 : ∀ n G a H, B 196 n G a H ↔ jAr (dC, dI) (ca 0) (fun j z => jBf j z) n a H) (G0 : jT) (H0 : Heap) (r0 : Nat) (r1 : Nat) : Met l yX8_hasIdOf (jw yX8_hasIdOf cX8_hasIdOf 3 (some .boolean)) ({ frames := 0, cells := 0, slots := 0, locals := 0 }) (va_Pc [.ref r0, .ref r1] (fun U => U.heap = H0 ∧ jX B base G0 [] H0 ∧ jG dC dI ca base U ∧ G0 r1 = some (10, 0) ∧ G0 r0 = some (10, 0) ∧ jP (dC, dI) G0 H0 [] ∧ jIs (dC, dI) G0 H0 [(jFy, jYb dC dI G0)] ∧ True)) (va_Qi (S := Unit) (fun r u => (r = 0 ∨ r = 1) ∧ (True)) (fun u t => (jRt (dC, dI) B base G0 EX8_hasIdOf H0 [] t.heap) ∧ jIs (dC, dI) G0 t.heap [(jFy, jYb dC dI G0)]) (jA base)) 0 0 (jA base) := by
  refine Met.ofW (cc := cX8_hasIdOf) (maxL := 3) (ret := (some .boolean)) (by decide) rfl ?_
  intro p e s m args below meth c s₁ Bd hml hv
  obtain ⟨rfl, hH0, hX, hG, hg_r1, hg_r0, hP0, hI0, hp0⟩ := hv
  have hK := hG.1
  have hx := Bd.exec
  have hb := Bd.bytes
  have hr := Bd.returns
  have hts := atoms_spec (ws := (jw yX8_hasIdOf cX8_hasIdOf 3 (some .boolean))) Bd.pre
  have htw : ∀ w ∈ jWl, w.before _ s = true := fun w h => hts w (List.mem_cons_of_mem _ h)
  have hown : s.vm.findClass RX8 = some m.cls := findClass_of_methodNamed Bd.named
  have hlocks := Bd.notSynchronized
  obtain ⟨Q, hQ⟩ : ∃ Q, Q = MQ below (va_Qi (S := Unit) (fun r u => (r = 0 ∨ r = 1) ∧ (True)) (fun u t => (jRt (dC, dI) B base G0 EX8_hasIdOf H0 [] t.heap) ∧ jIs (dC, dI) G0 t.heap [(jFy, jYb dC dI G0)]) (jA base)) ([.ref r0, .ref r1] : List Value).toArray s 0 0 (jA base) := ⟨_, rfl⟩
  rw [← hQ]
  have hl := lv_entry ([.ref r0, .ref r1]) (n := 3) (Nat.le_of_ble_eq_true rfl)
  rw [lg_entry_eq]
  generalize (lg_sl ([.ref r0, .ref r1]) ++ List.replicate (3 - (lg_sl ([.ref r0, .ref r1])).length) Slot.unset).toArray = ls at hl ⊢
  have hl : lv_has ls 3 [(0, .ref r0), (1, .ref r1)] := hl
  generalize hR : (headSpec (jw yX8_hasIdOf cX8_hasIdOf 3 (some .boolean)) ({ frames := 0, cells := 0, slots := 0, locals := 0 })).room = R
  subst hH0
  have hh : jSt (dC, dI) B base G0 G0 EX8_hasIdOf s.heap 0 0 [] [] [(jFy, jYb dC dI G0)] s.heap [] := jSt.start hX hP0 jMc.nil hI0
  clear hX hP0
  have hk0 : (0 : Int32).toInt = 0 := by decide
  have hk1 : (1 : Int32).toInt = 1 := by decide
  have hly_2_0 := htw (u_lay RX0 TX0 0) (jWc_wsX00 _ (u_in_lay (by decide)))
  have hly_2_1 := htw (u_lay RX0 TX0 1) (jWc_wsX00 _ (u_in_lay (by decide)))
  have hly_10_0 := htw (u_lay RX8 TX8 0) (jWc_wsX80 _ (u_in_lay (by decide)))
  have hlk_29 := (htw (.fieldLink RX8 29 "ProofServer$Request" "id" "LProofServer$Bytes;") (jWr_24 _ (List.mem_of_getElem? (i := 4) rfl)))
  have hlk_59 := (htw (.fieldLink RX8 59 "ProofServer$Bytes" "count" "I") (jWr_44 _ (List.mem_of_getElem? (i := 3) rfl)))
  have hlk_62 := (htw (.fieldLink RX8 62 "ProofServer$Bytes" "row" "[B") (jWr_44 _ (List.mem_of_getElem? (i := 4) rfl)))
  refine lv_aload_n hx hb dX8_hasIdOf_0 rfl (lv_at hl 0 rfl) ?_
  obtain ⟨v_1, hv_1, hh_2⟩ := hh.pin (C := RX8) (T := TX8) (N := 5) hB10 rfl (by decide) hg_r0 (i := 0) (by decide) rfl
  clear hh
  rcases hv_1 with rfl | ⟨id_3, rfl, hg_id_3⟩
  · refine j7_read hx hb hown hK (C := RX8) (T := TX8) (N := 5) rfl hly_10_0 hlk_29 (hh_2.at 0 rfl) dX8_hasIdOf_1 ?_
    refine lv_ifnullN (tgt := 31) hx hb dX8_hasIdOf_4 (by decide) ?_
    refine lv_iconst (v := 0) hx hb dX8_hasIdOf_31 (by decide) ?_
    rw [hQ]
    exact W.zret (v := 0) hx hb hr (jb_nz (Or.inl rfl)) (fun t ht hW => ⟨⟨0, (), rfl, ⟨(Or.inl rfl), trivial⟩, ⟨hh_2.rt (M1 := []) [] rfl ht, by rw [ht]; exact hh_2.2.2.2.2.2.2.2.2.sub (L1 := [(jFy, jYb dC dI G0)]) [0] rfl⟩⟩, by rw [ht]; try exact hh_2.1.1, fun q h9 hq => by rw [ht]; try exact hh_2.1.2.1 q h9 hq⟩) hh_2.1.2.2 dX8_hasIdOf_32
  · refine j7_read hx hb hown hK (C := RX8) (T := TX8) (N := 5) rfl hly_10_0 hlk_29 (hh_2.at 0 rfl) dX8_hasIdOf_1 ?_
    refine lv_ifnull hx hb dX8_hasIdOf_4 ?_
    refine lv_aload_n hx hb dX8_hasIdOf_7 rfl (lv_at hl 1 rfl) ?_
    obtain ⟨v_4, hv_4, hh_5⟩ := hh_2.pin (C := RX8) (T := TX8) (N := 5) hB10 rfl (by decide) hg_r1 (i := 0) (by decide) rfl
    clear hh_2
    rcases hv_4 with rfl | ⟨id_6, rfl, hg_id_6⟩
    · refine j7_read hx hb hown hK (C := RX8) (T := TX8) (N := 5) rfl hly_10_0 hlk_29 (hh_5.at 0 rfl) dX8_hasIdOf_8 ?_
      refine lv_ifnullN (tgt := 31) hx hb dX8_hasIdOf_11 (by decide) ?_
      refine lv_iconst (v := 0) hx hb dX8_hasIdOf_31 (by decide) ?_
      rw [hQ]
      exact W.zret (v := 0) hx hb hr (jb_nz (Or.inl rfl)) (fun t ht hW => ⟨⟨0, (), rfl, ⟨(Or.inl rfl), trivial⟩, ⟨hh_5.rt (M1 := []) [] rfl ht, by rw [ht]; exact hh_5.2.2.2.2.2.2.2.2.sub (L1 := [(jFy, jYb dC dI G0)]) [0] rfl⟩⟩, by rw [ht]; try exact hh_5.1.1, fun q h9 hq => by rw [ht]; try exact hh_5.1.2.1 q h9 hq⟩) hh_5.1.2.2 dX8_hasIdOf_32
    · refine j7_read hx hb hown hK (C := RX8) (T := TX8) (N := 5) rfl hly_10_0 hlk_29 (hh_5.at 0 rfl) dX8_hasIdOf_8 ?_
      refine lv_ifnull hx hb dX8_hasIdOf_11 ?_
      obtain ⟨yc_7, yx_7, ym_7, hy1_7, hy2_7, hg_yx_7, hy4_7⟩ := (hh_5.iv 0 rfl) _ hg_id_3
      have hh_8 := hh_5.more (P1 := [(id_3, 2, 1, .int yc_7), (id_3, 2, 0, .ref yx_7)]) (jP.cons hg_id_3 hy1_7 (jP.cons hg_id_3 hy2_7 jP.nil))
      clear hh_5
      obtain ⟨yc_9, yx_9, ym_9, hy1_9, hy2_9, hg_yx_9, hy4_9⟩ := (hh_8.iv 0 rfl) _ hg_id_6
      have hh_10 := hh_8.more (P1 := [(id_6, 2, 1, .int yc_9), (id_6, 2, 0, .ref yx_9)]) (jP.cons hg_id_6 hy1_9 (jP.cons hg_id_6 hy2_9 jP.nil))
      clear hh_8
      refine lv_aload_n hx hb dX8_hasIdOf_14 rfl (lv_at hl 0 rfl) ?_
      refine j7_read hx hb hown hK (C := RX8) (T := TX8) (N := 5) rfl hly_10_0 hlk_29 (hh_10.at 5 rfl) dX8_hasIdOf_15 ?_
      refine j7_read hx hb hown hK (C := RX0) (T := TX0) (N := 2) rfl hly_2_1 hlk_59 (hh_10.at 2 rfl) dX8_hasIdOf_18 ?_
      refine lv_aload_n hx hb dX8_hasIdOf_21 rfl (lv_at hl 1 rfl) ?_
      refine j7_read hx hb hown hK (C := RX8) (T := TX8) (N := 5) rfl hly_10_0 hlk_29 (hh_10.at 4 rfl) dX8_hasIdOf_22 ?_
      refine j7_read hx hb hown hK (C := RX0) (T := TX0) (N := 2) rfl hly_2_1 hlk_59 (hh_10.at 0 rfl) dX8_hasIdOf_25 ?_
      refine lv_icmp_eq (tgt := 33) hx hb dX8_hasIdOf_28 (by decide) (fun c_11 => ?_) (fun c_11 => ?_)
      · skip
        have c_11' : yc_7.toInt = yc_9.toInt := jb_eq (rfl) (rfl) c_11
        refine lv_iconst (v := 0) hx hb dX8_hasIdOf_33 (by decide) ?_
        refine lv_istore_n (lv' := [(2, .int 0), (0, .ref r0), (1, .ref r1)]) hx hb dX8_hasIdOf_34 rfl hl (by decide) rfl (fun ls hl => ?_)
        have L35 : ∀ (N : Nat) (v2_12 : Int32) (H_12 : Heap) (locs_12 : List Loc), jSt (dC, dI) B base G0 G0 EX8_hasIdOf s.heap 0 0 [(id_6, 2, 1, .int yc_9), (id_6, 2, 0, .ref yx_9), (id_3, 2, 1, .int yc_7), (id_3, 2, 0, .ref yx_7), (r1, 10, 0, .ref id_6), (r0, 10, 0, .ref id_3)] [] [(jFy, jYb dC dI G0)] H_12 locs_12 → (0 ≤ v2_12.toInt ∧ v2_12.toInt ≤ 1048576) → (1048577 - v2_12.toInt : Int) < N → ∀ ls : Array Slot, lv_has ls 3 [(0, .ref r0), (1, .ref r1), (2, .int v2_12)] → W p l e R s m ([.ref r0, .ref r1] : List Value).toArray below meth c H_12 locs_12 0 0 Q (F0 m 35 ls []) := by
          intro N
          induction N with
          | zero => intro v2_12 H_12 locs_12 hh_12  hi_12 hm; exact absurd hm (by omega)
          | succ N L35 =>
            intro v2_12 H_12 locs_12 hh_12  hi_12 hm_12 ls hl
            obtain ⟨hi_12_0, hi_12_1⟩ := hi_12
            refine lv_iload_n hx hb dX8_hasIdOf_35 rfl (lv_at hl 2 rfl) ?_
            refine lv_aload_n hx hb dX8_hasIdOf_36 rfl (lv_at hl 0 rfl) ?_
            refine j7_read hx hb hown hK (C := RX8) (T := TX8) (N := 5) rfl hly_10_0 hlk_29 (hh_12.at 5 rfl) dX8_hasIdOf_37 ?_
            refine j7_read hx hb hown hK (C := RX0) (T := TX0) (N := 2) rfl hly_2_1 hlk_59 (hh_12.at 2 rfl) dX8_hasIdOf_40 ?_
            refine lv_icmp_ge (tgt := 75) hx hb dX8_hasIdOf_43 (by decide) (fun c_13 => ?_) (fun c_13 => ?_)
            · skip
              have c_13' : v2_12.toInt ≥ yc_7.toInt := jb_ge (rfl) (rfl) c_13
              refine lv_iconst (v := 1) hx hb dX8_hasIdOf_75 (by decide) ?_
              rw [hQ]
              exact W.zret (v := 1) hx hb hr (jb_nz (Or.inr rfl)) (fun t ht hW => ⟨⟨1, (), rfl, ⟨(Or.inr rfl), trivial⟩, ⟨hh_12.rt (M1 := []) [] rfl ht, by rw [ht]; exact hh_12.2.2.2.2.2.2.2.2.sub (L1 := [(jFy, jYb dC dI G0)]) [0] rfl⟩⟩, by rw [ht]; try exact hh_12.1.1, fun q h9 hq => by rw [ht]; try exact hh_12.1.2.1 q h9 hq⟩) hh_12.1.2.2 dX8_hasIdOf_76
            · skip
              have c_13' : v2_12.toInt < yc_7.toInt := jb_ge_n (rfl) (rfl) c_13
              refine lv_aload_n hx hb dX8_hasIdOf_46 rfl (lv_at hl 0 rfl) ?_
              refine j7_read hx hb hown hK (C := RX8) (T := TX8) (N := 5) rfl hly_10_0 hlk_29 (hh_12.at 5 rfl) dX8_hasIdOf_47 ?_
              refine j7_read hx hb hown hK (C := RX0) (T := TX0) (N := 2) rfl hly_2_0 hlk_62 (hh_12.at 3 rfl) dX8_hasIdOf_50 ?_
              refine lv_iload_n hx hb dX8_hasIdOf_53 rfl (lv_at hl 2 rfl) ?_
              refine j7_bald hx hb hK hh_12 hB196 0 rfl (by decide) hg_yx_7 (x := v2_12.toInt) (rfl) (by omega) dX8_hasIdOf_54 (fun z_14 (hz_14 : jBf (v2_12.toInt).toNat z_14) => ?_)
              refine lv_aload_n hx hb dX8_hasIdOf_55 rfl (lv_at hl 1 rfl) ?_
              refine j7_read hx hb hown hK (C := RX8) (T := TX8) (N := 5) rfl hly_10_0 hlk_29 (hh_12.at 4 rfl) dX8_hasIdOf_56 ?_
              refine j7_read hx hb hown hK (C := RX0) (T := TX0) (N := 2) rfl hly_2_0 hlk_62 (hh_12.at 1 rfl) dX8_hasIdOf_59 ?_
              refine lv_iload_n hx hb dX8_hasIdOf_62 rfl (lv_at hl 2 rfl) ?_
              refine j7_bald hx hb hK hh_12 hB196 0 rfl (by decide) hg_yx_9 (x := v2_12.toInt) (rfl) (by omega) dX8_hasIdOf_63 (fun z_15 (hz_15 : jBf (v2_12.toInt).toNat z_15) => ?_)
              refine lv_icmp_eq (tgt := 69) hx hb dX8_hasIdOf_64 (by decide) (fun c_16 => ?_) (fun c_16 => ?_)
              · skip
                have c_16' : z_14.toInt = z_15.toInt := jb_eq (rfl) (rfl) c_16
                obtain ⟨z_17, ez_17⟩ : ∃ y : Int32, y = v2_12 + 1 := ⟨_, rfl⟩
                refine lv_iinc (v := z_17) (lv' := [(2, .int z_17), (0, .ref r0), (1, .ref r1)]) hx hb dX8_hasIdOf_69 hl (k := 2) rfl (by rw [ez_17]; rfl) (by decide) rfl (fun ls hl => ?_)
                have hz_17 : z_17.toInt = v2_12.toInt + 1 := by rw [ez_17]; exact jb_iadd2 (rfl) (by decide) (by omega)
                refine lv_goto (tgt := 35) hx hb dX8_hasIdOf_72 (by decide) ?_
                exact L35 z_17 _ _ hh_12 (by first | omega | (refine ⟨?_, ?_⟩ <;> (first | omega | rfl | assumption | decide | exact Or.inl rfl | exact Or.inr rfl | (simp only; omega)))) (by omega) _ (lv_sub hl [1, 2, 0] rfl)
              · skip
                have c_16' : z_14.toInt ≠ z_15.toInt := jb_eq_n (rfl) (rfl) c_16
                refine lv_iconst (v := 0) hx hb dX8_hasIdOf_67 (by decide) ?_
                rw [hQ]
                exact W.zret (v := 0) hx hb hr (jb_nz (Or.inl rfl)) (fun t ht hW => ⟨⟨0, (), rfl, ⟨(Or.inl rfl), trivial⟩, ⟨hh_12.rt (M1 := []) [] rfl ht, by rw [ht]; exact hh_12.2.2.2.2.2.2.2.2.sub (L1 := [(jFy, jYb dC dI G0)]) [0] rfl⟩⟩, by rw [ht]; try exact hh_12.1.1, fun q h9 hq => by rw [ht]; try exact hh_12.1.2.1 q h9 hq⟩) hh_12.1.2.2 dX8_hasIdOf_68
        exact L35 (1048577 - (0 : Int32).toInt : Int).toNat.succ 0 _ _ hh_10 (by first | omega | (refine ⟨?_, ?_⟩ <;> (first | omega | rfl | assumption | decide | exact Or.inl rfl | exact Or.inr rfl | (simp only; omega)))) (by omega) _ (lv_sub hl [1, 2, 0] rfl)
      · skip
        have c_11' : yc_7.toInt ≠ yc_9.toInt := jb_eq_n (rfl) (rfl) c_11
        refine lv_iconst (v := 0) hx hb dX8_hasIdOf_31 (by decide) ?_
        rw [hQ]
        exact W.zret (v := 0) hx hb hr (jb_nz (Or.inl rfl)) (fun t ht hW => ⟨⟨0, (), rfl, ⟨(Or.inl rfl), trivial⟩, ⟨hh_10.rt (M1 := []) [] rfl ht, by rw [ht]; exact hh_10.2.2.2.2.2.2.2.2.sub (L1 := [(jFy, jYb dC dI G0)]) [0] rfl⟩⟩, by rw [ht]; try exact hh_10.1.1, fun q h9 hq => by rw [ht]; try exact hh_10.1.2.1 q h9 hq⟩) hh_10.1.2.2 dX8_hasIdOf_32
end
section
def EJx4a65c_fastRemove_b59b0L1 : List (Nat × Nat) := [(1, 0), (1, 2), (221, 0)]
def EJx4a65c_remove_915e3L1 : List (Nat × Nat) := [(1, 0), (1, 2), (221, 0)]
set_option maxHeartbeats 4000000 in
set_option maxRecDepth 20000 in
theorem uJx4a65c_fastRemove_b59b0L1 (l : Launch) (dC : Nat → ClassId) (dI : Nat → Nat → Nat) (ca : Nat → ClassId) (base : Nat) (B : jF) (hB : jBok B) (hAp : jAp (dC, dI)) (hB1 : ∀ n G a H, B 1 n G a H ↔ jOb (dC, dI) 1 3 (F1 n G) a H) (hB3 : ∀ n G a H, B 3 n G a H ↔ jOb (dC, dI) 3 17 (F3 n G) a H) (hB221 : ∀ n G a H, B 221 n G a H ↔ jAq (dC, dI) (ca 9) (jQn 3 0) n G a H) (G0 : jT) (H0 : Heap) (r0 : Nat) (r1 : Nat) (a2 : Int32) (n1 : Nat) (lz : Int32) (wl : jWl9) : Met l yJx4a65c_fastRemove_b59b0 (jw yJx4a65c_fastRemove_b59b0 cJx4a65c_fastRemove_b59b0 4 none) ({ frames := 1, cells := 0, slots := 0, locals := 61 }) (va_Pc [.ref r0, .ref r1, .int a2] (fun U => U.heap = H0 ∧ jX B base G0 [] H0 ∧ jG dC dI ca base U ∧ jK7 dC dI ca base U ∧ G0 r0 = some (1, 1) ∧ G0 r1 = some (221, n1) ∧ jP (dC, dI) G0 H0 [(r0, 1, 1, .ref r1), (r0, 1, 2, .int lz)] ∧ jIs (dC, dI) G0 H0 [(jFl, jLs dC dI ca G0 3 none wl)] ∧ 0 ≤ a2.toInt ∧ a2.toInt < lz.toInt)) (va_Qv (S := Int32) (fun u => u.toInt = lz.toInt - 1) (fun u t => ((jRt (dC, dI) B base G0 EJx4a65c_fastRemove_b59b0L1 H0 [(r0, 1, 2, .int u)] t.heap) ∧ jOw (dC, dI) G0 1 r0 H0 t.heap) ∧ jIs (dC, dI) G0 t.heap [(jFl, jLs dC dI ca G0 3 none (wl.1 - 1, jRmv wl.2 (a2.toInt).toNat))]) (jA base)) 0 0 (jA base) := by
  refine Met.ofW (cc := cJx4a65c_fastRemove_b59b0) (maxL := 4) (ret := none) (by decide) rfl ?_
  intro p e s m args below meth c s₁ Bd hml hv
  obtain ⟨rfl, hH0, hX, hG, hK7, hg_r0, hg_r1, hP0, hI0, hp0, hp1⟩ := hv
  have hK := hG.1
  have hx := Bd.exec
  have hb := Bd.bytes
  have hr := Bd.returns
  have hts := atoms_spec (ws := (jw yJx4a65c_fastRemove_b59b0 cJx4a65c_fastRemove_b59b0 4 none)) Bd.pre
  have htw : ∀ w ∈ jWl, w.before _ s = true := fun w h => hts w (List.mem_cons_of_mem _ h)
  have hown : s.vm.findClass RJx4a65c = some m.cls := findClass_of_methodNamed Bd.named
  have hlocks := Bd.notSynchronized
  obtain ⟨Q, hQ⟩ : ∃ Q, Q = MQ below (va_Qv (S := Int32) (fun u => u.toInt = lz.toInt - 1) (fun u t => ((jRt (dC, dI) B base G0 EJx4a65c_fastRemove_b59b0L1 H0 [(r0, 1, 2, .int u)] t.heap) ∧ jOw (dC, dI) G0 1 r0 H0 t.heap) ∧ jIs (dC, dI) G0 t.heap [(jFl, jLs dC dI ca G0 3 none (wl.1 - 1, jRmv wl.2 (a2.toInt).toNat))]) (jA base)) ([.ref r0, .ref r1, .int a2] : List Value).toArray s 0 0 (jA base) := ⟨_, rfl⟩
  rw [← hQ]
  have hl := lv_entry ([.ref r0, .ref r1, .int a2]) (n := 4) (Nat.le_of_ble_eq_true rfl)
  rw [lg_entry_eq]
  generalize (lg_sl ([.ref r0, .ref r1, .int a2]) ++ List.replicate (4 - (lg_sl ([.ref r0, .ref r1, .int a2])).length) Slot.unset).toArray = ls at hl ⊢
  have hl : lv_has ls 4 [(0, .ref r0), (1, .ref r1), (2, .int a2)] := hl
  generalize hR : (headSpec (jw yJx4a65c_fastRemove_b59b0 cJx4a65c_fastRemove_b59b0 4 none) ({ frames := 1, cells := 0, slots := 0, locals := 61 })).room = R
  subst hH0
  have hh : jSt (dC, dI) B base G0 G0 EJx4a65c_fastRemove_b59b0L1 s.heap 0 0 [(r0, 1, 1, .ref r1), (r0, 1, 2, .int lz)] [] [(jFl, jLs dC dI ca G0 3 none wl)] s.heap [] := jSt.start hX hP0 jMc.nil hI0
  clear hX hP0
  have hk0 : (0 : Int32).toInt = 0 := by decide
  have hk1 : (1 : Int32).toInt = 1 := by decide
  have hly_1_0 := htw (u_lay RJx4a65c TJx4a65c 0) (jWc_wsJx4a65c0 _ (u_in_lay (by decide)))
  have hly_1_2 := htw (u_lay RJx4a65c TJx4a65c 2) (jWc_wsJx4a65c0 _ (u_in_lay (by decide)))
  have hlk_63 := (htw (.fieldLink RJx4a65c 63 "java/util/ArrayList" "modCount" "I") (jWr_33 _ (List.mem_of_getElem? (i := 11) rfl)))
  have hlk_48 := (htw (.fieldLink RJx4a65c 48 "java/util/ArrayList" "size" "I") (jWr_28 _ (List.mem_of_getElem? (i := 2) rfl)))
  have hrg_a2 := jb_rng a2
  have hh_1 := hh.addI (jOw.ie (dC := dC) (dI := dI) (G0 := G0) (k := 1) (r := r0) (H0 := s.heap) (F := [(1, 0), (1, 1), (1, 2)]) (C := RJx4a65c) (T := TJx4a65c) (N := 3) rfl (by decide) hh.2.2.2.2.1 (jOw.rf))
  clear hh
  obtain ⟨lz_2, lx_2, hl1_2, hl2_2, hl3_2, hl4_2⟩ := jLs.at (hh_1.iv 1 rfl) hg_r0
  obtain rfl : lz = lz_2 := Value.int.inj (jf.uniq (hh_1.at 1 rfl) hl1_2)
  have hl3_2 : 0 ≤ lz.toInt ∧ lz.toInt ≤ 3 := hl3_2
  obtain rfl : r1 = lx_2 := Value.ref.inj (jf.uniq (hh_1.at 0 rfl) hl2_2)
  rcases hl4_2 with ⟨hl9_2, hl5_2, hl0_2⟩ | ⟨lm_2, lf_2, hg_lx_2, hlm_2, hl6_2, hl7_2, hl8_2, hlw_2⟩
  · skip
    exact (by omega : False).elim
  · skip
    obtain rfl : n1 = lm_2 := by have h9 := Option.some.inj (hg_r1.symm.trans hg_lx_2); exact congrArg Prod.snd h9
    have hd_3 := jLs.less (hh_1.iv 1 rfl) r0
    have hh_4 := hh_1.sub (L1 := [(r0, 1, 1, .ref r1), (r0, 1, 2, .int lz)]) [0, 1] rfl (M1 := []) [] rfl (I1 := [([(1, 0), (1, 1), (1, 2)], jOw (dC, dI) G0 1 r0 s.heap)]) [0] rfl
    clear hh_1
    have hh_5 := hh_4.addI (jLs.ie hd_3)
    clear hh_4
    have hh_6 := hh_5.addI (jQc.ie hl7_2 hg_lx_2 (by decide) (by decide))
    clear hh_5
    refine lv_aload_n hx hb dJx4a65c_fastRemove_b59b0_0 rfl (lv_at hl 0 rfl) ?_
    refine lv_dup hx hb dJx4a65c_fastRemove_b59b0_1 rfl ?_
    obtain ⟨v_7, hv_7, hh_8⟩ := hh_6.pin (C := RJx4a65c) (T := TJx4a65c) (N := 3) hB1 rfl (by decide) hg_r0 (i := 0) (by decide) rfl
    clear hh_6
    obtain ⟨modCount_9, rfl⟩ := hv_7
    refine j7_readS hx hb hown hK (C := RJx4a65c) (T := TJx4a65c) (N := 3) rfl hly_1_0 hlk_63 (htw (.sameField "java/util/ArrayList" "java/util/AbstractList" "modCount" "I") (jWr_33 _ (List.mem_of_getElem? (i := 12) rfl))) (hh_8.at 0 rfl) dJx4a65c_fastRemove_b59b0_2 ?_
    refine lv_iconst (v := 1) hx hb dJx4a65c_fastRemove_b59b0_5 (by decide) ?_
    refine lv_iadd hx hb dJx4a65c_fastRemove_b59b0_6 ?_
    refine lv_topi (fun z_10 ez_10 => ?_)
    have hd_12 := hh_8.iv 2 rfl
    have hh_13 := hh_8.sub (L1 := [(r0, 1, 0, .int modCount_9), (r0, 1, 1, .ref r1), (r0, 1, 2, .int lz)]) [0, 1, 2] rfl (M1 := []) [] rfl (I1 := [([(221, 0)], jQc dC dI (ca 9) r1 n1 lf_2), (jFl, jLs dC dI ca G0 3 (some r0) wl)]) [0, 1] rfl
    clear hh_8
    refine j7_putS hx hb hown hK hh_13 hB hAp hB1 (C := RJx4a65c) (T := TJx4a65c) (N := 3) rfl (by decide) hg_r0 (i := 0) (by decide) hly_1_0 rfl hlk_63 (htw (.sameField "java/util/ArrayList" "java/util/AbstractList" "modCount" "I") (jWr_33 _ (List.mem_of_getElem? (i := 12) rfl))) rfl (ty := .int) (v := .int z_10) (by decide +kernel) rfl rfl (⟨_, rfl⟩) rfl (L1 := [(r0, 1, 1, .ref r1), (r0, 1, 2, .int lz)]) [1, 2] rfl rfl rfl dJx4a65c_fastRemove_b59b0_7 (fun H_11 locs_11 hr_11 hh_11 => ?_)
    clear hh_13
    have hd_12n := jOw.put hd_12 hr_11
    have hh_14 := hh_11.addI (jOw.ie (dC := dC) (dI := dI) (G0 := G0) (k := 1) (r := r0) (H0 := s.heap) (F := [(1, 0), (1, 1), (1, 2)]) (C := RJx4a65c) (T := TJx4a65c) (N := 3) rfl (by decide) hh_11.2.2.2.2.1 (hd_12n))
    clear hh_11
    clear hd_12 hd_12n
    clear hr_11
    refine lv_aload_n hx hb dJx4a65c_fastRemove_b59b0_10 rfl (lv_at hl 0 rfl) ?_
    refine j7_read hx hb hown hK (C := RJx4a65c) (T := TJx4a65c) (N := 3) rfl hly_1_2 hlk_48 (hh_14.at 2 rfl) dJx4a65c_fastRemove_b59b0_11 ?_
    refine lv_iconst (v := 1) hx hb dJx4a65c_fastRemove_b59b0_14 (by decide) ?_
    refine lv_isub hx hb dJx4a65c_fastRemove_b59b0_15 ?_
    refine lv_topi (fun z_15 ez_15 => ?_)
    have hz_15 : z_15.toInt = lz.toInt - 1 := by rw [ez_15]; exact jb_isub2 (rfl) ((by decide)) (by omega)
    refine lv_dup hx hb dJx4a65c_fastRemove_b59b0_16 rfl ?_
    refine lv_istore_n (lv' := [(3, .int z_15), (0, .ref r0), (1, .ref r1), (2, .int a2)]) hx hb dJx4a65c_fastRemove_b59b0_17 rfl hl (by decide) rfl (fun ls hl => ?_)
    refine lv_iload_n hx hb dJx4a65c_fastRemove_b59b0_18 rfl (lv_at hl 3 rfl) ?_
    refine lv_icmp_le (tgt := 34) hx hb dJx4a65c_fastRemove_b59b0_19 (by decide) (fun c_16 => ?_) (fun c_16 => ?_)
    · skip
      have c_16' : z_15.toInt ≤ a2.toInt := jb_le (rfl) (rfl) c_16
      refine lv_aload_n hx hb dJx4a65c_fastRemove_b59b0_34 rfl (lv_at hl 2 rfl) ?_
      refine lv_aload_n hx hb dJx4a65c_fastRemove_b59b0_35 rfl (lv_at hl 1 rfl) ?_
      refine lv_iload_n hx hb dJx4a65c_fastRemove_b59b0_36 rfl (lv_at hl 0 rfl) ?_
      refine lv_dup_x1 hx hb dJx4a65c_fastRemove_b59b0_37 rfl rfl ?_
      have hd_18 := hh_14.iv 0 rfl
      have hh_19 := hh_14.sub (L1 := [(r0, 1, 0, .int z_10), (r0, 1, 1, .ref r1), (r0, 1, 2, .int lz)]) [0, 1, 2] rfl (M1 := []) [] rfl (I1 := [([(221, 0)], jQc dC dI (ca 9) r1 n1 lf_2), (jFl, jLs dC dI ca G0 3 (some r0) wl)]) [1, 2] rfl
      clear hh_14
      have hd_20 := hh_19.iv 1 rfl
      have hh_21 := hh_19.sub (L1 := [(r0, 1, 0, .int z_10), (r0, 1, 1, .ref r1), (r0, 1, 2, .int lz)]) [0, 1, 2] rfl (M1 := []) [] rfl (I1 := [([(221, 0)], jQc dC dI (ca 9) r1 n1 lf_2)]) [0] rfl
      clear hh_19
      refine j7_putX hx hb hown hK hh_21 hB hAp hB1 (C := RJx4a65c) (T := TJx4a65c) (N := 3) rfl (by decide) hg_r0 (i := 2) (by decide) hly_1_2 rfl hlk_48 rfl (ty := .int) (v := .int z_15) (by decide +kernel) rfl rfl (⟨_, rfl, by omega, by omega⟩) rfl (L1 := [(r0, 1, 0, .int z_10), (r0, 1, 1, .ref r1)]) [0, 1] rfl rfl rfl dJx4a65c_fastRemove_b59b0_38 (fun H_17 locs_17 hr_17 hh_17 => ?_)
      clear hh_21
      have hd_20n := jLs.fld hd_20 hg_r0 hr_17
      have hh_22 := hh_17.addI (jLs.ie hd_20n)
      clear hh_17
      have hd_18n := jOw.put hd_18 hr_17
      have hh_23 := hh_22.addI (jOw.ie (dC := dC) (dI := dI) (G0 := G0) (k := 1) (r := r0) (H0 := s.heap) (F := [(1, 0), (1, 1), (1, 2)]) (C := RJx4a65c) (T := TJx4a65c) (N := 3) rfl (by decide) hh_22.2.2.2.2.1 (hd_18n))
      clear hh_22
      clear hd_18 hd_18n
      clear hd_20 hd_20n hr_17
      refine lv_null hx hb dJx4a65c_fastRemove_b59b0_41 ?_
      have hd_25 := hh_23.iv 2 rfl
      have hd_26 := hh_23.iv 1 rfl
      have hh_28 := hh_23.sub (L1 := [(r0, 1, 2, .int z_15), (r0, 1, 0, .int z_10), (r0, 1, 1, .ref r1)]) [0, 1, 2] rfl (M1 := []) [] rfl (I1 := [([(1, 0), (1, 1), (1, 2)], jOw (dC, dI) G0 1 r0 s.heap)]) [0] rfl
      clear hh_23
      refine j7_qastNO hx hb hK7.1 hh_28 hB hB221 0 rfl (by decide) (by decide) rfl rfl rfl hg_r1 (x := z_15.toInt) (rfl) (by omega) (Or.inl rfl) hd_25 dJx4a65c_fastRemove_b59b0_42 (fun H_24 locs_24 fq_27 hv_24 ho_24 hq_24 hr_24 hh_24 => ?_)
      clear hh_28
      have hd_26n := jLs.arr hd_26 hg_r0 hg_r1 hr_24
      have hh_29 := hh_24.addI (jLs.ie hd_26n)
      clear hh_24
      have hh_30 := hh_29.addI (hq_24.ie hg_r1 (by decide) (by decide))
      clear hh_29
      clear hd_25 hd_26 hd_26n hr_24
      have hd_31 := jLs.full (wn := (wl.1 - 1, jRmv wl.2 (a2.toInt).toNat)) (hh_30.iv 1 rfl) hg_r0 ⟨_, _, hh_30.at 0 rfl, hh_30.at 2 rfl, ⟨by omega, (show _ ≤ (3 : Int) by omega)⟩, Or.inr ⟨_, _, hg_r1, by omega, by omega, hh_30.iv 0 rfl, by first | exact jRm.copy hl8_2 (by omega) (by omega) (zz_none) (by omega) (by omega) (by omega) ho_24 | exact jRm.last hl8_2 (by omega) (by omega) ho_24, by first | exact jWk.copy hlw_2 (by omega) (by omega) (zz_none) (by omega) (by omega) (by omega) ho_24 | exact jWk.last hlw_2 (by omega) (by omega) (by omega) ho_24⟩⟩ (fun q => absurd rfl q)
      have hh_32 := hh_30.sub (L1 := [(r0, 1, 2, .int z_15), (r0, 1, 0, .int z_10), (r0, 1, 1, .ref r1)]) [0, 1, 2] rfl (M1 := []) [] rfl (I1 := [([(221, 0)], jQc dC dI (ca 9) r1 n1 fq_27), ([(1, 0), (1, 1), (1, 2)], jOw (dC, dI) G0 1 r0 s.heap)]) [0, 2] rfl
      clear hh_30
      have hh_33 := hh_32.addI (jLs.ie hd_31)
      clear hh_32
      rw [hQ]
      exact W.vret hx hb hr (fun t ht hW => ⟨⟨z_15, rfl, by first | omega | rfl | assumption | decide | exact Or.inl rfl | exact Or.inr rfl | (simp only; omega), ⟨⟨hh_33.rt (M1 := [(r0, 1, 2, .int z_15)]) [0] rfl ht, by rw [ht]; exact hh_33.iv 2 rfl⟩, by rw [ht]; exact hh_33.2.2.2.2.2.2.2.2.sub (L1 := [(jFl, jLs dC dI ca G0 3 none (wl.1 - 1, jRmv wl.2 (a2.toInt).toNat))]) [0] rfl⟩⟩, by rw [ht]; try exact hh_33.1.1, fun q h9 hq => by rw [ht]; try exact hh_33.1.2.1 q h9 hq⟩) hh_33.1.2.2 dJx4a65c_fastRemove_b59b0_43
    · skip
      have c_16' : z_15.toInt > a2.toInt := jb_le_n (rfl) (rfl) c_16
      refine lv_aload_n hx hb dJx4a65c_fastRemove_b59b0_22 rfl (lv_at hl 2 rfl) ?_
      refine lv_iload_n hx hb dJx4a65c_fastRemove_b59b0_23 rfl (lv_at hl 3 rfl) ?_
      refine lv_iconst (v := 1) hx hb dJx4a65c_fastRemove_b59b0_24 (by decide) ?_
      refine lv_iadd hx hb dJx4a65c_fastRemove_b59b0_25 ?_
      refine lv_topi (fun z_34 ez_34 => ?_)
      have hz_34 : z_34.toInt = a2.toInt + 1 := by rw [ez_34]; exact jb_iadd2 (rfl) ((by decide)) (by omega)
      refine lv_aload_n hx hb dJx4a65c_fastRemove_b59b0_26 rfl (lv_at hl 2 rfl) ?_
      refine lv_iload_n hx hb dJx4a65c_fastRemove_b59b0_27 rfl (lv_at hl 3 rfl) ?_
      refine lv_iload_n hx hb dJx4a65c_fastRemove_b59b0_28 rfl (lv_at hl 0 rfl) ?_
      refine lv_iload_n hx hb dJx4a65c_fastRemove_b59b0_29 rfl (lv_at hl 3 rfl) ?_
      refine lv_isub hx hb dJx4a65c_fastRemove_b59b0_30 ?_
      refine lv_topi (fun z_35 ez_35 => ?_)
      have hz_35 : z_35.toInt = z_15.toInt - a2.toInt := by rw [ez_35]; exact jb_isub2 (rfl) (rfl) (by omega)
      have hd_37 := hh_14.iv 1 rfl
      have hd_38 := hh_14.iv 1 rfl
      have hd_39 := hh_14.iv 2 rfl
      have hh_41 := hh_14.sub (L1 := [(r0, 1, 0, .int z_10), (r0, 1, 1, .ref r1), (r0, 1, 2, .int lz)]) [0, 1, 2] rfl (M1 := []) [] rfl (I1 := [([(1, 0), (1, 1), (1, 2)], jOw (dC, dI) G0 1 r0 s.heap)]) [0] rfl
      clear hh_14
      refine j7_qcopy hx hb (by rw [hml]; exact hl.1.symm) hown (htw (.methodLink RJx4a65c 112 arraycopyName) (jWr_42 _ (List.mem_of_getElem? (i := 15) rfl))) (htw (.native arraycopyName) (jWr_16 _ (List.mem_of_getElem? (i := 19) rfl))) (htw (.static arraycopyName) (jWr_16 _ (List.mem_of_getElem? (i := 20) rfl))) (htw (.initialized "java/lang/System") (jWr_16 _ (List.mem_of_getElem? (i := 21) rfl))) hK hK7.1 hh_41 hB hB221 0 rfl (by decide) (by decide) rfl rfl rfl hg_r1 hg_r1 hd_38 hd_37 hB3 (T := TX1) (N := 17) rfl (by decide) hK7.2.2.1.1.1 (x := z_34.toInt) (y := a2.toInt) (z := z_35.toInt) rfl rfl rfl (by omega) (by rw [← hR]; exact Nat.le_of_ble_eq_true rfl) (by rw [← hR]; exact Nat.le_of_ble_eq_true rfl) dJx4a65c_fastRemove_b59b0_31 (fun H_36 locs_36 fq_40 hc_36 hq_36 hr_36 hh_36 => ?_)
      clear hh_41
      have hd_39n := jLs.arr hd_39 hg_r0 hg_r1 hr_36
      have hh_42 := hh_36.addI (jLs.ie hd_39n)
      clear hh_36
      have hh_43 := hh_42.addI (hq_36.ie hg_r1 (by decide) (by decide))
      clear hh_42
      refine lv_aload_n hx hb dJx4a65c_fastRemove_b59b0_34 rfl (lv_at hl 2 rfl) ?_
      refine lv_aload_n hx hb dJx4a65c_fastRemove_b59b0_35 rfl (lv_at hl 1 rfl) ?_
      refine lv_iload_n hx hb dJx4a65c_fastRemove_b59b0_36 rfl (lv_at hl 0 rfl) ?_
      refine lv_dup_x1 hx hb dJx4a65c_fastRemove_b59b0_37 rfl rfl ?_
      have hd_45 := hh_43.iv 2 rfl
      have hh_46 := hh_43.sub (L1 := [(r0, 1, 0, .int z_10), (r0, 1, 1, .ref r1), (r0, 1, 2, .int lz)]) [0, 1, 2] rfl (M1 := []) [] rfl (I1 := [([(221, 0)], jQc dC dI (ca 9) r1 n1 fq_40), (jFl, jLs dC dI ca G0 3 (some r0) wl)]) [0, 1] rfl
      clear hh_43
      have hd_47 := hh_46.iv 1 rfl
      have hh_48 := hh_46.sub (L1 := [(r0, 1, 0, .int z_10), (r0, 1, 1, .ref r1), (r0, 1, 2, .int lz)]) [0, 1, 2] rfl (M1 := []) [] rfl (I1 := [([(221, 0)], jQc dC dI (ca 9) r1 n1 fq_40)]) [0] rfl
      clear hh_46
      refine j7_putX hx hb hown hK hh_48 hB hAp hB1 (C := RJx4a65c) (T := TJx4a65c) (N := 3) rfl (by decide) hg_r0 (i := 2) (by decide) hly_1_2 rfl hlk_48 rfl (ty := .int) (v := .int z_15) (by decide +kernel) rfl rfl (⟨_, rfl, by omega, by omega⟩) rfl (L1 := [(r0, 1, 0, .int z_10), (r0, 1, 1, .ref r1)]) [0, 1] rfl rfl rfl dJx4a65c_fastRemove_b59b0_38 (fun H_44 locs_44 hr_44 hh_44 => ?_)
      clear hh_48
      have hd_47n := jLs.fld hd_47 hg_r0 hr_44
      have hh_49 := hh_44.addI (jLs.ie hd_47n)
      clear hh_44
      have hd_45n := jOw.put hd_45 hr_44
      have hh_50 := hh_49.addI (jOw.ie (dC := dC) (dI := dI) (G0 := G0) (k := 1) (r := r0) (H0 := s.heap) (F := [(1, 0), (1, 1), (1, 2)]) (C := RJx4a65c) (T := TJx4a65c) (N := 3) rfl (by decide) hh_49.2.2.2.2.1 (hd_45n))
      clear hh_49
      clear hd_45 hd_45n
      clear hd_47 hd_47n hr_44
      refine lv_null hx hb dJx4a65c_fastRemove_b59b0_41 ?_
      have hd_52 := hh_50.iv 2 rfl
      have hd_53 := hh_50.iv 1 rfl
      have hh_55 := hh_50.sub (L1 := [(r0, 1, 2, .int z_15), (r0, 1, 0, .int z_10), (r0, 1, 1, .ref r1)]) [0, 1, 2] rfl (M1 := []) [] rfl (I1 := [([(1, 0), (1, 1), (1, 2)], jOw (dC, dI) G0 1 r0 s.heap)]) [0] rfl
      clear hh_50
      refine j7_qastNO hx hb hK7.1 hh_55 hB hB221 0 rfl (by decide) (by decide) rfl rfl rfl hg_r1 (x := z_15.toInt) (rfl) (by omega) (Or.inl rfl) hd_52 dJx4a65c_fastRemove_b59b0_42 (fun H_51 locs_51 fq_54 hv_51 ho_51 hq_51 hr_51 hh_51 => ?_)
      clear hh_55
      have hd_53n := jLs.arr hd_53 hg_r0 hg_r1 hr_51
      have hh_56 := hh_51.addI (jLs.ie hd_53n)
      clear hh_51
      have hh_57 := hh_56.addI (hq_51.ie hg_r1 (by decide) (by decide))
      clear hh_56
      clear hd_52 hd_53 hd_53n hr_51
      have hd_58 := jLs.full (wn := (wl.1 - 1, jRmv wl.2 (a2.toInt).toNat)) (hh_57.iv 1 rfl) hg_r0 ⟨_, _, hh_57.at 0 rfl, hh_57.at 2 rfl, ⟨by omega, (show _ ≤ (3 : Int) by omega)⟩, Or.inr ⟨_, _, hg_r1, by omega, by omega, hh_57.iv 0 rfl, by first | exact jRm.copy hl8_2 (by omega) (by omega) hc_36 (by omega) (by omega) (by omega) ho_51 | exact jRm.last hl8_2 (by omega) (by omega) ho_51, by first | exact jWk.copy hlw_2 (by omega) (by omega) hc_36 (by omega) (by omega) (by omega) ho_51 | exact jWk.last hlw_2 (by omega) (by omega) (by omega) ho_51⟩⟩ (fun q => absurd rfl q)
      have hh_59 := hh_57.sub (L1 := [(r0, 1, 2, .int z_15), (r0, 1, 0, .int z_10), (r0, 1, 1, .ref r1)]) [0, 1, 2] rfl (M1 := []) [] rfl (I1 := [([(221, 0)], jQc dC dI (ca 9) r1 n1 fq_54), ([(1, 0), (1, 1), (1, 2)], jOw (dC, dI) G0 1 r0 s.heap)]) [0, 2] rfl
      clear hh_57
      have hh_60 := hh_59.addI (jLs.ie hd_58)
      clear hh_59
      rw [hQ]
      exact W.vret hx hb hr (fun t ht hW => ⟨⟨z_15, rfl, by first | omega | rfl | assumption | decide | exact Or.inl rfl | exact Or.inr rfl | (simp only; omega), ⟨⟨hh_60.rt (M1 := [(r0, 1, 2, .int z_15)]) [0] rfl ht, by rw [ht]; exact hh_60.iv 2 rfl⟩, by rw [ht]; exact hh_60.2.2.2.2.2.2.2.2.sub (L1 := [(jFl, jLs dC dI ca G0 3 none (wl.1 - 1, jRmv wl.2 (a2.toInt).toNat))]) [0] rfl⟩⟩, by rw [ht]; try exact hh_60.1.1, fun q h9 hq => by rw [ht]; try exact hh_60.1.2.1 q h9 hq⟩) hh_60.1.2.2 dJx4a65c_fastRemove_b59b0_43
set_option maxHeartbeats 4000000 in
set_option maxRecDepth 20000 in
theorem uJx4a65c_remove_915e3L1 (l : Launch) (dC : Nat → ClassId) (dI : Nat → Nat → Nat) (ca : Nat → ClassId) (base : Nat) (B : jF) (hB : jBok B) (hAp : jAp (dC, dI)) (hB1 : ∀ n G a H, B 1 n G a H ↔ jOb (dC, dI) 1 3 (F1 n G) a H) (hB3 : ∀ n G a H, B 3 n G a H ↔ jOb (dC, dI) 3 17 (F3 n G) a H) (hB221 : ∀ n G a H, B 221 n G a H ↔ jAq (dC, dI) (ca 9) (jQn 3 0) n G a H) (G0 : jT) (H0 : Heap) (r0 : Nat) (a1 : Int32) (lz : Int32) (wl : jWl9) : Met l yJx4a65c_remove_915e3 (jw yJx4a65c_remove_915e3 cJx4a65c_remove_915e3 4 (some (.object "java/lang/Object"))) ({ frames := 2, cells := 0, slots := 0, locals := 84 }) (va_Pc [.ref r0, .int a1] (fun U => U.heap = H0 ∧ jX B base G0 [] H0 ∧ jG dC dI ca base U ∧ jK7 dC dI ca base U ∧ G0 r0 = some (1, 1) ∧ jP (dC, dI) G0 H0 [(r0, 1, 2, .int lz)] ∧ jIs (dC, dI) G0 H0 [(jFl, jLs dC dI ca G0 3 none wl)] ∧ 0 ≤ a1.toInt ∧ a1.toInt < lz.toInt)) (jQx (S := Int32) (fun v u => jRf G0 3 0 v ∧ u.toInt = lz.toInt - 1) (fun u t => ((jRt (dC, dI) B base G0 EJx4a65c_remove_915e3L1 H0 [(r0, 1, 2, .int u)] t.heap) ∧ jOw (dC, dI) G0 1 r0 H0 t.heap) ∧ jIs (dC, dI) G0 t.heap [(jFl, jLs dC dI ca G0 3 none (wl.1 - 1, jRmv wl.2 (a1.toInt).toNat))]) (jA base)) 0 0 (jA base) := by
  refine Met.ofW (cc := cJx4a65c_remove_915e3) (maxL := 4) (ret := (some (.object "java/lang/Object"))) (by decide) rfl ?_
  intro p e s m args below meth c s₁ Bd hml hv
  obtain ⟨rfl, hH0, hX, hG, hK7, hg_r0, hP0, hI0, hp0, hp1⟩ := hv
  have hK := hG.1
  have hx := Bd.exec
  have hb := Bd.bytes
  have hr := Bd.returns
  have hts := atoms_spec (ws := (jw yJx4a65c_remove_915e3 cJx4a65c_remove_915e3 4 (some (.object "java/lang/Object")))) Bd.pre
  have htw : ∀ w ∈ jWl, w.before _ s = true := fun w h => hts w (List.mem_cons_of_mem _ h)
  have hown : s.vm.findClass RJx4a65c = some m.cls := findClass_of_methodNamed Bd.named
  have hlocks := Bd.notSynchronized
  obtain ⟨Q, hQ⟩ : ∃ Q, Q = MQ below (jQx (S := Int32) (fun v u => jRf G0 3 0 v ∧ u.toInt = lz.toInt - 1) (fun u t => ((jRt (dC, dI) B base G0 EJx4a65c_remove_915e3L1 H0 [(r0, 1, 2, .int u)] t.heap) ∧ jOw (dC, dI) G0 1 r0 H0 t.heap) ∧ jIs (dC, dI) G0 t.heap [(jFl, jLs dC dI ca G0 3 none (wl.1 - 1, jRmv wl.2 (a1.toInt).toNat))]) (jA base)) ([.ref r0, .int a1] : List Value).toArray s 0 0 (jA base) := ⟨_, rfl⟩
  rw [← hQ]
  have hl := lv_entry ([.ref r0, .int a1]) (n := 4) (Nat.le_of_ble_eq_true rfl)
  rw [lg_entry_eq]
  generalize (lg_sl ([.ref r0, .int a1]) ++ List.replicate (4 - (lg_sl ([.ref r0, .int a1])).length) Slot.unset).toArray = ls at hl ⊢
  have hl : lv_has ls 4 [(0, .ref r0), (1, .int a1)] := hl
  generalize hR : (headSpec (jw yJx4a65c_remove_915e3 cJx4a65c_remove_915e3 4 (some (.object "java/lang/Object"))) ({ frames := 2, cells := 0, slots := 0, locals := 84 })).room = R
  subst hH0
  have hh : jSt (dC, dI) B base G0 G0 EJx4a65c_remove_915e3L1 s.heap 0 0 [(r0, 1, 2, .int lz)] [] [(jFl, jLs dC dI ca G0 3 none wl)] s.heap [] := jSt.start hX hP0 jMc.nil hI0
  clear hX hP0
  have hk0 : (0 : Int32).toInt = 0 := by decide
  have hk1 : (1 : Int32).toInt = 1 := by decide
  have hly_1_1 := htw (u_lay RJx4a65c TJx4a65c 1) (jWc_wsJx4a65c0 _ (u_in_lay (by decide)))
  have hly_1_2 := htw (u_lay RJx4a65c TJx4a65c 2) (jWc_wsJx4a65c0 _ (u_in_lay (by decide)))
  have hlk_48 := (htw (.fieldLink RJx4a65c 48 "java/util/ArrayList" "size" "I") (jWr_28 _ (List.mem_of_getElem? (i := 2) rfl)))
  have hlk_9 := (htw (.fieldLink RJx4a65c 9 "java/util/ArrayList" "elementData" "[Ljava/lang/Object;") (jWr_9 _ (List.mem_of_getElem? (i := 15) rfl)))
  have hrg_a1 := jb_rng a1
  have hh_1 := hh.addI (jOw.ie (dC := dC) (dI := dI) (G0 := G0) (k := 1) (r := r0) (H0 := s.heap) (F := [(1, 0), (1, 1), (1, 2)]) (C := RJx4a65c) (T := TJx4a65c) (N := 3) rfl (by decide) hh.2.2.2.2.1 (jOw.rf))
  clear hh
  obtain ⟨lz_2, lx_2, hl1_2, hl2_2, hl3_2, hl4_2⟩ := jLs.at (hh_1.iv 1 rfl) hg_r0
  obtain rfl : lz = lz_2 := Value.int.inj (jf.uniq (hh_1.at 0 rfl) hl1_2)
  have hl3_2 : 0 ≤ lz.toInt ∧ lz.toInt ≤ 3 := hl3_2
  rcases hl4_2 with ⟨rfl, hl5_2, hl0_2⟩ | ⟨lm_2, lf_2, hg_lx_2, hlm_2, hl6_2, hl7_2, hl8_2, hlw_2⟩
  · skip
    exact (by omega : False).elim
  · skip
    have hh_3 := hh_1.more (P1 := [(r0, 1, 1, .ref lx_2)]) (jP.cons hg_r0 hl2_2 jP.nil)
    clear hh_1
    have hh_4 := hh_3.addI (jQc.ie hl7_2 hg_lx_2 (by decide) (by decide))
    clear hh_3
    refine lv_iload_n hx hb dJx4a65c_remove_915e3_0 rfl (lv_at hl 1 rfl) ?_
    refine lv_aload_n hx hb dJx4a65c_remove_915e3_1 rfl (lv_at hl 0 rfl) ?_
    refine j7_read hx hb hown hK (C := RJx4a65c) (T := TJx4a65c) (N := 3) rfl hly_1_2 hlk_48 (hh_4.at 1 rfl) dJx4a65c_remove_915e3_2 ?_
    refine va_calli (A0 := jA base) (H0 := s.heap) (va_runS (As := [.int a1, .int lz]) (rest := []) ⟨hx, hb, hml, hown, hts⟩ (uJ15_checkIndex_7cf53 l dC dI ca base B hB hAp G0 s.heap a1 lz) (va_cwS 2 hts (jgS (jWr_28 _ (List.mem_of_getElem? (i := 7) rfl)) (jWr_28 _ (List.mem_of_getElem? (i := 8) rfl)) (jWr_28 _ (List.mem_of_getElem? (i := 9) rfl)) (jWr_28 _ (List.mem_of_getElem? (i := 10) rfl))) rfl rfl rfl (by decide +kernel) ⟨by rw [← hR]; exact Nat.le_of_ble_eq_true rfl, by rw [← hR]; exact Nat.le_of_ble_eq_true rfl⟩) ⟨fun a U g mk q => by obtain ⟨q0, q1, q2, qK, q10, q11⟩ := q; exact ⟨q0, q1, q2, jG.calling g mk a qK, q10, q11⟩, fun U hU hW => ⟨rfl, hU, hh_4.2.1, hG.step hW hU hh_4.1, jP.nil, by first | omega | (refine ⟨?_, ?_⟩ <;> (first | omega | rfl | assumption | decide | exact Or.inl rfl | exact Or.inr rfl | (simp only; omega)))⟩⟩ rfl rfl hl.1 rfl (lv_room (Nat.le_of_ble_eq_true rfl)) dJx4a65c_remove_915e3_5 ⟨Nat.zero_le _, Nat.zero_le _⟩) hh_4.1 (fun q _ h => h) (fun q h => h) (fun r_6 u_5 t_5 H_5 locs_5 ht_5 hvm_5 hr_6 hb_5 hz_5 hk_5 hS_5 => ?_)
    rw [ht_5] at hb_5
    obtain ⟨hb_51, hb_52, hb_53, hb_54, hb_55⟩ := hb_5
    have hh_5 : jSt (dC, dI) B base G0 G0 EJx4a65c_remove_915e3L1 s.heap 0 0 [(r0, 1, 1, .ref lx_2), (r0, 1, 2, .int lz)] [] [([(221, 0)], jQc dC dI (ca 9) lx_2 lm_2 lf_2), ([(1, 0), (1, 1), (1, 2)], jOw (dC, dI) G0 1 r0 s.heap), (jFl, jLs dC dI ca G0 3 none wl)] H_5 locs_5 := ((hh_4.call hb_51 hb_52 hb_53 hb_54 hS_5 rfl (L1 := [(r0, 1, 1, .ref lx_2), (r0, 1, 2, .int lz)]) [0, 1] rfl rfl (M1 := []) [] rfl rfl (I1 := [([(221, 0)], jQc dC dI (ca 9) lx_2 lm_2 lf_2), ([(1, 0), (1, 1), (1, 2)], jOw (dC, dI) G0 1 r0 s.heap), (jFl, jLs dC dI ca G0 3 none wl)]) [0, 1, 2] rfl rfl).more hb_55)
    clear hh_4 ht_5 hvm_5 hz_5 hk_5 hS_5 hb_51 hb_52 hb_53 hb_54 hb_55
    refine lv_pop hx hb dJx4a65c_remove_915e3_8 rfl ?_
    refine lv_aload_n hx hb dJx4a65c_remove_915e3_9 rfl (lv_at hl 0 rfl) ?_
    refine j7_read hx hb hown hK (C := RJx4a65c) (T := TJx4a65c) (N := 3) rfl hly_1_1 hlk_9 (hh_5.at 0 rfl) dJx4a65c_remove_915e3_10 ?_
    refine lv_astore_n (lv' := [(2, .ref lx_2), (0, .ref r0), (1, .int a1)]) hx hb dJx4a65c_remove_915e3_13 rfl hl (by decide) rfl (fun ls hl => ?_)
    refine lv_aload_n hx hb dJx4a65c_remove_915e3_14 rfl (lv_at hl 0 rfl) ?_
    refine lv_iload_n hx hb dJx4a65c_remove_915e3_15 rfl (lv_at hl 2 rfl) ?_
    refine j7_qaldI hx hb hK7.1 hh_5 hB221 0 rfl (by decide) hg_lx_2 (x := a1.toInt) (rfl) (by omega) (hh_5.iv 0 rfl) dJx4a65c_remove_915e3_16 (fun o_7 ho_7 heo_7 => ?_)
    rcases ho_7 with rfl | ⟨el_8, rfl, hg_el_8⟩
    · simp only [va_rf]
      exact absurd heo_7.symm (hl8_2 _ (by omega))
    · simp only [va_rf]
      refine lv_astore_n (lv' := [(3, .ref el_8), (2, .ref lx_2), (0, .ref r0), (1, .int a1)]) hx hb dJx4a65c_remove_915e3_17 rfl hl (by decide) rfl (fun ls hl => ?_)
      refine lv_aload_n hx hb dJx4a65c_remove_915e3_18 rfl (lv_at hl 2 rfl) ?_
      refine lv_aload_n hx hb dJx4a65c_remove_915e3_19 rfl (lv_at hl 1 rfl) ?_
      refine lv_iload_n hx hb dJx4a65c_remove_915e3_20 rfl (lv_at hl 3 rfl) ?_
      refine va_callv (A0 := jA base) (H0 := s.heap) (va_runV (As := [.ref lx_2, .int a1]) (rest := []) ⟨hx, hb, hml, hown, hts⟩ (uJx4a65c_fastRemove_b59b0L1 l dC dI ca base B hB hAp hB1 hB3 hB221 G0 H_5 r0 lx_2 a1 lm_2 lz wl) (cwV 2 hts (jgV (jWr_42 _ (List.mem_of_getElem? (i := 11) rfl)) (jWr_42 _ (List.mem_of_getElem? (i := 12) rfl)) (jWr_42 _ (List.mem_of_getElem? (i := 13) rfl)) (jWr_2 _ (List.mem_of_getElem? (i := 13) rfl)) (jWr_42 _ (List.mem_of_getElem? (i := 14) rfl))) rfl rfl rfl (by decide +kernel) ⟨by rw [← hR]; exact Nat.le_of_ble_eq_true rfl, by rw [← hR]; exact Nat.le_of_ble_eq_true rfl⟩) ⟨fun a U g mk q => by obtain ⟨q0, q1, q2, qK, q10, q11, q12, q13, q14, q15⟩ := q; exact ⟨q0, q1, q2, jG.calling g mk a qK, (jK7.calling g mk a q10), q11, q12, q13, q14, q15⟩, hh_5.recv (C := RJx4a65c) (T := TJx4a65c) (N := 3) hB1 rfl (by decide) hg_r0 hK, fun U hU hW => ⟨rfl, hU, hh_5.2.1, hG.step hW hU hh_5.1, (hK7.step hW hU hh_5.1), hg_r0, hg_lx_2, (hh_5.2.2.1.sub (L1 := [(r0, 1, 1, .ref lx_2), (r0, 1, 2, .int lz)]) [0, 1] rfl), (hh_5.2.2.2.2.2.2.2.2.sub (L1 := [(jFl, jLs dC dI ca G0 3 none wl)]) [2] rfl), by first | omega | (refine ⟨?_, ?_⟩ <;> (first | omega | rfl | assumption | decide | exact Or.inl rfl | exact Or.inr rfl | (simp only; omega)))⟩⟩ rfl rfl hl.1 rfl (lv_room (Nat.le_of_ble_eq_true rfl)) dJx4a65c_remove_915e3_21 ⟨Nat.zero_le _, Nat.zero_le _⟩) hh_5.1 (fun q _ h => h) (fun q h => h) (fun u_9 t_9 H_9 locs_9 ht_9 hvm_9 hr_10 hb_9 hz_9 hk_9 hS_9 => ?_)
      obtain ⟨qz_9, rfl⟩ : ∃ z, z = u_9 := ⟨_, rfl⟩
      rw [ht_9] at hb_9
      obtain ⟨hb_9, hbE_9⟩ := hb_9
      obtain ⟨hb_9, hbO_9⟩ := hb_9
      obtain ⟨hb_91, hb_92, hb_93, hb_94, hb_95⟩ := hb_9
      have hh_9 : jSt (dC, dI) B base G0 G0 EJx4a65c_remove_915e3L1 s.heap 0 0 [(r0, 1, 2, .int qz_9), (r0, 1, 1, .ref lx_2)] [] [(jFl, jLs dC dI ca G0 3 none (wl.1 - 1, jRmv wl.2 (a1.toInt).toNat))] H_9 locs_9 := (((hh_5.call hb_91 hb_92 hb_93 hb_94 hS_9 rfl (L1 := [(r0, 1, 1, .ref lx_2)]) [0] rfl rfl (M1 := []) [] rfl rfl (I1 := []) [] rfl rfl).more hb_95)).addIs hbE_9
      have hd_11 := jOw.tr (hh_5.iv 1 rfl) hh_5.2.2.2.2.1 hbO_9
      have hh_12 := hh_9.addI (jOw.ie (dC := dC) (dI := dI) (G0 := G0) (k := 1) (r := r0) (H0 := s.heap) (F := [(1, 0), (1, 1), (1, 2)]) (C := RJx4a65c) (T := TJx4a65c) (N := 3) rfl (by decide) hh_9.2.2.2.2.1 (hd_11))
      clear hh_9
      clear hh_5 ht_9 hvm_9 hz_9 hk_9 hS_9 hb_91 hb_92 hb_93 hb_94 hb_95
      clear  hbE_9
      refine lv_aload_n hx hb dJx4a65c_remove_915e3_24 rfl (lv_at hl 0 rfl) ?_
      rw [hQ]
      exact W.aret (v := .ref el_8) hx hb hr (Or.inl ⟨_, rfl⟩) (Or.inr ⟨_, rfl⟩) (fun t ht hW => ⟨⟨.ref el_8, qz_9, rfl, ⟨⟨_, rfl, hg_el_8⟩, by first | omega | rfl | assumption | decide | exact Or.inl rfl | exact Or.inr rfl | (simp only; omega)⟩, ⟨⟨hh_12.rt (M1 := [(r0, 1, 2, .int qz_9)]) [0] rfl ht, by rw [ht]; exact hh_12.iv 0 rfl⟩, by rw [ht]; exact hh_12.2.2.2.2.2.2.2.2.sub (L1 := [(jFl, jLs dC dI ca G0 3 none (wl.1 - 1, jRmv wl.2 (a1.toInt).toNat))]) [1] rfl⟩⟩, by rw [ht]; try exact hh_12.1.1, fun q h9 hq => by rw [ht]; try exact hh_12.1.2.1 q h9 hq⟩) hh_12.1.2.2 dJx4a65c_remove_915e3_25
end
section
theorem dX11_numberOf_0 : decode cX11_numberOf 0 = .ok (.iconst 0, 1) := by decide +kernel
theorem dX11_numberOf_1 : decode cX11_numberOf 1 = .ok (.istore_n 2, 1) := by decide +kernel
theorem dX11_numberOf_2 : decode cX11_numberOf 2 = .ok (.iload_n 2, 1) := by decide +kernel
theorem dX11_numberOf_3 : decode cX11_numberOf 3 = .ok (.aload_n 0, 1) := by decide +kernel
theorem dX11_numberOf_4 : decode cX11_numberOf 4 = .ok (.getfield 61, 3) := by decide +kernel
theorem dX11_numberOf_7 : decode cX11_numberOf 7 = .ok (.invokeinterface 142 1, 5) := by decide +kernel
theorem dX11_numberOf_12 : decode cX11_numberOf 12 = .ok (.if_icmp .ge 25, 3) := by decide +kernel
theorem dX11_numberOf_15 : decode cX11_numberOf 15 = .ok (.aload_n 0, 1) := by decide +kernel
theorem dX11_numberOf_16 : decode cX11_numberOf 16 = .ok (.getfield 61, 3) := by decide +kernel
theorem dX11_numberOf_19 : decode cX11_numberOf 19 = .ok (.iload_n 2, 1) := by decide +kernel
theorem dX11_numberOf_20 : decode cX11_numberOf 20 = .ok (.invokeinterface 249 2, 5) := by decide +kernel
theorem dX11_numberOf_25 : decode cX11_numberOf 25 = .ok (.aload_n 1, 1) := by decide +kernel
theorem dX11_numberOf_26 : decode cX11_numberOf 26 = .ok (.if_acmp .ne 5, 3) := by decide +kernel
theorem dX11_numberOf_29 : decode cX11_numberOf 29 = .ok (.iload_n 2, 1) := by decide +kernel
theorem dX11_numberOf_30 : decode cX11_numberOf 30 = .ok (.ireturn, 1) := by decide +kernel
theorem dX11_numberOf_31 : decode cX11_numberOf 31 = .ok (.iinc 2 1, 3) := by decide +kernel
theorem dX11_numberOf_34 : decode cX11_numberOf 34 = .ok (.goto (-32), 3) := by decide +kernel
theorem dX11_numberOf_37 : decode cX11_numberOf 37 = .ok (.iconst (-1), 1) := by decide +kernel
theorem dX11_numberOf_38 : decode cX11_numberOf 38 = .ok (.ireturn, 1) := by decide +kernel
def EX11_numberOfZ : List (Nat × Nat) := []
set_option maxHeartbeats 4000000 in
set_option maxRecDepth 20000 in
theorem uX11_numberOfZ (l : Launch) (dC : Nat → ClassId) (dI : Nat → Nat → Nat) (ca : Nat → ClassId) (base : Nat) (B : jF) (hB : jBok B) (hAp : jAp (dC, dI)) (hB1 : ∀ n G a H, B 1 n G a H ↔ jOb (dC, dI) 1 3 (F1 n G) a H) (hB3 : ∀ n G a H, B 3 n G a H ↔ jOb (dC, dI) 3 17 (F3 n G) a H) (hB13 : ∀ n G a H, B 13 n G a H ↔ jOb (dC, dI) 13 19 (F13 n G) a H) (hB221 : ∀ n G a H, B 221 n G a H ↔ jAq (dC, dI) (ca 9) (jQn 3 0) n G a H) (G0 : jT) (H0 : Heap) (r0 : Nat) (wl : jWl9) : Met l yX11_numberOf (jw yX11_numberOf cX11_numberOf 3 (some .int)) ({ frames := 3, cells := 0, slots := 0, locals := 64 }) (va_Pc [.ref r0, .null] (fun U => U.heap = H0 ∧ jX B base G0 [] H0 ∧ jG dC dI ca base U ∧ jK7 dC dI ca base U ∧ G0 r0 = some (13, 0) ∧ jP (dC, dI) G0 H0 [] ∧ jIs (dC, dI) G0 H0 [(jFl, jLs dC dI ca G0 3 none wl)] ∧ True)) (va_Qi (S := Unit) (fun r u => (True)) (fun u t => (jRt (dC, dI) B base G0 EX11_numberOfZ H0 [] t.heap) ∧ jIs (dC, dI) G0 t.heap [(jFl, jLs dC dI ca G0 3 none wl)]) (jA base)) 0 0 (jA base) := by
  refine Met.ofW (cc := cX11_numberOf) (maxL := 3) (ret := (some .int)) (by decide) rfl ?_
  intro p e s m args below meth c s₁ Bd hml hv
  obtain ⟨rfl, hH0, hX, hG, hK7, hg_r0, hP0, hI0, hp0⟩ := hv
  have hK := hG.1
  have hx := Bd.exec
  have hb := Bd.bytes
  have hr := Bd.returns
  have hts := atoms_spec (ws := (jw yX11_numberOf cX11_numberOf 3 (some .int))) Bd.pre
  have htw : ∀ w ∈ jWl, w.before _ s = true := fun w h => hts w (List.mem_cons_of_mem _ h)
  have hown : s.vm.findClass RX11 = some m.cls := findClass_of_methodNamed Bd.named
  have hlocks := Bd.notSynchronized
  obtain ⟨Q, hQ⟩ : ∃ Q, Q = MQ below (va_Qi (S := Unit) (fun r u => (True)) (fun u t => (jRt (dC, dI) B base G0 EX11_numberOfZ H0 [] t.heap) ∧ jIs (dC, dI) G0 t.heap [(jFl, jLs dC dI ca G0 3 none wl)]) (jA base)) ([.ref r0, .null] : List Value).toArray s 0 0 (jA base) := ⟨_, rfl⟩
  rw [← hQ]
  have hl := lv_entry ([.ref r0, .null]) (n := 3) (Nat.le_of_ble_eq_true rfl)
  rw [lg_entry_eq]
  generalize (lg_sl ([.ref r0, .null]) ++ List.replicate (3 - (lg_sl ([.ref r0, .null])).length) Slot.unset).toArray = ls at hl ⊢
  have hl : lv_has ls 3 [(0, .ref r0), (1, .null)] := hl
  generalize hR : (headSpec (jw yX11_numberOf cX11_numberOf 3 (some .int)) ({ frames := 3, cells := 0, slots := 0, locals := 64 })).room = R
  subst hH0
  have hh : jSt (dC, dI) B base G0 G0 EX11_numberOfZ s.heap 0 0 [] [] [(jFl, jLs dC dI ca G0 3 none wl)] s.heap [] := jSt.start hX hP0 jMc.nil hI0
  clear hX hP0
  have hkm1 : ((-1) : Int32).toInt = (-1) := by decide
  have hk0 : (0 : Int32).toInt = 0 := by decide
  have hk1 : (1 : Int32).toInt = 1 := by decide
  have hly_13_7 := htw (u_lay RX11 TX11 7) (jWc_wsX110 _ (u_in_lay (by decide)))
  have hlk_61 := (htw (.fieldLink RX11 61 "ProofServer" "open" "Ljava/util/List;") (jWr_2 _ (List.mem_of_getElem? (i := 14) rfl)))
  refine lv_iconst (v := 0) hx hb dX11_numberOf_0 (by decide) ?_
  refine lv_istore_n (lv' := [(2, .int 0), (0, .ref r0), (1, .null)]) hx hb dX11_numberOf_1 rfl hl (by decide) rfl (fun ls hl => ?_)
  have L2 : ∀ (N : Nat) (v2_1 : Int32) (H_1 : Heap) (locs_1 : List Loc), jSt (dC, dI) B base G0 G0 EX11_numberOfZ s.heap 0 0 [] [] [(jFl, jLs dC dI ca G0 3 none wl)] H_1 locs_1 → (0 ≤ v2_1.toInt ∧ v2_1.toInt ≤ 40) → (41 - v2_1.toInt : Int) < N → ∀ ls : Array Slot, lv_has ls 3 [(0, .ref r0), (1, .null), (2, .int v2_1)] → W p l e R s m ([.ref r0, .null] : List Value).toArray below meth c H_1 locs_1 0 0 Q (F0 m 2 ls []) := by
    intro N
    induction N with
    | zero => intro v2_1 H_1 locs_1 hh_1  hi_1 hm; exact absurd hm (by omega)
    | succ N L2 =>
      intro v2_1 H_1 locs_1 hh_1  hi_1 hm_1 ls hl
      obtain ⟨hi_1_0, hi_1_1⟩ := hi_1
      refine lv_iload_n hx hb dX11_numberOf_2 rfl (lv_at hl 2 rfl) ?_
      refine lv_aload_n hx hb dX11_numberOf_3 rfl (lv_at hl 0 rfl) ?_
      obtain ⟨v_2, hv_2, hh_3⟩ := hh_1.pin (C := RX11) (T := TX11) (N := 19) hB13 rfl (by decide) hg_r0 (i := 7) (by decide) rfl
      clear hh_1
      obtain ⟨open_4, rfl, hg_open_4⟩ := hv_2
      refine j7_read hx hb hown hK (C := RX11) (T := TX11) (N := 19) rfl hly_13_7 hlk_61 (hh_3.at 0 rfl) dX11_numberOf_4 ?_
      obtain ⟨v_7, hv_7, hh_8⟩ := hh_3.pin (C := RJx4a65c) (T := TJx4a65c) (N := 3) hB1 rfl (by decide) hg_open_4 (i := 2) (by decide) rfl
      obtain ⟨size_9, rfl, hlosize_9, hhisize_9⟩ := hv_7
      refine va_callFi (A0 := jA base) (H0 := s.heap) (va_runF (hK.1 1 _ rfl).2 (As := []) (rest := [.int v2_1]) ⟨hx, hb, hml, hown, hts⟩ (uJx4a65c_size_8abf5 l dC dI ca base B hB hAp hB1 G0 H_1 open_4 1 size_9) (va_cwF 0 hts (jgF (jWr_27 _ (List.mem_of_getElem? (i := 22) rfl)) (jWr_27 _ (List.mem_of_getElem? (i := 23) rfl)) (jWr_28 _ (List.mem_of_getElem? (i := 0) rfl)) (jWr_2 _ (List.mem_of_getElem? (i := 13) rfl)) (jWr_28 _ (List.mem_of_getElem? (i := 1) rfl))) rfl rfl rfl hK7.2.2.2.2.2.1.1 ⟨by decide, by decide, by decide +kernel⟩ ⟨by rw [← hR]; exact Nat.le_of_ble_eq_true rfl, by rw [← hR]; exact Nat.le_of_ble_eq_true rfl⟩) ⟨fun a U g mk q => by obtain ⟨q0, q1, q2, qK, q10, q11, q12⟩ := q; exact ⟨q0, q1, q2, jG.calling g mk a qK, q10, q11, q12⟩, hh_8.recv (C := RJx4a65c) (T := TJx4a65c) (N := 3) hB1 rfl (by decide) hg_open_4 hK, fun U hU hW => ⟨rfl, hU, hh_8.2.1, hG.step hW hU hh_8.1, hg_open_4, (hh_8.2.2.1.sub (L1 := [(open_4, 1, 2, .int size_9)]) [0] rfl), trivial⟩⟩ rfl rfl hl.1 rfl (lv_room (Nat.le_of_ble_eq_true rfl)) dX11_numberOf_7 ⟨Nat.zero_le _, Nat.zero_le _⟩) hh_8.1 (fun q _ h => h) (fun q h => h) (fun r_6 u_5 t_5 H_5 locs_5 ht_5 hvm_5 hr_6 hb_5 hz_5 hk_5 hS_5 => ?_)
      rw [ht_5] at hb_5
      obtain ⟨hb_51, hb_52, hb_53, hb_54, hb_55⟩ := hb_5
      have hh_5 : jSt (dC, dI) B base G0 G0 EX11_numberOfZ s.heap 0 0 [(open_4, 1, 2, .int size_9), (r0, 13, 7, .ref open_4)] [] [(jFl, jLs dC dI ca G0 3 none wl)] H_5 locs_5 := ((hh_8.call hb_51 hb_52 hb_53 hb_54 hS_5 rfl (L1 := [(open_4, 1, 2, .int size_9), (r0, 13, 7, .ref open_4)]) [0, 1] rfl rfl (M1 := []) [] rfl rfl (I1 := [(jFl, jLs dC dI ca G0 3 none wl)]) [0] rfl rfl).more hb_55)
      clear hh_8 ht_5 hvm_5 hz_5 hk_5 hS_5 hb_51 hb_52 hb_53 hb_54 hb_55
      refine lv_icmp_ge (tgt := 37) hx hb dX11_numberOf_12 (by decide) (fun c_10 => ?_) (fun c_10 => ?_)
      · skip
        have c_10' : v2_1.toInt ≥ r_6.toInt := jb_ge (rfl) (rfl) c_10
        refine lv_iconst (v := (-1)) hx hb dX11_numberOf_37 (by decide) ?_
        rw [hQ]
        exact W.iret (v := (-1)) hx hb hr (fun t ht hW => ⟨⟨(-1), (), rfl, trivial, ⟨hh_5.rt (M1 := []) [] rfl ht, by rw [ht]; exact hh_5.2.2.2.2.2.2.2.2.sub (L1 := [(jFl, jLs dC dI ca G0 3 none wl)]) [0] rfl⟩⟩, by rw [ht]; try exact hh_5.1.1, fun q h9 hq => by rw [ht]; try exact hh_5.1.2.1 q h9 hq⟩) hh_5.1.2.2 dX11_numberOf_38
      · skip
        have c_10' : v2_1.toInt < r_6.toInt := jb_ge_n (rfl) (rfl) c_10
        refine lv_aload_n hx hb dX11_numberOf_15 rfl (lv_at hl 0 rfl) ?_
        refine j7_read hx hb hown hK (C := RX11) (T := TX11) (N := 19) rfl hly_13_7 hlk_61 (hh_5.at 1 rfl) dX11_numberOf_16 ?_
        refine lv_iload_n hx hb dX11_numberOf_19 rfl (lv_at hl 2 rfl) ?_
        refine j_callFx (A0 := jA base) (H0 := s.heap) (va_runF (hK.1 1 _ rfl).2 (As := [.int v2_1]) (rest := []) ⟨hx, hb, hml, hown, hts⟩ (uJx4a65c_get_915e3L1 l dC dI ca base B hB hAp hB1 hB3 hB221 G0 H_5 open_4 v2_1 size_9 wl) (va_cwF 1 hts (jgF (jWr_28 _ (List.mem_of_getElem? (i := 3) rfl)) (jWr_28 _ (List.mem_of_getElem? (i := 4) rfl)) (jWr_28 _ (List.mem_of_getElem? (i := 5) rfl)) (jWr_2 _ (List.mem_of_getElem? (i := 13) rfl)) (jWr_28 _ (List.mem_of_getElem? (i := 6) rfl))) rfl rfl rfl hK7.2.2.2.2.2.1.2.1 ⟨by decide, by decide, by decide +kernel⟩ ⟨by rw [← hR]; exact Nat.le_of_ble_eq_true rfl, by rw [← hR]; exact Nat.le_of_ble_eq_true rfl⟩) ⟨fun a U g mk q => by obtain ⟨q0, q1, q2, qK, q10, q11, q12, q13, q14⟩ := q; exact ⟨q0, q1, q2, jG.calling g mk a qK, (jK7.calling g mk a q10), q11, q12, q13, q14⟩, hh_5.recv (C := RJx4a65c) (T := TJx4a65c) (N := 3) hB1 rfl (by decide) hg_open_4 hK, fun U hU hW => ⟨rfl, hU, hh_5.2.1, hG.step hW hU hh_5.1, (hK7.step hW hU hh_5.1), hg_open_4, (hh_5.2.2.1.sub (L1 := [(open_4, 1, 2, .int size_9)]) [0] rfl), (hh_5.2.2.2.2.2.2.2.2.sub (L1 := [(jFl, jLs dC dI ca G0 3 none wl)]) [0] rfl), by first | omega | (refine ⟨?_, ?_⟩ <;> (first | omega | rfl | assumption | decide | exact Or.inl rfl | exact Or.inr rfl | (simp only; omega)))⟩⟩ rfl rfl hl.1 rfl (lv_room (Nat.le_of_ble_eq_true rfl)) dX11_numberOf_20 ⟨Nat.zero_le _, Nat.zero_le _⟩) hh_5.1 (fun q _ h => h) (fun q h => h) (fun r_12 u_11 t_11 H_11 locs_11 ht_11 hvm_11 hr_12 hb_11 hz_11 hk_11 hS_11 => ?_)
        rw [ht_11] at hb_11
        obtain ⟨hb_11, hbE_11⟩ := hb_11
        obtain ⟨hb_111, hb_112, hb_113, hb_114, hb_115⟩ := hb_11
        have hh_11 : jSt (dC, dI) B base G0 G0 EX11_numberOfZ s.heap 0 0 [(open_4, 1, 2, .int size_9), (r0, 13, 7, .ref open_4)] [] [(jFl, jLs dC dI ca G0 3 none wl)] H_11 locs_11 := (((hh_5.call hb_111 hb_112 hb_113 hb_114 hS_11 rfl (L1 := [(open_4, 1, 2, .int size_9), (r0, 13, 7, .ref open_4)]) [0, 1] rfl rfl (M1 := []) [] rfl rfl (I1 := []) [] rfl rfl).more hb_115)).addIs hbE_11
        clear hh_5 ht_11 hvm_11 hz_11 hk_11 hS_11 hb_111 hb_112 hb_113 hb_114 hb_115
        clear  hbE_11
        obtain ⟨hr_12, hr_12p⟩ := hr_12
        obtain ⟨ret_13, rfl, hg_ret_13⟩ := hr_12
        refine j7_nld_n hx hb dX11_numberOf_25 rfl (lv_at hl 1 rfl) ?_
        refine lv_acmp_ne (rx := (some ret_13)) (ry := none) (tgt := 31) hx hb dX11_numberOf_26 (by decide) (fun c_14 => ?_) (fun c_14 => ?_)
        · skip
          obtain ⟨z_15, ez_15⟩ : ∃ y : Int32, y = v2_1 + 1 := ⟨_, rfl⟩
          refine lv_iinc (v := z_15) (lv' := [(2, .int z_15), (0, .ref r0), (1, .null)]) hx hb dX11_numberOf_31 hl (k := 2) rfl (by rw [ez_15]; rfl) (by decide) rfl (fun ls hl => ?_)
          have hz_15 : z_15.toInt = v2_1.toInt + 1 := by rw [ez_15]; exact jb_iadd2 (rfl) (by decide) (by omega)
          refine lv_goto (tgt := 2) hx hb dX11_numberOf_34 (by decide) ?_
          exact L2 z_15 _ _ (hh_11.sub (L1 := []) [] rfl (M1 := []) [] rfl (I1 := [(jFl, jLs dC dI ca G0 3 none wl)]) [0] rfl) (by first | omega | (refine ⟨?_, ?_⟩ <;> (first | omega | rfl | assumption | decide | exact Or.inl rfl | exact Or.inr rfl | (simp only; omega)))) (by omega) _ (lv_sub hl [1, 2, 0] rfl)
        · skip
          cases c_14
  exact L2 (41 - (0 : Int32).toInt : Int).toNat.succ 0 _ _ hh (by first | omega | (refine ⟨?_, ?_⟩ <;> (first | omega | rfl | assumption | decide | exact Or.inl rfl | exact Or.inr rfl | (simp only; omega)))) (by omega) _ (lv_sub hl [1, 2, 0] rfl)
end
section
theorem dX11_closeDocument_0 : decode cX11_closeDocument 0 = .ok (.aload_n 0, 1) := by decide +kernel
theorem dX11_closeDocument_1 : decode cX11_closeDocument 1 = .ok (.invokevirtual 359, 3) := by decide +kernel
theorem dX11_closeDocument_4 : decode cX11_closeDocument 4 = .ok (.astore_n 1, 1) := by decide +kernel
theorem dX11_closeDocument_5 : decode cX11_closeDocument 5 = .ok (.aload_n 0, 1) := by decide +kernel
theorem dX11_closeDocument_6 : decode cX11_closeDocument 6 = .ok (.aload_n 1, 1) := by decide +kernel
theorem dX11_closeDocument_7 : decode cX11_closeDocument 7 = .ok (.invokevirtual 154, 3) := by decide +kernel
theorem dX11_closeDocument_10 : decode cX11_closeDocument 10 = .ok (.istore_n 2, 1) := by decide +kernel
theorem dX11_closeDocument_11 : decode cX11_closeDocument 11 = .ok (.aload_n 1, 1) := by decide +kernel
theorem dX11_closeDocument_12 : decode cX11_closeDocument 12 = .ok (.ifnull 7, 3) := by decide +kernel
theorem dX11_closeDocument_15 : decode cX11_closeDocument 15 = .ok (.iload_n 2, 1) := by decide +kernel
theorem dX11_closeDocument_16 : decode cX11_closeDocument 16 = .ok (.ifCond .ge 4, 3) := by decide +kernel
theorem dX11_closeDocument_19 : decode cX11_closeDocument 19 = .ok (.return_, 1) := by decide +kernel
theorem dX11_closeDocument_20 : decode cX11_closeDocument 20 = .ok (.aload_n 0, 1) := by decide +kernel
theorem dX11_closeDocument_21 : decode cX11_closeDocument 21 = .ok (.aload_n 1, 1) := by decide +kernel
theorem dX11_closeDocument_22 : decode cX11_closeDocument 22 = .ok (.invokevirtual 403, 3) := by decide +kernel
theorem dX11_closeDocument_25 : decode cX11_closeDocument 25 = .ok (.aload_n 0, 1) := by decide +kernel
theorem dX11_closeDocument_26 : decode cX11_closeDocument 26 = .ok (.aload_n 1, 1) := by decide +kernel
theorem dX11_closeDocument_27 : decode cX11_closeDocument 27 = .ok (.invokevirtual 397, 3) := by decide +kernel
theorem dX11_closeDocument_30 : decode cX11_closeDocument 30 = .ok (.aload_n 0, 1) := by decide +kernel
theorem dX11_closeDocument_31 : decode cX11_closeDocument 31 = .ok (.getfield 61, 3) := by decide +kernel
theorem dX11_closeDocument_34 : decode cX11_closeDocument 34 = .ok (.iload_n 2, 1) := by decide +kernel
theorem dX11_closeDocument_35 : decode cX11_closeDocument 35 = .ok (.invokeinterface 423 2, 5) := by decide +kernel
theorem dX11_closeDocument_40 : decode cX11_closeDocument 40 = .ok (.pop, 1) := by decide +kernel
theorem dX11_closeDocument_41 : decode cX11_closeDocument 41 = .ok (.aload_n 0, 1) := by decide +kernel
theorem dX11_closeDocument_42 : decode cX11_closeDocument 42 = .ok (.aload_n 1, 1) := by decide +kernel
theorem dX11_closeDocument_43 : decode cX11_closeDocument 43 = .ok (.iconst 0, 1) := by decide +kernel
theorem dX11_closeDocument_44 : decode cX11_closeDocument 44 = .ok (.invokevirtual 378, 3) := by decide +kernel
theorem dX11_closeDocument_47 : decode cX11_closeDocument 47 = .ok (.return_, 1) := by decide +kernel
end
section
def EX4_areUnitsQ : List (Nat × Nat) := []
def EX4_memberQ : List (Nat × Nat) := []
set_option maxHeartbeats 4000000 in
set_option maxRecDepth 20000 in
theorem uX4_areUnitsQ (l : Launch) (dC : Nat → ClassId) (dI : Nat → Nat → Nat) (ca : Nat → ClassId) (base : Nat) (B : jF) (hB : jBok B) (hAp : jAp (dC, dI)) (hB6 : ∀ n G a H, B 6 n G a H ↔ jOb (dC, dI) 6 12 (F6 n G) a H) (hB146 : ∀ n G a H, B 146 n G a H ↔ jAr (dC, dI) (ca 1) (fun j z => True) n a H) (G0 : jT) (H0 : Heap) (r0 : Nat) (a1 : Int32) (a2 : Int32) (r3 : Nat) (n3 : Nat) : Met l yX4_areUnits (jw yX4_areUnits cX4_areUnits 5 (some .boolean)) ({ frames := 4, cells := 0, slots := 0, locals := 141 }) (va_Pc [.ref r0, .int a1, .int a2, .ref r3] (fun U => U.heap = H0 ∧ jX B base G0 [] H0 ∧ jG dC dI ca base U ∧ jStr base r3 n3 U H0 ∧ G0 r0 = some (6, 0) ∧ jP (dC, dI) G0 H0 [] ∧ a1.toInt ≤ 1000000 ∧ n3 ≤ 1000)) (va_Qi (S := Unit) (fun r u => (r = 0 ∨ r = 1) ∧ (r.toInt = 0 ∨ a2.toInt = n3)) (fun u t => (jRt (dC, dI) B base G0 EX4_areUnitsQ H0 [] t.heap) ∧ jKl [] H0 t.heap) (jA base)) 0 0 (jA base) := by
  refine Met.ofW (cc := cX4_areUnits) (maxL := 5) (ret := (some .boolean)) (by decide) rfl ?_
  intro p e s m args below meth c s₁ Bd hml hv
  obtain ⟨rfl, hH0, hX, hG, hstr_r3, hg_r0, hP0, hp0, hp1⟩ := hv
  have hK := hG.1
  have hx := Bd.exec
  have hb := Bd.bytes
  have hr := Bd.returns
  have hts := atoms_spec (ws := (jw yX4_areUnits cX4_areUnits 5 (some .boolean))) Bd.pre
  have htw : ∀ w ∈ jWl, w.before _ s = true := fun w h => hts w (List.mem_cons_of_mem _ h)
  have hown : s.vm.findClass RX4 = some m.cls := findClass_of_methodNamed Bd.named
  have hlocks := Bd.notSynchronized
  obtain ⟨Q, hQ⟩ : ∃ Q, Q = MQ below (va_Qi (S := Unit) (fun r u => (r = 0 ∨ r = 1) ∧ (r.toInt = 0 ∨ a2.toInt = n3)) (fun u t => (jRt (dC, dI) B base G0 EX4_areUnitsQ H0 [] t.heap) ∧ jKl [] H0 t.heap) (jA base)) ([.ref r0, .int a1, .int a2, .ref r3] : List Value).toArray s 0 0 (jA base) := ⟨_, rfl⟩
  rw [← hQ]
  have hl := lv_entry ([.ref r0, .int a1, .int a2, .ref r3]) (n := 5) (Nat.le_of_ble_eq_true rfl)
  rw [lg_entry_eq]
  generalize (lg_sl ([.ref r0, .int a1, .int a2, .ref r3]) ++ List.replicate (5 - (lg_sl ([.ref r0, .int a1, .int a2, .ref r3])).length) Slot.unset).toArray = ls at hl ⊢
  have hl : lv_has ls 5 [(0, .ref r0), (1, .int a1), (2, .int a2), (3, .ref r3)] := hl
  generalize hR : (headSpec (jw yX4_areUnits cX4_areUnits 5 (some .boolean)) ({ frames := 4, cells := 0, slots := 0, locals := 141 })).room = R
  subst hH0
  have hh : jSt (dC, dI) B base G0 G0 EX4_areUnitsQ s.heap 0 0 [] [] [] s.heap [] := jSt.start hX hP0 jMc.nil jIs.nil
  clear hX hP0
  have hk0 : (0 : Int32).toInt = 0 := by decide
  have hk1 : (1 : Int32).toInt = 1 := by decide
  have hly_6_6 := htw (u_lay RX4 TX4 6) (jWc_wsX40 _ (u_in_lay (by decide)))
  have hlk_30 := (htw (.fieldLink RX4 30 "ProofServer$Json" "units" "[I") (jWr_4 _ (List.mem_of_getElem? (i := 3) rfl)))
  have hrg_a1 := jb_rng a1
  have hrg_a2 := jb_rng a2
  have hfl : jKl [] s.heap s.heap := jKl.rf
  refine lv_iload_n hx hb dX4_areUnits_0 rfl (lv_at hl 2 rfl) ?_
  refine lv_aload_n hx hb dX4_areUnits_1 rfl (lv_at hl 3 rfl) ?_
  refine vp_callSi (W.runV (As := []) (rest := [.int a2]) ⟨hx, hb, hml, hown, hts⟩ (wJ0_length_8abf5 l dC dI ca base s.heap r3 n3) (cwV 0 hts (jgV (jWr_20 _ (List.mem_of_getElem? (i := 23) rfl)) (jWr_5 _ (List.mem_of_getElem? (i := 13) rfl)) (jWr_5 _ (List.mem_of_getElem? (i := 14) rfl)) (jWr_5 _ (List.mem_of_getElem? (i := 15) rfl)) (jWr_5 _ (List.mem_of_getElem? (i := 16) rfl))) rfl rfl rfl (by decide +kernel) ⟨by rw [← hR]; exact Nat.le_of_ble_eq_true rfl, by rw [← hR]; exact Nat.le_of_ble_eq_true rfl⟩) ⟨fun a U g mk q => by obtain ⟨q0, q1, q2, qK, q9⟩ := q; exact ⟨q0, q1, (q2.moved (Vm.Alike.refl U.vm)), jG.calling g mk a qK, q9⟩, jStr_recv hstr_r3 hh.1, fun U hU hW => ⟨rfl, hU, (hstr_r3.moved hW.alike).kept hh.1.2.1, hG.step hW hU hh.1, by omega⟩⟩ rfl rfl hl.1 rfl (lv_room (Nat.le_of_ble_eq_true rfl)) dX4_areUnits_2 ⟨Nat.zero_le _, Nat.zero_le _⟩) (fun r_1 hr_1 => ?_)
  refine lv_icmp_ne (tgt := 23) hx hb dX4_areUnits_5 (by decide) (fun c_2 => ?_) (fun c_2 => ?_)
  · skip
    have c_2' : a2.toInt ≠ r_1.toInt := jb_ne (rfl) (rfl) c_2
    refine lv_iconst (v := 0) hx hb dX4_areUnits_23 (by decide) ?_
    rw [hQ]
    exact W.zret (v := 0) hx hb hr (jb_nz (Or.inl rfl)) (fun t ht hW => ⟨⟨0, (), rfl, ⟨(Or.inl rfl), by first | omega | rfl | assumption | decide | exact Or.inl rfl | exact Or.inr rfl | (simp only; omega)⟩, ⟨hh.rt (M1 := []) [] rfl ht, by rw [ht]; exact hfl⟩⟩, by rw [ht]; try exact hh.1.1, fun q h9 hq => by rw [ht]; try exact hh.1.2.1 q h9 hq⟩) hh.1.2.2 dX4_areUnits_24
  · skip
    have c_2' : a2.toInt = r_1.toInt := jb_ne_n (rfl) (rfl) c_2
    refine lv_iload_n hx hb dX4_areUnits_8 rfl (lv_at hl 1 rfl) ?_
    refine lv_if_lt (tgt := 23) hx hb dX4_areUnits_9 (by decide) (fun c_3 => ?_) (fun c_3 => ?_)
    · skip
      have c_3' : a1.toInt < 0 := jb_lt (rfl) ((by decide)) c_3
      refine lv_iconst (v := 0) hx hb dX4_areUnits_23 (by decide) ?_
      rw [hQ]
      exact W.zret (v := 0) hx hb hr (jb_nz (Or.inl rfl)) (fun t ht hW => ⟨⟨0, (), rfl, ⟨(Or.inl rfl), by first | omega | rfl | assumption | decide | exact Or.inl rfl | exact Or.inr rfl | (simp only; omega)⟩, ⟨hh.rt (M1 := []) [] rfl ht, by rw [ht]; exact hfl⟩⟩, by rw [ht]; try exact hh.1.1, fun q h9 hq => by rw [ht]; try exact hh.1.2.1 q h9 hq⟩) hh.1.2.2 dX4_areUnits_24
    · skip
      have c_3' : a1.toInt ≥ 0 := jb_lt_n (rfl) ((by decide)) c_3
      refine lv_iload_n hx hb dX4_areUnits_12 rfl (lv_at hl 1 rfl) ?_
      refine lv_iload_n hx hb dX4_areUnits_13 rfl (lv_at hl 2 rfl) ?_
      refine lv_iadd hx hb dX4_areUnits_14 ?_
      refine lv_topi (fun z_4 ez_4 => ?_)
      have hz_4 : z_4.toInt = a1.toInt + a2.toInt := by rw [ez_4]; exact jb_iadd2 (rfl) (rfl) (by omega)
      refine lv_aload_n hx hb dX4_areUnits_15 rfl (lv_at hl 0 rfl) ?_
      obtain ⟨v_5, hv_5, hh_6⟩ := hh.pin (C := RX4) (T := TX4) (N := 12) hB6 rfl (by decide) hg_r0 (i := 6) (by decide) rfl
      clear hh
      obtain ⟨units_7, rfl, hg_units_7⟩ := hv_5
      refine j7_read hx hb hown hK (C := RX4) (T := TX4) (N := 12) rfl hly_6_6 hlk_30 (hh_6.at 0 rfl) dX4_areUnits_16 ?_
      refine j7_len hx hb hK hh_6 hB146 1 rfl (by decide) hg_units_7 (by omega) dX4_areUnits_19 (fun z_8 hz_8 => ?_)
      refine lv_icmp_le (tgt := 25) hx hb dX4_areUnits_20 (by decide) (fun c_9 => ?_) (fun c_9 => ?_)
      · skip
        have c_9' : z_4.toInt ≤ z_8.toInt := jb_le (rfl) (rfl) c_9
        refine lv_iconst (v := 0) hx hb dX4_areUnits_25 (by decide) ?_
        refine lv_istore (lv' := [(4, .int 0), (0, .ref r0), (1, .int a1), (2, .int a2), (3, .ref r3)]) hx hb dX4_areUnits_26 hl (by decide) rfl (fun ls hl => ?_)
        have L28 : ∀ (N : Nat) (v4_10 : Int32) (H_10 : Heap) (locs_10 : List Loc), jSt (dC, dI) B base G0 G0 EX4_areUnitsQ s.heap 0 0 [(r0, 6, 6, .ref units_7)] [] [] H_10 locs_10 → jKl [] s.heap H_10 → (0 ≤ v4_10.toInt) → (((a2.toInt - v4_10.toInt).toNat : Int) : Int) < N → ∀ ls : Array Slot, lv_has ls 5 [(0, .ref r0), (1, .int a1), (2, .int a2), (3, .ref r3), (4, .int v4_10)] → W p l e R s m ([.ref r0, .int a1, .int a2, .ref r3] : List Value).toArray below meth c H_10 locs_10 0 0 Q (F0 m 28 ls []) := by
          intro N
          induction N with
          | zero => intro v4_10 H_10 locs_10 hh_10 hfl_10 hi_10 hm; exact absurd hm (by omega)
          | succ N L28 =>
            intro v4_10 H_10 locs_10 hh_10 hfl_10 hi_10 hm_10 ls hl
            refine lv_iload hx hb dX4_areUnits_28 (lv_at hl 4 rfl) ?_
            refine lv_iload_n hx hb dX4_areUnits_30 rfl (lv_at hl 2 rfl) ?_
            refine lv_icmp_ge (tgt := 60) hx hb dX4_areUnits_31 (by decide) (fun c_11 => ?_) (fun c_11 => ?_)
            · skip
              have c_11' : v4_10.toInt ≥ a2.toInt := jb_ge (rfl) (rfl) c_11
              refine lv_iconst (v := 1) hx hb dX4_areUnits_60 (by decide) ?_
              rw [hQ]
              exact W.zret (v := 1) hx hb hr (jb_nz (Or.inr rfl)) (fun t ht hW => ⟨⟨1, (), rfl, ⟨(Or.inr rfl), by first | omega | rfl | assumption | decide | exact Or.inl rfl | exact Or.inr rfl | (simp only; omega)⟩, ⟨hh_10.rt (M1 := []) [] rfl ht, by rw [ht]; exact hfl_10⟩⟩, by rw [ht]; try exact hh_10.1.1, fun q h9 hq => by rw [ht]; try exact hh_10.1.2.1 q h9 hq⟩) hh_10.1.2.2 dX4_areUnits_61
            · skip
              have c_11' : v4_10.toInt < a2.toInt := jb_ge_n (rfl) (rfl) c_11
              refine lv_aload_n hx hb dX4_areUnits_34 rfl (lv_at hl 0 rfl) ?_
              refine j7_read hx hb hown hK (C := RX4) (T := TX4) (N := 12) rfl hly_6_6 hlk_30 (hh_10.at 0 rfl) dX4_areUnits_35 ?_
              refine lv_iload_n hx hb dX4_areUnits_38 rfl (lv_at hl 1 rfl) ?_
              refine lv_iload hx hb dX4_areUnits_39 (lv_at hl 4 rfl) ?_
              refine lv_iadd hx hb dX4_areUnits_41 ?_
              refine lv_topi (fun z_12 ez_12 => ?_)
              have hz_12 : z_12.toInt = a1.toInt + v4_10.toInt := by rw [ez_12]; exact jb_iadd2 (rfl) (rfl) (by omega)
              refine j7_iald hx hb hK hh_10 hB146 1 rfl (by decide) hg_units_7 (x := z_12.toInt) (rfl) (by omega) dX4_areUnits_42 (fun z_13 (hz_13 : True) => ?_)
              refine lv_aload_n hx hb dX4_areUnits_43 rfl (lv_at hl 3 rfl) ?_
              refine lv_iload hx hb dX4_areUnits_44 (lv_at hl 4 rfl) ?_
              refine vp_callSi (W.runV (As := [.int v4_10]) (rest := [.int z_13]) ⟨hx, hb, hml, hown, hts⟩ (wJ0_charAt_5068e l dC dI ca base H_10 r3 n3 v4_10) (cwV 1 hts (jgV (jWr_21 _ (List.mem_of_getElem? (i := 0) rfl)) (jWr_6 _ (List.mem_of_getElem? (i := 1) rfl)) (jWr_6 _ (List.mem_of_getElem? (i := 2) rfl)) (jWr_5 _ (List.mem_of_getElem? (i := 15) rfl)) (jWr_6 _ (List.mem_of_getElem? (i := 3) rfl))) rfl rfl rfl (by decide +kernel) ⟨by rw [← hR]; exact Nat.le_of_ble_eq_true rfl, by rw [← hR]; exact Nat.le_of_ble_eq_true rfl⟩) ⟨fun a U g mk q => by obtain ⟨q0, q1, q2, qK, q9⟩ := q; exact ⟨q0, q1, (q2.moved (Vm.Alike.refl U.vm)), jG.calling g mk a qK, q9⟩, jStr_recv hstr_r3 hh_10.1, fun U hU hW => ⟨rfl, hU, (hstr_r3.moved hW.alike).kept hh_10.1.2.1, hG.step hW hU hh_10.1, ⟨by omega, by omega, by omega⟩⟩⟩ rfl rfl hl.1 rfl (lv_room (Nat.le_of_ble_eq_true rfl)) dX4_areUnits_46 ⟨Nat.zero_le _, Nat.zero_le _⟩) (fun r_14 hr_14 => ?_)
              refine lv_icmp_eq (tgt := 54) hx hb dX4_areUnits_49 (by decide) (fun c_15 => ?_) (fun c_15 => ?_)
              · skip
                have c_15' : z_13.toInt = r_14.toInt := jb_eq (rfl) (rfl) c_15
                obtain ⟨z_16, ez_16⟩ : ∃ y : Int32, y = v4_10 + 1 := ⟨_, rfl⟩
                refine lv_iinc (v := z_16) (lv' := [(4, .int z_16), (0, .ref r0), (1, .int a1), (2, .int a2), (3, .ref r3)]) hx hb dX4_areUnits_54 hl (k := 4) rfl (by rw [ez_16]; rfl) (by decide) rfl (fun ls hl => ?_)
                have hz_16 : z_16.toInt = v4_10.toInt + 1 := by rw [ez_16]; exact jb_iadd2 (rfl) (by decide) (by omega)
                refine lv_goto (tgt := 28) hx hb dX4_areUnits_57 (by decide) ?_
                exact L28 z_16 _ _ hh_10 (hfl_10) (by first | omega | rfl | assumption | decide | exact Or.inl rfl | exact Or.inr rfl | (simp only; omega)) (by omega) _ (lv_sub hl [1, 2, 3, 4, 0] rfl)
              · skip
                have c_15' : z_13.toInt ≠ r_14.toInt := jb_eq_n (rfl) (rfl) c_15
                refine lv_iconst (v := 0) hx hb dX4_areUnits_52 (by decide) ?_
                rw [hQ]
                exact W.zret (v := 0) hx hb hr (jb_nz (Or.inl rfl)) (fun t ht hW => ⟨⟨0, (), rfl, ⟨(Or.inl rfl), by first | omega | rfl | assumption | decide | exact Or.inl rfl | exact Or.inr rfl | (simp only; omega)⟩, ⟨hh_10.rt (M1 := []) [] rfl ht, by rw [ht]; exact hfl_10⟩⟩, by rw [ht]; try exact hh_10.1.1, fun q h9 hq => by rw [ht]; try exact hh_10.1.2.1 q h9 hq⟩) hh_10.1.2.2 dX4_areUnits_53
        exact L28 (((a2.toInt - (0 : Int32).toInt).toNat : Int) : Int).toNat.succ 0 _ _ hh_6 (hfl) (by first | omega | rfl | assumption | decide | exact Or.inl rfl | exact Or.inr rfl | (simp only; omega)) (by omega) _ (lv_sub hl [1, 2, 3, 4, 0] rfl)
      · skip
        have c_9' : z_4.toInt > z_8.toInt := jb_le_n (rfl) (rfl) c_9
        refine lv_iconst (v := 0) hx hb dX4_areUnits_23 (by decide) ?_
        rw [hQ]
        exact W.zret (v := 0) hx hb hr (jb_nz (Or.inl rfl)) (fun t ht hW => ⟨⟨0, (), rfl, ⟨(Or.inl rfl), by first | omega | rfl | assumption | decide | exact Or.inl rfl | exact Or.inr rfl | (simp only; omega)⟩, ⟨hh_6.rt (M1 := []) [] rfl ht, by rw [ht]; exact hfl⟩⟩, by rw [ht]; try exact hh_6.1.1, fun q h9 hq => by rw [ht]; try exact hh_6.1.2.1 q h9 hq⟩) hh_6.1.2.2 dX4_areUnits_24
set_option maxHeartbeats 4000000 in
set_option maxRecDepth 20000 in
theorem uX4_memberQ (l : Launch) (dC : Nat → ClassId) (dI : Nat → Nat → Nat) (ca : Nat → ClassId) (base : Nat) (B : jF) (hB : jBok B) (hAp : jAp (dC, dI)) (hB6 : ∀ n G a H, B 6 n G a H ↔ jOb (dC, dI) 6 12 (F6 n G) a H) (hB140 : ∀ n G a H, B 140 n G a H ↔ jAr (dC, dI) (ca 1) (fun j z => True) n a H) (hB141 : ∀ n G a H, B 141 n G a H ↔ jAr (dC, dI) (ca 1) (fun j z => True) n a H) (hB142 : ∀ n G a H, B 142 n G a H ↔ jAr (dC, dI) (ca 1) (fun j z => True) n a H) (hB143 : ∀ n G a H, B 143 n G a H ↔ jAr (dC, dI) (ca 1) (fun j z => True) n a H) (hB144 : ∀ n G a H, B 144 n G a H ↔ jAr (dC, dI) (ca 1) (fun j z => 0 ≤ z.toInt ∧ z.toInt ≤ 3000) n a H) (hB145 : ∀ n G a H, B 145 n G a H ↔ jAr (dC, dI) (ca 1) (fun j z => True) n a H) (hB146 : ∀ n G a H, B 146 n G a H ↔ jAr (dC, dI) (ca 1) (fun j z => True) n a H) (G0 : jT) (H0 : Heap) (r0 : Nat) (a1 : Int32) (r2 : Nat) (n2 : Nat) (pv : Int32) (wk : Nat) (wi : Nat) (wz : Nat) (jks : Nat) (fk : Nat → Int32) (fi : Nat → Int32) (fz : Nat → Int32) (fs : Nat → Int32) : Met l yX4_member (jw yX4_member cX4_member 6 (some .int)) ({ frames := 5, cells := 0, slots := 0, locals := 165 }) (va_Pc [.ref r0, .int a1, .ref r2] (fun U => U.heap = H0 ∧ jX B base G0 [] H0 ∧ jG dC dI ca base U ∧ jStr base r2 n2 U H0 ∧ G0 r0 = some (6, 0) ∧ G0 wk = some (140, 1502) ∧ G0 wi = some (141, 1502) ∧ G0 wz = some (142, 1502) ∧ G0 jks = some (145, 1502) ∧ jP (dC, dI) G0 H0 [(r0, 6, 7, .int pv), (r0, 6, 0, .ref wk), (r0, 6, 1, .ref wi), (r0, 6, 2, .ref wz), (r0, 6, 5, .ref jks)] ∧ jMc (dC, dI) G0 H0 [(wk, 140, 1502, ca 1, fk), (wi, 141, 1502, ca 1, fi), (wz, 142, 1502, ca 1, fz), (jks, 145, 1502, ca 1, fs)] ∧ 0 ≤ pv.toInt ∧ pv.toInt ≤ 1502 ∧ n2 ≤ 1000)) (va_Qi (S := Unit) (fun r u => (-1 ≤ r.toInt ∧ r.toInt ≤ 1501 ∧ (r.toInt < 0 ∨ (r.toInt < pv.toInt ∧ jSo fs r.toInt = n2 ∧ 0 ≤ a1.toInt ∧ a1.toInt < pv.toInt ∧ jSo fk a1.toInt = 1)))) (fun u t => (jRt (dC, dI) B base G0 EX4_memberQ H0 [] t.heap) ∧ jKl [] H0 t.heap) (jA base)) 0 0 (jA base) := by
  refine Met.ofW (cc := cX4_member) (maxL := 6) (ret := (some .int)) (by decide) rfl ?_
  intro p e s m args below meth c s₁ Bd hml hv
  obtain ⟨rfl, hH0, hX, hG, hstr_r2, hg_r0, hg_wk, hg_wi, hg_wz, hg_jks, hP0, hM0, hp0, hp1, hp2⟩ := hv
  have hK := hG.1
  have hx := Bd.exec
  have hb := Bd.bytes
  have hr := Bd.returns
  have hts := atoms_spec (ws := (jw yX4_member cX4_member 6 (some .int))) Bd.pre
  have htw : ∀ w ∈ jWl, w.before _ s = true := fun w h => hts w (List.mem_cons_of_mem _ h)
  have hown : s.vm.findClass RX4 = some m.cls := findClass_of_methodNamed Bd.named
  have hlocks := Bd.notSynchronized
  obtain ⟨Q, hQ⟩ : ∃ Q, Q = MQ below (va_Qi (S := Unit) (fun r u => (-1 ≤ r.toInt ∧ r.toInt ≤ 1501 ∧ (r.toInt < 0 ∨ (r.toInt < pv.toInt ∧ jSo fs r.toInt = n2 ∧ 0 ≤ a1.toInt ∧ a1.toInt < pv.toInt ∧ jSo fk a1.toInt = 1)))) (fun u t => (jRt (dC, dI) B base G0 EX4_memberQ H0 [] t.heap) ∧ jKl [] H0 t.heap) (jA base)) ([.ref r0, .int a1, .ref r2] : List Value).toArray s 0 0 (jA base) := ⟨_, rfl⟩
  rw [← hQ]
  have hl := lv_entry ([.ref r0, .int a1, .ref r2]) (n := 6) (Nat.le_of_ble_eq_true rfl)
  rw [lg_entry_eq]
  generalize (lg_sl ([.ref r0, .int a1, .ref r2]) ++ List.replicate (6 - (lg_sl ([.ref r0, .int a1, .ref r2])).length) Slot.unset).toArray = ls at hl ⊢
  have hl : lv_has ls 6 [(0, .ref r0), (1, .int a1), (2, .ref r2)] := hl
  generalize hR : (headSpec (jw yX4_member cX4_member 6 (some .int)) ({ frames := 5, cells := 0, slots := 0, locals := 165 })).room = R
  subst hH0
  have hh : jSt (dC, dI) B base G0 G0 EX4_memberQ s.heap 0 0 [(r0, 6, 7, .int pv), (r0, 6, 0, .ref wk), (r0, 6, 1, .ref wi), (r0, 6, 2, .ref wz), (r0, 6, 5, .ref jks)] [(wk, 140, 1502, ca 1, fk), (wi, 141, 1502, ca 1, fi), (wz, 142, 1502, ca 1, fz), (jks, 145, 1502, ca 1, fs)] [] s.heap [] := jSt.start hX hP0 hM0 jIs.nil
  clear hX hP0
  have hkm1 : ((-1) : Int32).toInt = (-1) := by decide
  have hk0 : (0 : Int32).toInt = 0 := by decide
  have hk1 : (1 : Int32).toInt = 1 := by decide
  have hly_6_1 := htw (u_lay RX4 TX4 1) (jWc_wsX40 _ (u_in_lay (by decide)))
  have hly_6_2 := htw (u_lay RX4 TX4 2) (jWc_wsX40 _ (u_in_lay (by decide)))
  have hly_6_3 := htw (u_lay RX4 TX4 3) (jWc_wsX40 _ (u_in_lay (by decide)))
  have hly_6_4 := htw (u_lay RX4 TX4 4) (jWc_wsX40 _ (u_in_lay (by decide)))
  have hly_6_5 := htw (u_lay RX4 TX4 5) (jWc_wsX40 _ (u_in_lay (by decide)))
  have hly_6_7 := htw (u_lay RX4 TX4 7) (jWc_wsX40 _ (u_in_lay (by decide)))
  have hlk_15 := (htw (.fieldLink RX4 15 "ProofServer$Json" "firsts" "[I") (jWr_3 _ (List.mem_of_getElem? (i := 22) rfl)))
  have hlk_18 := (htw (.fieldLink RX4 18 "ProofServer$Json" "sizes" "[I") (jWr_3 _ (List.mem_of_getElem? (i := 23) rfl)))
  have hlk_50 := (htw (.fieldLink RX4 50 "ProofServer$Json" "values" "I") (jWr_19 _ (List.mem_of_getElem? (i := 13) rfl)))
  have hlk_24 := (htw (.fieldLink RX4 24 "ProofServer$Json" "keyFirsts" "[I") (jWr_4 _ (List.mem_of_getElem? (i := 1) rfl)))
  have hlk_27 := (htw (.fieldLink RX4 27 "ProofServer$Json" "keySizes" "[I") (jWr_4 _ (List.mem_of_getElem? (i := 2) rfl)))
  have hlk_21 := (htw (.fieldLink RX4 21 "ProofServer$Json" "nexts" "[I") (jWr_4 _ (List.mem_of_getElem? (i := 0) rfl)))
  have hrg_a1 := jb_rng a1
  have hfl : jKl [] s.heap s.heap := jKl.rf
  refine lv_aload_n hx hb dX4_member_0 rfl (lv_at hl 0 rfl) ?_
  refine lv_iload_n hx hb dX4_member_1 rfl (lv_at hl 1 rfl) ?_
  refine va_calli (A0 := jA base) (H0 := s.heap) (va_runV (As := [.int a1]) (rest := []) ⟨hx, hb, hml, hown, hts⟩ (uX4_kindOfW l dC dI ca base B hB hAp hB6 hB140 G0 s.heap r0 a1 pv wk wi wz fk fi fz) (cwV 1 hts (jgV (jWr_23 _ (List.mem_of_getElem? (i := 14) rfl)) (jWr_23 _ (List.mem_of_getElem? (i := 15) rfl)) (jWr_23 _ (List.mem_of_getElem? (i := 16) rfl)) (jWr_1 _ (List.mem_of_getElem? (i := 22) rfl)) (jWr_23 _ (List.mem_of_getElem? (i := 17) rfl))) rfl rfl rfl (by decide +kernel) ⟨by rw [← hR]; exact Nat.le_of_ble_eq_true rfl, by rw [← hR]; exact Nat.le_of_ble_eq_true rfl⟩) ⟨fun a U g mk q => by obtain ⟨q0, q1, q2, qK, q10, q11, q12, q13, q14, q15, q16⟩ := q; exact ⟨q0, q1, q2, jG.calling g mk a qK, q10, q11, q12, q13, q14, q15, q16⟩, hh.recv (C := RX4) (T := TX4) (N := 12) hB6 rfl (by decide) hg_r0 hK, fun U hU hW => ⟨rfl, hU, hh.2.1, hG.step hW hU hh.1, hg_r0, hg_wk, hg_wi, hg_wz, (hh.2.2.1.sub (L1 := [(r0, 6, 7, .int pv), (r0, 6, 0, .ref wk), (r0, 6, 1, .ref wi), (r0, 6, 2, .ref wz)]) [0, 1, 2, 3] rfl), (hh.2.2.2.2.2.2.2.1.sub (L1 := [(wk, 140, 1502, ca 1, fk), (wi, 141, 1502, ca 1, fi), (wz, 142, 1502, ca 1, fz)]) [0, 1, 2] rfl), by first | omega | (refine ⟨?_, ?_⟩ <;> (first | omega | rfl | assumption | decide | exact Or.inl rfl | exact Or.inr rfl | (simp only; omega)))⟩⟩ rfl rfl hl.1 rfl (lv_room (Nat.le_of_ble_eq_true rfl)) dX4_member_2 ⟨Nat.zero_le _, Nat.zero_le _⟩) hh.1 (fun q _ h => h) (fun q h => h) (fun r_2 u_1 t_1 H_1 locs_1 ht_1 hvm_1 hr_2 hb_1 hz_1 hk_1 hS_1 => ?_)
  rw [ht_1] at hb_1
  obtain ⟨hb_1, hbF_1⟩ := hb_1
  obtain ⟨hb_11, hb_12, hb_13, hb_14, hb_15⟩ := hb_1
  have hh_1 : jSt (dC, dI) B base G0 G0 EX4_memberQ s.heap 0 0 [(r0, 6, 7, .int pv), (r0, 6, 0, .ref wk), (r0, 6, 1, .ref wi), (r0, 6, 2, .ref wz), (r0, 6, 5, .ref jks)] [(wk, 140, 1502, ca 1, fk), (wi, 141, 1502, ca 1, fi), (wz, 142, 1502, ca 1, fz), (jks, 145, 1502, ca 1, fs)] [] H_1 locs_1 := ((hh.call hb_11 hb_12 hb_13 hb_14 hS_1 rfl (L1 := [(r0, 6, 7, .int pv), (r0, 6, 0, .ref wk), (r0, 6, 1, .ref wi), (r0, 6, 2, .ref wz), (r0, 6, 5, .ref jks)]) [0, 1, 2, 3, 4] rfl rfl (M1 := [(wk, 140, 1502, ca 1, fk), (wi, 141, 1502, ca 1, fi), (wz, 142, 1502, ca 1, fz), (jks, 145, 1502, ca 1, fs)]) [0, 1, 2, 3] rfl rfl (I1 := []) [] rfl rfl).more hb_15)
  clear hh ht_1 hvm_1 hz_1 hk_1 hS_1 hb_11 hb_12 hb_13 hb_14 hb_15
  have hfl_3 := hfl.tr hbF_1 (by first | exact fun q h => h | (intro q h9; simp at h9 ⊢; exact h9) | (intro q h9; simp at h9))
  refine lv_iconst (v := 1) hx hb dX4_member_5 (by decide) ?_
  refine lv_icmp_eq (tgt := 11) hx hb dX4_member_6 (by decide) (fun c_4 => ?_) (fun c_4 => ?_)
  · skip
    have c_4' : r_2.toInt = 1 := jb_eq (rfl) ((by decide)) c_4
    first | (have hr_2q := hr_2.resolve_left (by omega); clear hr_2) | (have hr_2q := hr_2.resolve_right (by omega); clear hr_2) | try clear hr_2
    refine lv_iconst (v := (-1)) hx hb dX4_member_11 (by decide) ?_
    refine lv_istore_n (lv' := [(3, .int (-1)), (0, .ref r0), (1, .int a1), (2, .ref r2)]) hx hb dX4_member_12 rfl hl (by decide) rfl (fun ls hl => ?_)
    refine lv_aload_n hx hb dX4_member_13 rfl (lv_at hl 1 rfl) ?_
    refine j7_read hx hb hown hK (C := RX4) (T := TX4) (N := 12) rfl hly_6_1 hlk_15 (hh_1.at 2 rfl) dX4_member_14 ?_
    refine lv_iload_n hx hb dX4_member_17 rfl (lv_at hl 2 rfl) ?_
    refine j7_ialdM hx hb hK hh_1 hB141 1 rfl (by decide) hg_wi (x := a1.toInt) (rfl) (by omega) (j := 1) rfl dX4_member_18 (fun z_5 ez_5 (hz_5 : True) => ?_)
    have hqz_5 : z_5.toInt = jSo fi (a1.toInt) := by unfold jSo; rw [ez_5]
    refine lv_istore (lv' := [(4, .int z_5), (3, .int (-1)), (0, .ref r0), (1, .int a1), (2, .ref r2)]) hx hb dX4_member_19 hl (by decide) rfl (fun ls hl => ?_)
    refine lv_iconst (v := 0) hx hb dX4_member_21 (by decide) ?_
    refine lv_istore (lv' := [(5, .int 0), (4, .int z_5), (3, .int (-1)), (0, .ref r0), (1, .int a1), (2, .ref r2)]) hx hb dX4_member_22 hl (by decide) rfl (fun ls hl => ?_)
    have L24 : ∀ (N : Nat) (v3_6 : Int32) (v4_6 : Int32) (v5_6 : Int32) (H_6 : Heap) (locs_6 : List Loc), jSt (dC, dI) B base G0 G0 EX4_memberQ s.heap 0 0 [(r0, 6, 7, .int pv), (r0, 6, 0, .ref wk), (r0, 6, 1, .ref wi), (r0, 6, 2, .ref wz), (r0, 6, 5, .ref jks)] [(wk, 140, 1502, ca 1, fk), (wi, 141, 1502, ca 1, fi), (wz, 142, 1502, ca 1, fz), (jks, 145, 1502, ca 1, fs)] [] H_6 locs_6 → jKl [] s.heap H_6 → (0 ≤ v5_6.toInt ∧ -1 ≤ v3_6.toInt ∧ v3_6.toInt ≤ 1501 ∧ (v3_6.toInt < 0 ∨ (v3_6.toInt < pv.toInt ∧ jSo fs v3_6.toInt = n2))) → (((jSo fz a1.toInt - v5_6.toInt).toNat : Int) : Int) < N → ∀ ls : Array Slot, lv_has ls 6 [(0, .ref r0), (1, .int a1), (2, .ref r2), (3, .int v3_6), (4, .int v4_6), (5, .int v5_6)] → W p l e R s m ([.ref r0, .int a1, .ref r2] : List Value).toArray below meth c H_6 locs_6 0 0 Q (F0 m 24 ls []) := by
      intro N
      induction N with
      | zero => intro v3_6 v4_6 v5_6 H_6 locs_6 hh_6 hfl_6 hi_6 hm; exact absurd hm (by omega)
      | succ N L24 =>
        intro v3_6 v4_6 v5_6 H_6 locs_6 hh_6 hfl_6 hi_6 hm_6 ls hl
        obtain ⟨hi_6_0, hi_6_1, hi_6_2, hi_6_3⟩ := hi_6
        have hrs : jSo fz a1.toInt ≤ 2147483647 := by unfold jSo; have := jb_rng (fz (a1.toInt).toNat); omega
        refine lv_iload hx hb dX4_member_24 (lv_at hl 5 rfl) ?_
        refine lv_aload_n hx hb dX4_member_26 rfl (lv_at hl 0 rfl) ?_
        refine j7_read hx hb hown hK (C := RX4) (T := TX4) (N := 12) rfl hly_6_2 hlk_18 (hh_6.at 3 rfl) dX4_member_27 ?_
        refine lv_iload_n hx hb dX4_member_30 rfl (lv_at hl 1 rfl) ?_
        refine j7_ialdM hx hb hK hh_6 hB142 1 rfl (by decide) hg_wz (x := a1.toInt) (rfl) (by omega) (j := 2) rfl dX4_member_31 (fun z_7 ez_7 (hz_7 : True) => ?_)
        have hqz_7 : z_7.toInt = jSo fz (a1.toInt) := by unfold jSo; rw [ez_7]
        refine lv_icmp_ge (tgt := 89) hx hb dX4_member_32 (by decide) (fun c_8 => ?_) (fun c_8 => ?_)
        · skip
          have c_8' : v5_6.toInt ≥ z_7.toInt := jb_ge (rfl) (rfl) c_8
          refine lv_iload_n hx hb dX4_member_89 rfl (lv_at hl 3 rfl) ?_
          rw [hQ]
          exact W.iret (v := v3_6) hx hb hr (fun t ht hW => ⟨⟨v3_6, (), rfl, by first | omega | (refine ⟨?_, ?_, ?_⟩ <;> (first | omega | rfl | assumption | decide | exact Or.inl rfl | exact Or.inr rfl | (simp only; omega))), ⟨hh_6.rt (M1 := []) [] rfl ht, by rw [ht]; exact hfl_6⟩⟩, by rw [ht]; try exact hh_6.1.1, fun q h9 hq => by rw [ht]; try exact hh_6.1.2.1 q h9 hq⟩) hh_6.1.2.2 dX4_member_90
        · skip
          have c_8' : v5_6.toInt < z_7.toInt := jb_ge_n (rfl) (rfl) c_8
          refine lv_iload hx hb dX4_member_35 (lv_at hl 4 rfl) ?_
          refine lv_if_lt (tgt := 89) hx hb dX4_member_37 (by decide) (fun c_9 => ?_) (fun c_9 => ?_)
          · skip
            have c_9' : v4_6.toInt < 0 := jb_lt (rfl) ((by decide)) c_9
            refine lv_iload_n hx hb dX4_member_89 rfl (lv_at hl 3 rfl) ?_
            rw [hQ]
            exact W.iret (v := v3_6) hx hb hr (fun t ht hW => ⟨⟨v3_6, (), rfl, by first | omega | (refine ⟨?_, ?_, ?_⟩ <;> (first | omega | rfl | assumption | decide | exact Or.inl rfl | exact Or.inr rfl | (simp only; omega))), ⟨hh_6.rt (M1 := []) [] rfl ht, by rw [ht]; exact hfl_6⟩⟩, by rw [ht]; try exact hh_6.1.1, fun q h9 hq => by rw [ht]; try exact hh_6.1.2.1 q h9 hq⟩) hh_6.1.2.2 dX4_member_90
          · skip
            have c_9' : v4_6.toInt ≥ 0 := jb_lt_n (rfl) ((by decide)) c_9
            refine lv_iload hx hb dX4_member_40 (lv_at hl 4 rfl) ?_
            refine lv_aload_n hx hb dX4_member_42 rfl (lv_at hl 0 rfl) ?_
            refine j7_read hx hb hown hK (C := RX4) (T := TX4) (N := 12) rfl hly_6_7 hlk_50 (hh_6.at 0 rfl) dX4_member_43 ?_
            refine lv_icmp_ge (tgt := 89) hx hb dX4_member_46 (by decide) (fun c_10 => ?_) (fun c_10 => ?_)
            · skip
              have c_10' : v4_6.toInt ≥ pv.toInt := jb_ge (rfl) (rfl) c_10
              refine lv_iload_n hx hb dX4_member_89 rfl (lv_at hl 3 rfl) ?_
              rw [hQ]
              exact W.iret (v := v3_6) hx hb hr (fun t ht hW => ⟨⟨v3_6, (), rfl, by first | omega | (refine ⟨?_, ?_, ?_⟩ <;> (first | omega | rfl | assumption | decide | exact Or.inl rfl | exact Or.inr rfl | (simp only; omega))), ⟨hh_6.rt (M1 := []) [] rfl ht, by rw [ht]; exact hfl_6⟩⟩, by rw [ht]; try exact hh_6.1.1, fun q h9 hq => by rw [ht]; try exact hh_6.1.2.1 q h9 hq⟩) hh_6.1.2.2 dX4_member_90
            · skip
              have c_10' : v4_6.toInt < pv.toInt := jb_ge_n (rfl) (rfl) c_10
              refine lv_aload_n hx hb dX4_member_49 rfl (lv_at hl 0 rfl) ?_
              refine lv_aload_n hx hb dX4_member_50 rfl (lv_at hl 0 rfl) ?_
              obtain ⟨v_11, hv_11, hh_12⟩ := hh_6.pin (C := RX4) (T := TX4) (N := 12) hB6 rfl (by decide) hg_r0 (i := 4) (by decide) rfl
              clear hh_6
              obtain ⟨keyFirsts_13, rfl, hg_keyFirsts_13⟩ := hv_11
              refine j7_read hx hb hown hK (C := RX4) (T := TX4) (N := 12) rfl hly_6_4 hlk_24 (hh_12.at 0 rfl) dX4_member_51 ?_
              refine lv_iload hx hb dX4_member_54 (lv_at hl 4 rfl) ?_
              refine j7_iald hx hb hK hh_12 hB144 1 rfl (by decide) hg_keyFirsts_13 (x := v4_6.toInt) (rfl) (by omega) dX4_member_56 (fun z_14 (hz_14 : 0 ≤ z_14.toInt ∧ z_14.toInt ≤ 3000) => ?_)
              refine lv_aload_n hx hb dX4_member_57 rfl (lv_at hl 0 rfl) ?_
              refine j7_read hx hb hown hK (C := RX4) (T := TX4) (N := 12) rfl hly_6_5 hlk_27 (hh_12.at 5 rfl) dX4_member_58 ?_
              refine lv_iload hx hb dX4_member_61 (lv_at hl 4 rfl) ?_
              refine j7_ialdM hx hb hK hh_12 hB145 1 rfl (by decide) hg_jks (x := v4_6.toInt) (rfl) (by omega) (j := 3) rfl dX4_member_63 (fun z_15 ez_15 (hz_15 : True) => ?_)
              have hqz_15 : z_15.toInt = jSo fs (v4_6.toInt) := by unfold jSo; rw [ez_15]
              refine lv_aload_n hx hb dX4_member_64 rfl (lv_at hl 2 rfl) ?_
              refine va_calli (A0 := jA base) (H0 := s.heap) (va_runV (As := [.int z_14, .int z_15, .ref r2]) (rest := []) ⟨hx, hb, hml, hown, hts⟩ (uX4_areUnitsQ l dC dI ca base B hB hAp hB6 hB146 G0 H_6 r0 z_14 z_15 r2 n2) (cwV 3 hts (jgV (jWr_23 _ (List.mem_of_getElem? (i := 18) rfl)) (jWr_23 _ (List.mem_of_getElem? (i := 19) rfl)) (jWr_23 _ (List.mem_of_getElem? (i := 20) rfl)) (jWr_1 _ (List.mem_of_getElem? (i := 22) rfl)) (jWr_23 _ (List.mem_of_getElem? (i := 21) rfl))) rfl rfl rfl (by decide +kernel) ⟨by rw [← hR]; exact Nat.le_of_ble_eq_true rfl, by rw [← hR]; exact Nat.le_of_ble_eq_true rfl⟩) ⟨fun a U g mk q => by obtain ⟨q0, q1, q2, qK, q10, q11, q12, q13⟩ := q; exact ⟨q0, q1, q2, jG.calling g mk a qK, (q10.moved (Vm.Alike.refl U.vm)), q11, q12, q13⟩, hh_12.recv (C := RX4) (T := TX4) (N := 12) hB6 rfl (by decide) hg_r0 hK, fun U hU hW => ⟨rfl, hU, hh_12.2.1, hG.step hW hU hh_12.1, (hstr_r2.moved hW.alike).kept hh_12.1.2.1, hg_r0, jP.nil, by first | omega | (refine ⟨?_, ?_⟩ <;> (first | omega | rfl | assumption | decide | exact Or.inl rfl | exact Or.inr rfl | (simp only; omega)))⟩⟩ rfl rfl hl.1 rfl (lv_room (Nat.le_of_ble_eq_true rfl)) dX4_member_65 ⟨Nat.zero_le _, Nat.zero_le _⟩) hh_12.1 (fun q _ h => h) (fun q h => h) (fun r_17 u_16 t_16 H_16 locs_16 ht_16 hvm_16 hr_17 hb_16 hz_16 hk_16 hS_16 => ?_)
              rw [ht_16] at hb_16
              obtain ⟨hb_16, hbF_16⟩ := hb_16
              obtain ⟨hb_161, hb_162, hb_163, hb_164, hb_165⟩ := hb_16
              have hh_16 : jSt (dC, dI) B base G0 G0 EX4_memberQ s.heap 0 0 [(r0, 6, 4, .ref keyFirsts_13), (r0, 6, 7, .int pv), (r0, 6, 0, .ref wk), (r0, 6, 1, .ref wi), (r0, 6, 2, .ref wz), (r0, 6, 5, .ref jks)] [(wk, 140, 1502, ca 1, fk), (wi, 141, 1502, ca 1, fi), (wz, 142, 1502, ca 1, fz), (jks, 145, 1502, ca 1, fs)] [] H_16 locs_16 := ((hh_12.call hb_161 hb_162 hb_163 hb_164 hS_16 rfl (L1 := [(r0, 6, 4, .ref keyFirsts_13), (r0, 6, 7, .int pv), (r0, 6, 0, .ref wk), (r0, 6, 1, .ref wi), (r0, 6, 2, .ref wz), (r0, 6, 5, .ref jks)]) [0, 1, 2, 3, 4, 5] rfl rfl (M1 := [(wk, 140, 1502, ca 1, fk), (wi, 141, 1502, ca 1, fi), (wz, 142, 1502, ca 1, fz), (jks, 145, 1502, ca 1, fs)]) [0, 1, 2, 3] rfl rfl (I1 := []) [] rfl rfl).more hb_165)
              clear hh_12 ht_16 hvm_16 hz_16 hk_16 hS_16 hb_161 hb_162 hb_163 hb_164 hb_165
              have hfl_18 := hfl_6.tr hbF_16 (by first | exact fun q h => h | (intro q h9; simp at h9 ⊢; exact h9) | (intro q h9; simp at h9))
              obtain ⟨hr_17b, hr_17p⟩ := hr_17
              have hr_17' := jb_01 hr_17b
              refine lv_if_eq (tgt := 74) hx hb dX4_member_68 (by decide) (fun c_19 => ?_) (fun c_19 => ?_)
              · skip
                have c_19' : r_17.toInt = 0 := jb_eq (rfl) ((by decide)) c_19
                first | (have hr_17pq := hr_17p.resolve_left (by omega); clear hr_17p) | (have hr_17pq := hr_17p.resolve_right (by omega); clear hr_17p) | try clear hr_17p
                refine lv_aload_n hx hb dX4_member_74 rfl (lv_at hl 0 rfl) ?_
                obtain ⟨v_20, hv_20, hh_21⟩ := hh_16.pin (C := RX4) (T := TX4) (N := 12) hB6 rfl (by decide) hg_r0 (i := 3) (by decide) rfl
                clear hh_16
                obtain ⟨nexts_22, rfl, hg_nexts_22⟩ := hv_20
                refine j7_read hx hb hown hK (C := RX4) (T := TX4) (N := 12) rfl hly_6_3 hlk_21 (hh_21.at 0 rfl) dX4_member_75 ?_
                refine lv_iload hx hb dX4_member_78 (lv_at hl 4 rfl) ?_
                refine j7_iald hx hb hK hh_21 hB143 1 rfl (by decide) hg_nexts_22 (x := v4_6.toInt) (rfl) (by omega) dX4_member_80 (fun z_23 (hz_23 : True) => ?_)
                refine lv_istore (lv' := [(4, .int z_23), (0, .ref r0), (1, .int a1), (2, .ref r2), (3, .int v3_6), (5, .int v5_6)]) hx hb dX4_member_81 hl (by decide) rfl (fun ls hl => ?_)
                obtain ⟨z_24, ez_24⟩ : ∃ y : Int32, y = v5_6 + 1 := ⟨_, rfl⟩
                refine lv_iinc (v := z_24) (lv' := [(5, .int z_24), (4, .int z_23), (0, .ref r0), (1, .int a1), (2, .ref r2), (3, .int v3_6)]) hx hb dX4_member_83 hl (k := 5) rfl (by rw [ez_24]; rfl) (by decide) rfl (fun ls hl => ?_)
                have hz_24 : z_24.toInt = v5_6.toInt + 1 := by rw [ez_24]; exact jb_iadd2 (rfl) (by decide) (by omega)
                refine lv_goto (tgt := 24) hx hb dX4_member_86 (by decide) ?_
                exact L24 v3_6 z_23 z_24 _ _ (hh_21.sub (L1 := [(r0, 6, 7, .int pv), (r0, 6, 0, .ref wk), (r0, 6, 1, .ref wi), (r0, 6, 2, .ref wz), (r0, 6, 5, .ref jks)]) [2, 3, 4, 5, 6] rfl (M1 := [(wk, 140, 1502, ca 1, fk), (wi, 141, 1502, ca 1, fi), (wz, 142, 1502, ca 1, fz), (jks, 145, 1502, ca 1, fs)]) [0, 1, 2, 3] rfl (I1 := []) [] rfl) (hfl_18) (by first | omega | (refine ⟨?_, ?_, ?_, ?_⟩ <;> (first | omega | rfl | assumption | decide | exact Or.inl rfl | exact Or.inr rfl | (simp only; omega)))) (by omega) _ (lv_sub hl [2, 3, 4, 5, 1, 0] rfl)
              · skip
                have c_19' : r_17.toInt ≠ 0 := jb_eq_n (rfl) ((by decide)) c_19
                first | (have hr_17pq := hr_17p.resolve_left (by omega); clear hr_17p) | (have hr_17pq := hr_17p.resolve_right (by omega); clear hr_17p) | try clear hr_17p
                refine lv_iload hx hb dX4_member_71 (lv_at hl 4 rfl) ?_
                refine lv_istore_n (lv' := [(3, .int v4_6), (0, .ref r0), (1, .int a1), (2, .ref r2), (4, .int v4_6), (5, .int v5_6)]) hx hb dX4_member_73 rfl hl (by decide) rfl (fun ls hl => ?_)
                refine lv_aload_n hx hb dX4_member_74 rfl (lv_at hl 1 rfl) ?_
                obtain ⟨v_25, hv_25, hh_26⟩ := hh_16.pin (C := RX4) (T := TX4) (N := 12) hB6 rfl (by decide) hg_r0 (i := 3) (by decide) rfl
                clear hh_16
                obtain ⟨nexts_27, rfl, hg_nexts_27⟩ := hv_25
                refine j7_read hx hb hown hK (C := RX4) (T := TX4) (N := 12) rfl hly_6_3 hlk_21 (hh_26.at 0 rfl) dX4_member_75 ?_
                refine lv_iload hx hb dX4_member_78 (lv_at hl 4 rfl) ?_
                refine j7_iald hx hb hK hh_26 hB143 1 rfl (by decide) hg_nexts_27 (x := v4_6.toInt) (rfl) (by omega) dX4_member_80 (fun z_28 (hz_28 : True) => ?_)
                refine lv_istore (lv' := [(4, .int z_28), (3, .int v4_6), (0, .ref r0), (1, .int a1), (2, .ref r2), (5, .int v5_6)]) hx hb dX4_member_81 hl (by decide) rfl (fun ls hl => ?_)
                obtain ⟨z_29, ez_29⟩ : ∃ y : Int32, y = v5_6 + 1 := ⟨_, rfl⟩
                refine lv_iinc (v := z_29) (lv' := [(5, .int z_29), (4, .int z_28), (3, .int v4_6), (0, .ref r0), (1, .int a1), (2, .ref r2)]) hx hb dX4_member_83 hl (k := 5) rfl (by rw [ez_29]; rfl) (by decide) rfl (fun ls hl => ?_)
                have hz_29 : z_29.toInt = v5_6.toInt + 1 := by rw [ez_29]; exact jb_iadd2 (rfl) (by decide) (by omega)
                refine lv_goto (tgt := 24) hx hb dX4_member_86 (by decide) ?_
                exact L24 v4_6 z_28 z_29 _ _ (hh_26.sub (L1 := [(r0, 6, 7, .int pv), (r0, 6, 0, .ref wk), (r0, 6, 1, .ref wi), (r0, 6, 2, .ref wz), (r0, 6, 5, .ref jks)]) [2, 3, 4, 5, 6] rfl (M1 := [(wk, 140, 1502, ca 1, fk), (wi, 141, 1502, ca 1, fi), (wz, 142, 1502, ca 1, fz), (jks, 145, 1502, ca 1, fs)]) [0, 1, 2, 3] rfl (I1 := []) [] rfl) (hfl_18) (by first | omega | (refine ⟨?_, ?_, ?_, ?_⟩ <;> (first | omega | rfl | assumption | decide | exact Or.inl rfl | exact Or.inr rfl | (simp only; omega)))) (by omega) _ (lv_sub hl [3, 4, 5, 2, 1, 0] rfl)
    exact L24 (((jSo fz a1.toInt - (0 : Int32).toInt).toNat : Int) : Int).toNat.succ (-1) z_5 0 _ _ hh_1 (hfl_3) (by first | omega | (refine ⟨?_, ?_, ?_, ?_⟩ <;> (first | omega | rfl | assumption | decide | exact Or.inl rfl | exact Or.inr rfl | (simp only; omega)))) (by omega) _ (lv_sub hl [3, 4, 5, 2, 1, 0] rfl)
  · skip
    have c_4' : r_2.toInt ≠ 1 := jb_eq_n (rfl) ((by decide)) c_4
    try clear hr_2
    refine lv_iconst (v := (-1)) hx hb dX4_member_9 (by decide) ?_
    rw [hQ]
    exact W.iret (v := (-1)) hx hb hr (fun t ht hW => ⟨⟨(-1), (), rfl, by first | omega | (refine ⟨?_, ?_, ?_⟩ <;> (first | omega | rfl | assumption | decide | exact Or.inl rfl | exact Or.inr rfl | (simp only; omega))), ⟨hh_1.rt (M1 := []) [] rfl ht, by rw [ht]; exact hfl_3⟩⟩, by rw [ht]; try exact hh_1.1.1, fun q h9 hq => by rw [ht]; try exact hh_1.1.2.1 q h9 hq⟩) hh_1.1.2.2 dX4_member_10
end
section
theorem dX11_cancelRequest_0 : decode cX11_cancelRequest 0 = .ok (.new 115, 3) := by decide +kernel
theorem dX11_cancelRequest_3 : decode cX11_cancelRequest 3 = .ok (.dup, 1) := by decide +kernel
theorem dX11_cancelRequest_4 : decode cX11_cancelRequest 4 = .ok (.aload_n 0, 1) := by decide +kernel
theorem dX11_cancelRequest_5 : decode cX11_cancelRequest 5 = .ok (.getfield 28, 3) := by decide +kernel
theorem dX11_cancelRequest_8 : decode cX11_cancelRequest 8 = .ok (.aload_n 0, 1) := by decide +kernel
theorem dX11_cancelRequest_9 : decode cX11_cancelRequest 9 = .ok (.getfield 28, 3) := by decide +kernel
theorem dX11_cancelRequest_12 : decode cX11_cancelRequest 12 = .ok (.aload_n 0, 1) := by decide +kernel
theorem dX11_cancelRequest_13 : decode cX11_cancelRequest 13 = .ok (.getfield 28, 3) := by decide +kernel
theorem dX11_cancelRequest_16 : decode cX11_cancelRequest 16 = .ok (.iconst 0, 1) := by decide +kernel
theorem dX11_cancelRequest_17 : decode cX11_cancelRequest 17 = .ok (.ldc_w 271, 3) := by decide +kernel
theorem dX11_cancelRequest_20 : decode cX11_cancelRequest 20 = .ok (.invokevirtual 260, 3) := by decide +kernel
theorem dX11_cancelRequest_23 : decode cX11_cancelRequest 23 = .ok (.ldc_w 259, 3) := by decide +kernel
theorem dX11_cancelRequest_26 : decode cX11_cancelRequest 26 = .ok (.invokevirtual 260, 3) := by decide +kernel
theorem dX11_cancelRequest_29 : decode cX11_cancelRequest 29 = .ok (.invokespecial 264, 3) := by decide +kernel
theorem dX11_cancelRequest_32 : decode cX11_cancelRequest 32 = .ok (.astore_n 1, 1) := by decide +kernel
theorem dX11_cancelRequest_33 : decode cX11_cancelRequest 33 = .ok (.iconst 0, 1) := by decide +kernel
theorem dX11_cancelRequest_34 : decode cX11_cancelRequest 34 = .ok (.istore_n 2, 1) := by decide +kernel
theorem dX11_cancelRequest_35 : decode cX11_cancelRequest 35 = .ok (.iload_n 2, 1) := by decide +kernel
theorem dX11_cancelRequest_36 : decode cX11_cancelRequest 36 = .ok (.aload_n 0, 1) := by decide +kernel
theorem dX11_cancelRequest_37 : decode cX11_cancelRequest 37 = .ok (.getfield 65, 3) := by decide +kernel
theorem dX11_cancelRequest_40 : decode cX11_cancelRequest 40 = .ok (.invokeinterface 142 1, 5) := by decide +kernel
theorem dX11_cancelRequest_45 : decode cX11_cancelRequest 45 = .ok (.if_icmp .ge 50, 3) := by decide +kernel
theorem dX11_cancelRequest_48 : decode cX11_cancelRequest 48 = .ok (.aload_n 0, 1) := by decide +kernel
theorem dX11_cancelRequest_49 : decode cX11_cancelRequest 49 = .ok (.getfield 65, 3) := by decide +kernel
theorem dX11_cancelRequest_52 : decode cX11_cancelRequest 52 = .ok (.iload_n 2, 1) := by decide +kernel
theorem dX11_cancelRequest_53 : decode cX11_cancelRequest 53 = .ok (.invokeinterface 249 2, 5) := by decide +kernel
theorem dX11_cancelRequest_58 : decode cX11_cancelRequest 58 = .ok (.checkcast 115, 3) := by decide +kernel
theorem dX11_cancelRequest_61 : decode cX11_cancelRequest 61 = .ok (.aload_n 1, 1) := by decide +kernel
theorem dX11_cancelRequest_62 : decode cX11_cancelRequest 62 = .ok (.invokevirtual 426, 3) := by decide +kernel
theorem dX11_cancelRequest_65 : decode cX11_cancelRequest 65 = .ok (.ifCond .eq 24, 3) := by decide +kernel
theorem dX11_cancelRequest_68 : decode cX11_cancelRequest 68 = .ok (.aload_n 0, 1) := by decide +kernel
theorem dX11_cancelRequest_69 : decode cX11_cancelRequest 69 = .ok (.aload_n 0, 1) := by decide +kernel
theorem dX11_cancelRequest_70 : decode cX11_cancelRequest 70 = .ok (.getfield 65, 3) := by decide +kernel
theorem dX11_cancelRequest_73 : decode cX11_cancelRequest 73 = .ok (.iload_n 2, 1) := by decide +kernel
theorem dX11_cancelRequest_74 : decode cX11_cancelRequest 74 = .ok (.invokeinterface 423 2, 5) := by decide +kernel
theorem dX11_cancelRequest_79 : decode cX11_cancelRequest 79 = .ok (.checkcast 115, 3) := by decide +kernel
theorem dX11_cancelRequest_82 : decode cX11_cancelRequest 82 = .ok (.ldc_w 429, 3) := by decide +kernel
theorem dX11_cancelRequest_85 : decode cX11_cancelRequest 85 = .ok (.invokevirtual 267, 3) := by decide +kernel
theorem dX11_cancelRequest_88 : decode cX11_cancelRequest 88 = .ok (.return_, 1) := by decide +kernel
theorem dX11_cancelRequest_89 : decode cX11_cancelRequest 89 = .ok (.iinc 2 1, 3) := by decide +kernel
theorem dX11_cancelRequest_92 : decode cX11_cancelRequest 92 = .ok (.goto (-57), 3) := by decide +kernel
theorem dX11_cancelRequest_95 : decode cX11_cancelRequest 95 = .ok (.return_, 1) := by decide +kernel
def EX11_cancelRequest : List (Nat × Nat) := [(1, 0), (1, 2), (2, 0), (2, 1), (13, 14), (101, 0), (196, 0), (221, 0), (222, 0), (223, 0)]
set_option maxHeartbeats 4000000 in
set_option maxRecDepth 20000 in
theorem uX11_cancelRequest (l : Launch) (dC : Nat → ClassId) (dI : Nat → Nat → Nat) (ca : Nat → ClassId) (base : Nat) (B : jF) (hB : jBok B) (hAp : jAp (dC, dI)) (hB1 : ∀ n G a H, B 1 n G a H ↔ jOb (dC, dI) 1 3 (F1 n G) a H) (hB2 : ∀ n G a H, B 2 n G a H ↔ jOb (dC, dI) 2 2 (F2 n G) a H) (hB3 : ∀ n G a H, B 3 n G a H ↔ jOb (dC, dI) 3 17 (F3 n G) a H) (hB4 : ∀ n G a H, B 4 n G a H ↔ jOb (dC, dI) 4 12 (F4 n G) a H) (hB6 : ∀ n G a H, B 6 n G a H ↔ jOb (dC, dI) 6 12 (F6 n G) a H) (hB10 : ∀ n G a H, B 10 n G a H ↔ jOb (dC, dI) 10 5 (F10 n G) a H) (hB13 : ∀ n G a H, B 13 n G a H ↔ jOb (dC, dI) 13 19 (F13 n G) a H) (hB101 : ∀ n G a H, B 101 n G a H ↔ jAr (dC, dI) (ca 1) (fun j z => True) n a H) (hB140 : ∀ n G a H, B 140 n G a H ↔ jAr (dC, dI) (ca 1) (fun j z => True) n a H) (hB141 : ∀ n G a H, B 141 n G a H ↔ jAr (dC, dI) (ca 1) (fun j z => True) n a H) (hB142 : ∀ n G a H, B 142 n G a H ↔ jAr (dC, dI) (ca 1) (fun j z => True) n a H) (hB143 : ∀ n G a H, B 143 n G a H ↔ jAr (dC, dI) (ca 1) (fun j z => True) n a H) (hB144 : ∀ n G a H, B 144 n G a H ↔ jAr (dC, dI) (ca 1) (fun j z => 0 ≤ z.toInt ∧ z.toInt ≤ 3000) n a H) (hB145 : ∀ n G a H, B 145 n G a H ↔ jAr (dC, dI) (ca 1) (fun j z => True) n a H) (hB146 : ∀ n G a H, B 146 n G a H ↔ jAr (dC, dI) (ca 1) (fun j z => True) n a H) (hB196 : ∀ n G a H, B 196 n G a H ↔ jAr (dC, dI) (ca 0) (fun j z => jBf j z) n a H) (hB222 : ∀ n G a H, B 222 n G a H ↔ jAq (dC, dI) (ca 9) (jQn 10 0) n G a H) (G0 : jT) (H0 : Heap) (r0 : Nat) (bo : Nat) (pc : Int32) (pa : Nat) (n_pa : Nat) (ou : Nat) (js : Nat) (pv : Int32) (pu : Int32) (wk : Nat) (wi : Nat) (wz : Nat) (jks : Nat) (wl : jWl9) (fk : Nat → Int32) (fi : Nat → Int32) (fz : Nat → Int32) (fs : Nat → Int32) (LC LS : Nat) : Met l yX11_cancelRequest (jw yX11_cancelRequest cX11_cancelRequest 3 none) ({ frames := 7, cells := LC - H0.size, slots := LS - jTot H0, locals := 214 }) (va_Pc [.ref r0] (fun U => U.heap = H0 ∧ jX B base G0 [] H0 ∧ jG dC dI ca base U ∧ jK5 dC dI ca U ∧ jK7 dC dI ca base U ∧ G0 r0 = some (13, 0) ∧ G0 bo = some (2, 0) ∧ G0 pa = some (196, n_pa) ∧ G0 ou = some (2, 20000) ∧ G0 js = some (6, 0) ∧ G0 wk = some (140, 1502) ∧ G0 wi = some (141, 1502) ∧ G0 wz = some (142, 1502) ∧ G0 jks = some (145, 1502) ∧ jP (dC, dI) G0 H0 [(r0, 13, 4, .ref bo), (bo, 2, 1, .int pc), (bo, 2, 0, .ref pa), (r0, 13, 3, .ref ou), (r0, 13, 2, .ref js), (js, 6, 7, .int pv), (js, 6, 8, .int pu), (js, 6, 0, .ref wk), (js, 6, 1, .ref wi), (js, 6, 2, .ref wz), (js, 6, 5, .ref jks)] ∧ jMc (dC, dI) G0 H0 [(wk, 140, 1502, ca 1, fk), (wi, 141, 1502, ca 1, fi), (wz, 142, 1502, ca 1, fz), (jks, 145, 1502, ca 1, fs)] ∧ jIs (dC, dI) G0 H0 [(jFy, jYb dC dI G0), (jFl, jLs dC dI ca G0 3 none wl)] ∧ H0.size + (1048576 - n_pa) / 16 + 20 ≤ LC ∧ jTot H0 + 2 * (1048576 - n_pa) + 3400 ≤ LS ∧ 0 ≤ pc.toInt ∧ pc.toInt ≤ n_pa ∧ 16 ≤ n_pa ∧ n_pa ≤ 1048576 ∧ jPw n_pa ∧ 0 ≤ pv.toInt ∧ pv.toInt ≤ 1502 ∧ 0 ≤ pu.toInt ∧ pu.toInt ≤ 3000 ∧ jJq fk fi fz pv.toInt ∧ jJu fk fz pv.toInt pu.toInt)) (va_Qv (S := Int32 × Nat × Nat × jT) (fun u => 0 ≤ u.1.toInt ∧ u.1.toInt ≤ u.2.2.1 ∧ n_pa ≤ u.2.2.1 ∧ u.2.2.1 ≤ 1048576 ∧ jPw u.2.2.1) (fun u t => jRa (dC, dI) B base G0 u.2.2.2 EX11_cancelRequest H0 ((u.2.2.1 - n_pa) / 16 + 11) (2 * (u.2.2.1 - n_pa) + 267) [(bo, 2, 1, .int u.1), (bo, 2, 0, .ref u.2.1)] t.heap ∧ u.2.2.2 u.2.1 = some (196, u.2.2.1) ∧ (jNk [0, 1, 3, 4, 5, 6, 7, 8, 9, 11, 12, 13, 14, 15, 16]) G0 u.2.2.2 ∧ jOl (dC, dI) G0 2 [bo, ou] H0 t.heap ∧ jIs (dC, dI) u.2.2.2 t.heap [(jFy, jYb dC dI u.2.2.2), (jFl, jLs dC dI ca u.2.2.2 3 none wl)]) (jA base)) (LC - H0.size) (LS - jTot H0) (jA base) := by
  refine Met.ofW (cc := cX11_cancelRequest) (maxL := 3) (ret := none) (by decide) rfl ?_
  intro p e s m args below meth c s₁ Bd hml hv
  obtain ⟨rfl, hH0, hX, hG, hK5, hK7, hg_r0, hg_bo, hg_pa, hg_ou, hg_js, hg_wk, hg_wi, hg_wz, hg_jks, hP0, hM0, hI0, hLC0, hLS0, hp0, hp1, hp2, hp3, hp4, hp5, hp6, hp7, hp8, hp9, hp10⟩ := hv
  have hK := hG.1
  have hx := Bd.exec
  have hb := Bd.bytes
  have hr := Bd.returns
  have hts := atoms_spec (ws := (jw yX11_cancelRequest cX11_cancelRequest 3 none)) Bd.pre
  have htw : ∀ w ∈ jWl, w.before _ s = true := fun w h => hts w (List.mem_cons_of_mem _ h)
  have hown : s.vm.findClass RX11 = some m.cls := findClass_of_methodNamed Bd.named
  have hlocks := Bd.notSynchronized
  obtain ⟨Q, hQ⟩ : ∃ Q, Q = MQ below (va_Qv (S := Int32 × Nat × Nat × jT) (fun u => 0 ≤ u.1.toInt ∧ u.1.toInt ≤ u.2.2.1 ∧ n_pa ≤ u.2.2.1 ∧ u.2.2.1 ≤ 1048576 ∧ jPw u.2.2.1) (fun u t => jRa (dC, dI) B base G0 u.2.2.2 EX11_cancelRequest H0 ((u.2.2.1 - n_pa) / 16 + 11) (2 * (u.2.2.1 - n_pa) + 267) [(bo, 2, 1, .int u.1), (bo, 2, 0, .ref u.2.1)] t.heap ∧ u.2.2.2 u.2.1 = some (196, u.2.2.1) ∧ (jNk [0, 1, 3, 4, 5, 6, 7, 8, 9, 11, 12, 13, 14, 15, 16]) G0 u.2.2.2 ∧ jOl (dC, dI) G0 2 [bo, ou] H0 t.heap ∧ jIs (dC, dI) u.2.2.2 t.heap [(jFy, jYb dC dI u.2.2.2), (jFl, jLs dC dI ca u.2.2.2 3 none wl)]) (jA base)) ([.ref r0] : List Value).toArray s (LC - H0.size) (LS - jTot H0) (jA base) := ⟨_, rfl⟩
  rw [← hQ]
  have hl := lv_entry ([.ref r0]) (n := 3) (Nat.le_of_ble_eq_true rfl)
  rw [lg_entry_eq]
  generalize (lg_sl ([.ref r0]) ++ List.replicate (3 - (lg_sl ([.ref r0])).length) Slot.unset).toArray = ls at hl ⊢
  have hl : lv_has ls 3 [(0, .ref r0)] := hl
  generalize hR : (headSpec (jw yX11_cancelRequest cX11_cancelRequest 3 none) ({ frames := 7, cells := LC - H0.size, slots := LS - jTot H0, locals := 214 })).room = R
  subst hH0
  have hh : jSt (dC, dI) B base G0 G0 EX11_cancelRequest s.heap 0 0 [(r0, 13, 4, .ref bo), (bo, 2, 1, .int pc), (bo, 2, 0, .ref pa), (r0, 13, 3, .ref ou), (r0, 13, 2, .ref js), (js, 6, 7, .int pv), (js, 6, 8, .int pu), (js, 6, 0, .ref wk), (js, 6, 1, .ref wi), (js, 6, 2, .ref wz), (js, 6, 5, .ref jks)] [(wk, 140, 1502, ca 1, fk), (wi, 141, 1502, ca 1, fi), (wz, 142, 1502, ca 1, fz), (jks, 145, 1502, ca 1, fs)] [(jFy, jYb dC dI G0), (jFl, jLs dC dI ca G0 3 none wl)] s.heap [] := jSt.start hX hP0 hM0 hI0
  clear hX hP0
  have hkm32800 : ((-32800) : Int32).toInt = (-32800) := by decide
  have hk0 : (0 : Int32).toInt = 0 := by decide
  have hk1 : (1 : Int32).toInt = 1 := by decide
  have hly_13_2 := htw (u_lay RX11 TX11 2) (jWc_wsX110 _ (u_in_lay (by decide)))
  have hly_13_8 := htw (u_lay RX11 TX11 8) (jWc_wsX110 _ (u_in_lay (by decide)))
  have hlk_28 := (htw (.fieldLink RX11 28 "ProofServer" "json" "LProofServer$Json;") (jWr_1 _ (List.mem_of_getElem? (i := 23) rfl)))
  obtain ⟨str271, rstr271, hstr2710⟩ := hG.str (o := RX11) (k := 271) (tx := "params") (List.mem_of_getElem? (i := 852) (by decide +kernel))
  have hstr271 : jStr base str271 6 s s.heap := hstr2710
  obtain ⟨str259, rstr259, hstr2590⟩ := hG.str (o := RX11) (k := 259) (tx := "id") (List.mem_of_getElem? (i := 730) (by decide +kernel))
  have hstr259 : jStr base str259 2 s s.heap := hstr2590
  have hlk_65 := (htw (.fieldLink RX11 65 "ProofServer" "waiting" "Ljava/util/List;") (jWr_2 _ (List.mem_of_getElem? (i := 15) rfl)))
  have hcs_429 := htw (.constant RX11 429 (-32800)) (jWr_43 _ (List.mem_of_getElem? (i := 22) rfl))
  have hbs : base ≤ s.heap.size := Nat.le_of_lt (Nat.lt_of_le_of_lt (hh.ab hg_r0).1 (hh.ab hg_r0).2)
  have hRc : R.cells = LC - s.heap.size := by rw [← hR]; rfl
  have hRs : R.slots = LS - jTot s.heap := by rw [← hR]; rfl
  have hh_1 := hh.addI (jOl.ie (dC := dC) (dI := dI) (G0 := G0) (k := 2) (rs := [bo, ou]) (H0 := s.heap) (F := [(2, 0), (2, 1)]) (C := RX0) (T := TX0) (N := 2) rfl (by decide) hh.2.2.2.2.1 (jOl.rf))
  clear hh
  have hsz_2 := hh_1.2.2.2.2.2.1
  have htt_2 := hh_1.2.2.2.2.2.2.1
  refine j7_newo (k := 10) (C := RX8) (T := TX8) (N := 5) (fs := [.null, .null, .int 0, .int 0, .int 0]) hx hb htw jWc_wsX80 (fun k => ([(.object "ProofServer$Bytes"), (.object "ProofServer$Document"), .int, .boolean, .int] : List FieldType).getD k .int) (by decide +kernel) hown (htw (.classLink RX11 115 RX8) (jWr_19 _ (List.mem_of_getElem? (i := 3) rfl))) (htw (.instantiable RX8 5) (jWr_19 _ (List.mem_of_getElem? (i := 4) rfl))) (htw (.initialized RX8) (jWr_19 _ (List.mem_of_getElem? (i := 5) rfl))) hK rfl (fun j hj => by rcases (by omega : j = 0 ∨ j = 1 ∨ j = 2 ∨ j = 3 ∨ j = 4) with rfl | rfl | rfl | rfl | rfl <;> rfl) hh_1 hB (by rw [hRc]; omega) (by rw [hRs]; omega) dX11_cancelRequest_0 (fun H_2 hraw_2 hfr_2 hnr_2 hh_2 => ?_)
  have hke_2 : jKe G0 G0 s.heap H_2 := jKe.raw hfr_2
  have hbr_2 : base ≤ s.heap.size := Nat.le_trans hbs hh_1.1.1
  have hsy_2 : s.heap.size ≤ s.heap.size := hh_1.1.1
  clear hh_1
  refine lv_dup hx hb dX11_cancelRequest_3 rfl ?_
  refine lv_aload_n hx hb dX11_cancelRequest_4 rfl (lv_at hl 0 rfl) ?_
  refine j7_read hx hb hown hK (C := RX11) (T := TX11) (N := 19) rfl hly_13_2 hlk_28 (hh_2.at 4 rfl) dX11_cancelRequest_5 ?_
  refine lv_aload_n hx hb dX11_cancelRequest_8 rfl (lv_at hl 0 rfl) ?_
  refine j7_read hx hb hown hK (C := RX11) (T := TX11) (N := 19) rfl hly_13_2 hlk_28 (hh_2.at 4 rfl) dX11_cancelRequest_9 ?_
  refine lv_aload_n hx hb dX11_cancelRequest_12 rfl (lv_at hl 0 rfl) ?_
  refine j7_read hx hb hown hK (C := RX11) (T := TX11) (N := 19) rfl hly_13_2 hlk_28 (hh_2.at 4 rfl) dX11_cancelRequest_13 ?_
  refine lv_iconst (v := 0) hx hb dX11_cancelRequest_16 (by decide) ?_
  refine j_ldcSw hx hb hown rstr271 dX11_cancelRequest_17 ?_
  have hsz_3 := hh_2.2.2.2.2.2.1
  have htt_3 := hh_2.2.2.2.2.2.2.1
  refine W.room (fun hrc_3 hrs_3 => ?_)
  refine va_calli (A0 := jA base) (H0 := s.heap) (va_runV (As := [.int 0, .ref str271]) (rest := [.ref js, .ref js, .ref s.heap.size, .ref s.heap.size]) ⟨hx, hb, hml, hown, hts⟩ (uX4_memberQ l dC dI ca base B hB hAp hB6 hB140 hB141 hB142 hB143 hB144 hB145 hB146 G0 H_2 js 0 str271 6 pv wk wi wz jks fk fi fz fs) (cwV 2 hts (jgV (jWr_23 _ (List.mem_of_getElem? (i := 10) rfl)) (jWr_23 _ (List.mem_of_getElem? (i := 11) rfl)) (jWr_23 _ (List.mem_of_getElem? (i := 12) rfl)) (jWr_1 _ (List.mem_of_getElem? (i := 22) rfl)) (jWr_23 _ (List.mem_of_getElem? (i := 13) rfl))) rfl rfl rfl (by decide +kernel) ⟨by rw [← hR]; exact Nat.le_of_ble_eq_true rfl, by rw [← hR]; exact Nat.le_of_ble_eq_true rfl⟩) ⟨fun a U g mk q => by obtain ⟨q0, q1, q2, qK, q10, q11, q12, q13, q14, q15, q16, q17, q18⟩ := q; exact ⟨q0, q1, q2, jG.calling g mk a qK, (q10.moved (Vm.Alike.refl U.vm)), q11, q12, q13, q14, q15, q16, q17, q18⟩, hh_2.recv (C := RX4) (T := TX4) (N := 12) hB6 rfl (by decide) hg_js hK, fun U hU hW => ⟨rfl, hU, hh_2.2.1, hG.step hW hU hh_2.1, (hstr271.moved hW.alike).kept hh_2.1.2.1, hg_js, hg_wk, hg_wi, hg_wz, hg_jks, (hh_2.2.2.1.sub (L1 := [(js, 6, 7, .int pv), (js, 6, 0, .ref wk), (js, 6, 1, .ref wi), (js, 6, 2, .ref wz), (js, 6, 5, .ref jks)]) [5, 7, 8, 9, 10] rfl), (hh_2.2.2.2.2.2.2.2.1.sub (L1 := [(wk, 140, 1502, ca 1, fk), (wi, 141, 1502, ca 1, fi), (wz, 142, 1502, ca 1, fz), (jks, 145, 1502, ca 1, fs)]) [0, 1, 2, 3] rfl), ⟨(by first | omega | rfl | assumption | fail), (by first | omega | rfl | assumption | fail), (by first | omega | rfl | assumption | fail)⟩⟩⟩ rfl rfl hl.1 rfl (lv_room (Nat.le_of_ble_eq_true rfl)) dX11_cancelRequest_20 ⟨by rw [hRc]; show _ + 0 ≤ _; omega, by rw [hRs]; show _ + 0 ≤ _; omega⟩) hh_2.1 (fun q _ h => h) (fun q h => h) (fun r_4 u_3 t_3 H_3 locs_3 ht_3 hvm_3 hr_4 hb_3 hz_3 hk_3 hS_3 => ?_)
  rw [ht_3] at hb_3
  obtain ⟨hb_3, hbF_3⟩ := hb_3
  obtain ⟨hb_31, hb_32, hb_33, hb_34, hb_35⟩ := hb_3
  have hh_3 : jSt (dC, dI) B base G0 G0 EX11_cancelRequest s.heap (0 + 1) (0 + 5) [(r0, 13, 4, .ref bo), (bo, 2, 1, .int pc), (bo, 2, 0, .ref pa), (r0, 13, 3, .ref ou), (r0, 13, 2, .ref js), (js, 6, 7, .int pv), (js, 6, 8, .int pu), (js, 6, 0, .ref wk), (js, 6, 1, .ref wi), (js, 6, 2, .ref wz), (js, 6, 5, .ref jks)] [(wk, 140, 1502, ca 1, fk), (wi, 141, 1502, ca 1, fi), (wz, 142, 1502, ca 1, fz), (jks, 145, 1502, ca 1, fs)] [([(2, 0), (2, 1)], jOl (dC, dI) G0 2 [bo, ou] s.heap), (jFy, jYb dC dI G0), (jFl, jLs dC dI ca G0 3 none wl)] H_3 locs_3 := ((hh_2.call hb_31 hb_32 hb_33 hb_34 hS_3 rfl (L1 := [(r0, 13, 4, .ref bo), (bo, 2, 1, .int pc), (bo, 2, 0, .ref pa), (r0, 13, 3, .ref ou), (r0, 13, 2, .ref js), (js, 6, 7, .int pv), (js, 6, 8, .int pu), (js, 6, 0, .ref wk), (js, 6, 1, .ref wi), (js, 6, 2, .ref wz), (js, 6, 5, .ref jks)]) [0, 1, 2, 3, 4, 5, 6, 7, 8, 9, 10] rfl rfl (M1 := [(wk, 140, 1502, ca 1, fk), (wi, 141, 1502, ca 1, fi), (wz, 142, 1502, ca 1, fz), (jks, 145, 1502, ca 1, fs)]) [0, 1, 2, 3] rfl rfl (I1 := [([(2, 0), (2, 1)], jOl (dC, dI) G0 2 [bo, ou] s.heap), (jFy, jYb dC dI G0), (jFl, jLs dC dI ca G0 3 none wl)]) [0, 1, 2] rfl rfl).more hb_35)
  clear hh_2 ht_3 hvm_3 hz_3 hk_3 hS_3 hb_31 hb_32 hb_33 hb_34 hb_35
  have hraw_5 := hraw_2.kept (hbF_3 _ (by simp))
  obtain ⟨hr_4_0, hr_4_1, hr_4_2⟩ := hr_4
  refine j_ldcSw hx hb hown rstr259 dX11_cancelRequest_23 ?_
  have hsz_6 := hh_3.2.2.2.2.2.1
  have htt_6 := hh_3.2.2.2.2.2.2.1
  refine W.room (fun hrc_6 hrs_6 => ?_)
  refine va_calli (A0 := jA base) (H0 := s.heap) (va_runV (As := [.int r_4, .ref str259]) (rest := [.ref js, .ref s.heap.size, .ref s.heap.size]) ⟨hx, hb, hml, hown, hts⟩ (uX4_memberQ l dC dI ca base B hB hAp hB6 hB140 hB141 hB142 hB143 hB144 hB145 hB146 G0 H_3 js r_4 str259 2 pv wk wi wz jks fk fi fz fs) (cwV 2 hts (jgV (jWr_23 _ (List.mem_of_getElem? (i := 10) rfl)) (jWr_23 _ (List.mem_of_getElem? (i := 11) rfl)) (jWr_23 _ (List.mem_of_getElem? (i := 12) rfl)) (jWr_1 _ (List.mem_of_getElem? (i := 22) rfl)) (jWr_23 _ (List.mem_of_getElem? (i := 13) rfl))) rfl rfl rfl (by decide +kernel) ⟨by rw [← hR]; exact Nat.le_of_ble_eq_true rfl, by rw [← hR]; exact Nat.le_of_ble_eq_true rfl⟩) ⟨fun a U g mk q => by obtain ⟨q0, q1, q2, qK, q10, q11, q12, q13, q14, q15, q16, q17, q18⟩ := q; exact ⟨q0, q1, q2, jG.calling g mk a qK, (q10.moved (Vm.Alike.refl U.vm)), q11, q12, q13, q14, q15, q16, q17, q18⟩, hh_3.recv (C := RX4) (T := TX4) (N := 12) hB6 rfl (by decide) hg_js hK, fun U hU hW => ⟨rfl, hU, hh_3.2.1, hG.step hW hU hh_3.1, (hstr259.moved hW.alike).kept hh_3.1.2.1, hg_js, hg_wk, hg_wi, hg_wz, hg_jks, (hh_3.2.2.1.sub (L1 := [(js, 6, 7, .int pv), (js, 6, 0, .ref wk), (js, 6, 1, .ref wi), (js, 6, 2, .ref wz), (js, 6, 5, .ref jks)]) [5, 7, 8, 9, 10] rfl), (hh_3.2.2.2.2.2.2.2.1.sub (L1 := [(wk, 140, 1502, ca 1, fk), (wi, 141, 1502, ca 1, fi), (wz, 142, 1502, ca 1, fz), (jks, 145, 1502, ca 1, fs)]) [0, 1, 2, 3] rfl), ⟨(by first | omega | rfl | assumption | fail), (by first | omega | rfl | assumption | fail), (by first | omega | rfl | assumption | fail)⟩⟩⟩ rfl rfl hl.1 rfl (lv_room (Nat.le_of_ble_eq_true rfl)) dX11_cancelRequest_26 ⟨by rw [hRc]; show _ + 0 ≤ _; omega, by rw [hRs]; show _ + 0 ≤ _; omega⟩) hh_3.1 (fun q _ h => h) (fun q h => h) (fun r_7 u_6 t_6 H_6 locs_6 ht_6 hvm_6 hr_7 hb_6 hz_6 hk_6 hS_6 => ?_)
  rw [ht_6] at hb_6
  obtain ⟨hb_6, hbF_6⟩ := hb_6
  obtain ⟨hb_61, hb_62, hb_63, hb_64, hb_65⟩ := hb_6
  have hh_6 : jSt (dC, dI) B base G0 G0 EX11_cancelRequest s.heap (0 + 1) (0 + 5) [(r0, 13, 4, .ref bo), (bo, 2, 1, .int pc), (bo, 2, 0, .ref pa), (r0, 13, 3, .ref ou), (r0, 13, 2, .ref js), (js, 6, 7, .int pv), (js, 6, 8, .int pu), (js, 6, 0, .ref wk), (js, 6, 1, .ref wi), (js, 6, 2, .ref wz), (js, 6, 5, .ref jks)] [(wk, 140, 1502, ca 1, fk), (wi, 141, 1502, ca 1, fi), (wz, 142, 1502, ca 1, fz), (jks, 145, 1502, ca 1, fs)] [([(2, 0), (2, 1)], jOl (dC, dI) G0 2 [bo, ou] s.heap), (jFy, jYb dC dI G0), (jFl, jLs dC dI ca G0 3 none wl)] H_6 locs_6 := ((hh_3.call hb_61 hb_62 hb_63 hb_64 hS_6 rfl (L1 := [(r0, 13, 4, .ref bo), (bo, 2, 1, .int pc), (bo, 2, 0, .ref pa), (r0, 13, 3, .ref ou), (r0, 13, 2, .ref js), (js, 6, 7, .int pv), (js, 6, 8, .int pu), (js, 6, 0, .ref wk), (js, 6, 1, .ref wi), (js, 6, 2, .ref wz), (js, 6, 5, .ref jks)]) [0, 1, 2, 3, 4, 5, 6, 7, 8, 9, 10] rfl rfl (M1 := [(wk, 140, 1502, ca 1, fk), (wi, 141, 1502, ca 1, fi), (wz, 142, 1502, ca 1, fz), (jks, 145, 1502, ca 1, fs)]) [0, 1, 2, 3] rfl rfl (I1 := [([(2, 0), (2, 1)], jOl (dC, dI) G0 2 [bo, ou] s.heap), (jFy, jYb dC dI G0), (jFl, jLs dC dI ca G0 3 none wl)]) [0, 1, 2] rfl rfl).more hb_65)
  clear hh_3 ht_6 hvm_6 hz_6 hk_6 hS_6 hb_61 hb_62 hb_63 hb_64 hb_65
  have hraw_8 := hraw_5.kept (hbF_6 _ (by simp))
  obtain ⟨hr_7_0, hr_7_1, hr_7_2⟩ := hr_7
  have hsz_9 := hh_6.2.2.2.2.2.1
  have htt_9 := hh_6.2.2.2.2.2.2.1
  refine W.room (fun hrc_9 hrs_9 => ?_)
  refine va_callv (A0 := jA base) (H0 := s.heap) (va_runI (As := [.ref js, .int r_7]) (rest := [.ref s.heap.size]) ⟨hx, hb, hml, hown, hts⟩ (uX8_init l dC dI ca base B hB hAp hB2 hB6 hB10 hB101 hB140 hB141 hB142 hB146 hB196 G0 H_6 s.heap.size js r_7 pv wk wi wz fk fi fz LC LS) (cwI 2 hts (jgW (jWr_24 _ (List.mem_of_getElem? (i := 0) rfl))) rfl rfl rfl (htw (.initialized RX8) (jWr_19 _ (List.mem_of_getElem? (i := 5) rfl))) (htw (.methodLink RX11 264 yX8_init) (jWr_23 _ (List.mem_of_getElem? (i := 22) rfl))) (htw (.instanceMethod yX8_init) (jWr_23 _ (List.mem_of_getElem? (i := 23) rfl))) rfl (by decide +kernel) ⟨by rw [← hR]; exact Nat.le_of_ble_eq_true rfl, by rw [← hR]; exact Nat.le_of_ble_eq_true rfl⟩) ⟨fun a U g mk q => by obtain ⟨q0, q1, q2, qK, q10, q11, q12, q13, q14, q15, q16, q17, q18, q19, q20⟩ := q; exact ⟨q0, q1, q2, jG.calling g mk a qK, q10, q11, q12, q13, q14, q15, q16, q17, q18, q19, q20⟩, fun U hU hW => ⟨rfl, hU, hh_6.2.1, hG.step hW hU hh_6.1, hg_js, hraw_8, hnr_2, hbr_2, hg_wk, hg_wi, hg_wz, (hh_6.2.2.1.sub (L1 := [(js, 6, 7, .int pv), (js, 6, 0, .ref wk), (js, 6, 1, .ref wi), (js, 6, 2, .ref wz)]) [5, 7, 8, 9] rfl), (hh_6.2.2.2.2.2.2.2.1.sub (L1 := [(wk, 140, 1502, ca 1, fk), (wi, 141, 1502, ca 1, fi), (wz, 142, 1502, ca 1, fz)]) [0, 1, 2] rfl), (hh_6.2.2.2.2.2.2.2.2.sub (L1 := [(jFy, jYb dC dI G0)]) [1] rfl), (by omega), (by omega), ⟨(by first | omega | rfl | assumption | fail), (by first | omega | rfl | assumption | fail), (by first | assumption | fail | omega)⟩⟩⟩ rfl rfl hl.1 rfl (lv_room (Nat.le_of_ble_eq_true rfl)) dX11_cancelRequest_29 ⟨by rw [hRc]; omega, by rw [hRs]; omega⟩) hh_6.1 (fun q _ h => h) (fun q h => h) (fun u_9 t_9 H_9 locs_9 ht_9 hvm_9 hr_10 hb_9 hz_9 hk_9 hS_9 => ?_)
  rw [ht_9] at hb_9
  obtain ⟨G_9, rfl⟩ : ∃ z, z = u_9 := ⟨_, rfl⟩
  try simp only at hb_9
  obtain ⟨⟨hb_91, hb_92, hb_93, hb_94, hb_95, hb_96⟩, hN_9, hbO_9, hgc_9, hbE_9⟩ := hb_9
  have hh_9 : jSt (dC, dI) B base G0 G_9 EX11_cancelRequest s.heap ((0 + 1) + (10)) ((0 + 5) + (262)) [(r0, 13, 4, .ref bo), (r0, 13, 3, .ref ou), (r0, 13, 2, .ref js), (js, 6, 7, .int pv), (js, 6, 8, .int pu), (js, 6, 0, .ref wk), (js, 6, 1, .ref wi), (js, 6, 2, .ref wz), (js, 6, 5, .ref jks)] [(wk, 140, 1502, ca 1, fk), (wi, 141, 1502, ca 1, fi), (wz, 142, 1502, ca 1, fz), (jks, 145, 1502, ca 1, fs)] [(jFl, jLs dC dI ca G0 3 none wl)] H_9 locs_9 := (hh_6.callG hb_91 hb_92 hb_93 hb_94 hb_95 hS_9 rfl (L1 := [(r0, 13, 4, .ref bo), (r0, 13, 3, .ref ou), (r0, 13, 2, .ref js), (js, 6, 7, .int pv), (js, 6, 8, .int pu), (js, 6, 0, .ref wk), (js, 6, 1, .ref wi), (js, 6, 2, .ref wz), (js, 6, 5, .ref jks)]) [0, 3, 4, 5, 6, 7, 8, 9, 10] rfl rfl (M1 := [(wk, 140, 1502, ca 1, fk), (wi, 141, 1502, ca 1, fi), (wz, 142, 1502, ca 1, fz), (jks, 145, 1502, ca 1, fs)]) [0, 1, 2, 3] rfl rfl (I1 := [(jFl, jLs dC dI ca G0 3 none wl)]) [2] rfl rfl).more hb_96
  have hNn_9 : (jNk [0, 1, 3, 4, 5, 6, 7, 8, 9, 11, 12, 13, 14, 15, 16]) G0 G_9 := (jNk.rf).tr hN_9
  have hg_11 := hb_92 _ _ hg_r0
  have hg_12 := hb_92 _ _ hg_bo
  have hg_13 := hb_92 _ _ hg_ou
  have hg_14 := hb_92 _ _ hg_js
  have hg_15 := hb_92 _ _ hg_wk
  have hg_16 := hb_92 _ _ hg_wi
  have hg_17 := hb_92 _ _ hg_wz
  have hg_18 := hb_92 _ _ hg_jks
  have hd_19 := jLs.grow (hh_9.iv 0 rfl) hb_92 hN_9 (by decide)
  have hh_20 := hh_9.sub (L1 := [(r0, 13, 4, .ref bo), (r0, 13, 3, .ref ou), (r0, 13, 2, .ref js), (js, 6, 7, .int pv), (js, 6, 8, .int pu), (js, 6, 0, .ref wk), (js, 6, 1, .ref wi), (js, 6, 2, .ref wz), (js, 6, 5, .ref jks)]) [0, 1, 2, 3, 4, 5, 6, 7, 8] rfl (M1 := [(wk, 140, 1502, ca 1, fk), (wi, 141, 1502, ca 1, fi), (wz, 142, 1502, ca 1, fz), (jks, 145, 1502, ca 1, fs)]) [0, 1, 2, 3] rfl (I1 := []) [] rfl
  clear hh_9
  have hh_21 := hh_20.addI (jLs.ie hd_19)
  clear hh_20
  have hh_22 := hh_21.addIs hbE_9
  have hh_23 := hh_22.more (P1 := [(bo, 2, 1, .int pc), (bo, 2, 0, .ref pa)]) (jP.cons hg_12 (hbO_9 _ _ _ _ (by simp) hg_bo (hh_6.at 1 rfl)) (jP.cons hg_12 (hbO_9 _ _ _ _ (by simp) hg_bo (hh_6.at 2 rfl)) jP.nil))
  have hg_24 := hb_92 _ _ hg_pa
  have hd_25 := jOl.trL (hh_6.iv 0 rfl) hh_6.2.2.2.2.1 hbO_9 (by simp)
  have hh_26 := hh_23.addI (jOl.ie (dC := dC) (dI := dI) (G0 := G0) (k := 2) (rs := [bo, ou]) (H0 := s.heap) (F := [(2, 0), (2, 1)]) (C := RX0) (T := TX0) (N := 2) rfl (by decide) hh_23.2.2.2.2.1 (hd_25))
  clear hh_23
  try simp only at hr_10
  have hh_27 := hh_26.wk (zc1 := (n_pa - n_pa) / 16 + 11) (zs1 := 2 * (n_pa - n_pa) + 267) (by omega) (by omega)
  clear hh_26
  try clear hsz_9 htt_9 hrc_9 hrs_9
  try clear hb_94 hb_95
  refine lv_astore_n (lv' := [(1, .ref s.heap.size), (0, .ref r0)]) hx hb dX11_cancelRequest_32 rfl hl (by decide) rfl (fun ls hl => ?_)
  refine lv_iconst (v := 0) hx hb dX11_cancelRequest_33 (by decide) ?_
  refine lv_istore_n (lv' := [(2, .int 0), (1, .ref s.heap.size), (0, .ref r0)]) hx hb dX11_cancelRequest_34 rfl hl (by decide) rfl (fun ls hl => ?_)
  have L35 : ∀ (N : Nat) (v2_28 : Int32) (H_28 : Heap) (locs_28 : List Loc), jSt (dC, dI) B base G0 G_9 EX11_cancelRequest s.heap ((n_pa - n_pa) / 16 + 11) (2 * (n_pa - n_pa) + 267) [(bo, 2, 1, .int pc), (bo, 2, 0, .ref pa), (r0, 13, 4, .ref bo), (r0, 13, 3, .ref ou), (r0, 13, 2, .ref js), (js, 6, 7, .int pv), (js, 6, 8, .int pu), (js, 6, 0, .ref wk), (js, 6, 1, .ref wi), (js, 6, 2, .ref wz), (js, 6, 5, .ref jks)] [(wk, 140, 1502, ca 1, fk), (wi, 141, 1502, ca 1, fi), (wz, 142, 1502, ca 1, fz), (jks, 145, 1502, ca 1, fs)] [([(2, 0), (2, 1)], jOl (dC, dI) G0 2 [bo, ou] s.heap), (jFy, jYb dC dI G_9), (jFl, jLs dC dI ca G_9 3 none wl)] H_28 locs_28 → (0 ≤ v2_28.toInt ∧ v2_28.toInt ≤ 40) → (41 - v2_28.toInt : Int) < N → ∀ ls : Array Slot, lv_has ls 3 [(0, .ref r0), (1, .ref s.heap.size), (2, .int v2_28)] → W p l e R s m ([.ref r0] : List Value).toArray below meth c H_28 locs_28 ((n_pa - n_pa) / 16 + 11) (2 * (n_pa - n_pa) + 267) Q (F0 m 35 ls []) := by
    intro N
    induction N with
    | zero => intro v2_28 H_28 locs_28 hh_28  hi_28 hm; exact absurd hm (by omega)
    | succ N L35 =>
      intro v2_28 H_28 locs_28 hh_28  hi_28 hm_28 ls hl
      obtain ⟨hi_28_0, hi_28_1⟩ := hi_28
      try clear hr_4_2; try clear hr_7_2
      refine lv_iload_n hx hb dX11_cancelRequest_35 rfl (lv_at hl 2 rfl) ?_
      refine lv_aload_n hx hb dX11_cancelRequest_36 rfl (lv_at hl 0 rfl) ?_
      obtain ⟨v_29, hv_29, hh_30⟩ := hh_28.pin (C := RX11) (T := TX11) (N := 19) hB13 rfl (by decide) hg_11 (i := 8) (by decide) rfl
      clear hh_28
      obtain ⟨waiting_31, rfl, hg_waiting_31⟩ := hv_29
      refine j7_read hx hb hown hK (C := RX11) (T := TX11) (N := 19) rfl hly_13_8 hlk_65 (hh_30.at 0 rfl) dX11_cancelRequest_37 ?_
      obtain ⟨v_34, hv_34, hh_35⟩ := hh_30.pin (C := RJx4a65c) (T := TJx4a65c) (N := 3) hB1 rfl (by decide) hg_waiting_31 (i := 2) (by decide) rfl
      obtain ⟨size_36, rfl, hlosize_36, hhisize_36⟩ := hv_34
      have hsz_32 := hh_35.2.2.2.2.2.1
      have htt_32 := hh_35.2.2.2.2.2.2.1
      refine W.room (fun hrc_32 hrs_32 => ?_)
      refine va_callFi (A0 := jA base) (H0 := s.heap) (va_runF (hK.1 1 _ rfl).2 (As := []) (rest := [.int v2_28]) ⟨hx, hb, hml, hown, hts⟩ (uJx4a65c_size_8abf5 l dC dI ca base B hB hAp hB1 G_9 H_28 waiting_31 2 size_36) (va_cwF 0 hts (jgF (jWr_27 _ (List.mem_of_getElem? (i := 22) rfl)) (jWr_27 _ (List.mem_of_getElem? (i := 23) rfl)) (jWr_28 _ (List.mem_of_getElem? (i := 0) rfl)) (jWr_2 _ (List.mem_of_getElem? (i := 13) rfl)) (jWr_28 _ (List.mem_of_getElem? (i := 1) rfl))) rfl rfl rfl hK7.2.2.2.2.2.1.1 ⟨by decide, by decide, by decide +kernel⟩ ⟨by rw [← hR]; exact Nat.le_of_ble_eq_true rfl, by rw [← hR]; exact Nat.le_of_ble_eq_true rfl⟩) ⟨fun a U g mk q => by obtain ⟨q0, q1, q2, qK, q10, q11, q12⟩ := q; exact ⟨q0, q1, q2, jG.calling g mk a qK, q10, q11, q12⟩, hh_35.recv (C := RJx4a65c) (T := TJx4a65c) (N := 3) hB1 rfl (by decide) hg_waiting_31 hK, fun U hU hW => ⟨rfl, hU, hh_35.2.1, hG.step hW hU hh_35.1, hg_waiting_31, (hh_35.2.2.1.sub (L1 := [(waiting_31, 1, 2, .int size_36)]) [0] rfl), trivial⟩⟩ rfl rfl hl.1 rfl (lv_room (Nat.le_of_ble_eq_true rfl)) dX11_cancelRequest_40 ⟨by rw [hRc]; show _ + 0 ≤ _; omega, by rw [hRs]; show _ + 0 ≤ _; omega⟩) hh_35.1 (fun q _ h => h) (fun q h => h) (fun r_33 u_32 t_32 H_32 locs_32 ht_32 hvm_32 hr_33 hb_32 hz_32 hk_32 hS_32 => ?_)
      rw [ht_32] at hb_32
      obtain ⟨hb_321, hb_322, hb_323, hb_324, hb_325⟩ := hb_32
      have hh_32 : jSt (dC, dI) B base G0 G_9 EX11_cancelRequest s.heap ((n_pa - n_pa) / 16 + 11) (2 * (n_pa - n_pa) + 267) [(waiting_31, 1, 2, .int size_36), (r0, 13, 8, .ref waiting_31), (bo, 2, 1, .int pc), (bo, 2, 0, .ref pa), (r0, 13, 4, .ref bo), (r0, 13, 3, .ref ou), (r0, 13, 2, .ref js), (js, 6, 7, .int pv), (js, 6, 8, .int pu), (js, 6, 0, .ref wk), (js, 6, 1, .ref wi), (js, 6, 2, .ref wz), (js, 6, 5, .ref jks)] [(wk, 140, 1502, ca 1, fk), (wi, 141, 1502, ca 1, fi), (wz, 142, 1502, ca 1, fz), (jks, 145, 1502, ca 1, fs)] [([(2, 0), (2, 1)], jOl (dC, dI) G0 2 [bo, ou] s.heap), (jFy, jYb dC dI G_9), (jFl, jLs dC dI ca G_9 3 none wl)] H_32 locs_32 := ((hh_35.call hb_321 hb_322 hb_323 hb_324 hS_32 rfl (L1 := [(waiting_31, 1, 2, .int size_36), (r0, 13, 8, .ref waiting_31), (bo, 2, 1, .int pc), (bo, 2, 0, .ref pa), (r0, 13, 4, .ref bo), (r0, 13, 3, .ref ou), (r0, 13, 2, .ref js), (js, 6, 7, .int pv), (js, 6, 8, .int pu), (js, 6, 0, .ref wk), (js, 6, 1, .ref wi), (js, 6, 2, .ref wz), (js, 6, 5, .ref jks)]) [0, 1, 2, 3, 4, 5, 6, 7, 8, 9, 10, 11, 12] rfl rfl (M1 := [(wk, 140, 1502, ca 1, fk), (wi, 141, 1502, ca 1, fi), (wz, 142, 1502, ca 1, fz), (jks, 145, 1502, ca 1, fs)]) [0, 1, 2, 3] rfl rfl (I1 := [([(2, 0), (2, 1)], jOl (dC, dI) G0 2 [bo, ou] s.heap), (jFy, jYb dC dI G_9), (jFl, jLs dC dI ca G_9 3 none wl)]) [0, 1, 2] rfl rfl).more hb_325)
      clear hh_35 ht_32 hvm_32 hz_32 hk_32 hS_32 hb_321 hb_322 hb_323 hb_324 hb_325
      refine lv_icmp_ge (tgt := 95) hx hb dX11_cancelRequest_45 (by decide) (fun c_37 => ?_) (fun c_37 => ?_)
      · skip
        have c_37' : v2_28.toInt ≥ r_33.toInt := jb_ge (rfl) (rfl) c_37
        have hsz_38 := hh_32.2.2.2.2.2.1
        have htt_38 := hh_32.2.2.2.2.2.2.1
        refine W.room (fun hrc_38 hrs_38 => ?_)
        refine W.widen (k := LC - s.heap.size) (n := LS - jTot s.heap) (by omega) (by omega) ?_
        rw [hQ]
        exact W.vret hx hb hr (fun t ht hW => ⟨⟨(pc, pa, n_pa, G_9), rfl, by (try dsimp only); exact ⟨(by first | omega | rfl | assumption | fail), (by first | omega | rfl | assumption | fail), (by first | omega | rfl | assumption | fail), (by first | omega | rfl | assumption | fail), (by first | assumption | fail | omega)⟩, ⟨hh_32.ra (by first | (simp only; omega) | omega) (by first | (simp only; omega) | omega) (M1 := [(bo, 2, 1, .int pc), (bo, 2, 0, .ref pa)]) [2, 3] rfl ht, hg_24, hNn_9, by rw [ht]; exact hh_32.iv 0 rfl, by rw [ht]; exact hh_32.2.2.2.2.2.2.2.2.sub (L1 := [(jFy, jYb dC dI G_9), (jFl, jLs dC dI ca G_9 3 none wl)]) [1, 2] rfl⟩⟩, by rw [ht]; try exact hh_32.1.1, fun q h9 hq => by rw [ht]; try exact hh_32.1.2.1 q h9 hq⟩) hh_32.1.2.2 dX11_cancelRequest_95
      · skip
        have c_37' : v2_28.toInt < r_33.toInt := jb_ge_n (rfl) (rfl) c_37
        refine lv_aload_n hx hb dX11_cancelRequest_48 rfl (lv_at hl 0 rfl) ?_
        refine j7_read hx hb hown hK (C := RX11) (T := TX11) (N := 19) rfl hly_13_8 hlk_65 (hh_32.at 1 rfl) dX11_cancelRequest_49 ?_
        refine lv_iload_n hx hb dX11_cancelRequest_52 rfl (lv_at hl 2 rfl) ?_
        have hsz_39 := hh_32.2.2.2.2.2.1
        have htt_39 := hh_32.2.2.2.2.2.2.1
        refine W.room (fun hrc_39 hrs_39 => ?_)
        refine j_callFx (A0 := jA base) (H0 := s.heap) (va_runF (hK.1 1 _ rfl).2 (As := [.int v2_28]) (rest := []) ⟨hx, hb, hml, hown, hts⟩ (uJx4a65c_get_915e3L2 l dC dI ca base B hB hAp hB1 hB10 hB222 G_9 H_32 waiting_31 v2_28 size_36 wl) (va_cwF 1 hts (jgF (jWr_28 _ (List.mem_of_getElem? (i := 3) rfl)) (jWr_28 _ (List.mem_of_getElem? (i := 4) rfl)) (jWr_28 _ (List.mem_of_getElem? (i := 5) rfl)) (jWr_2 _ (List.mem_of_getElem? (i := 13) rfl)) (jWr_28 _ (List.mem_of_getElem? (i := 6) rfl))) rfl rfl rfl hK7.2.2.2.2.2.1.2.1 ⟨by decide, by decide, by decide +kernel⟩ ⟨by rw [← hR]; exact Nat.le_of_ble_eq_true rfl, by rw [← hR]; exact Nat.le_of_ble_eq_true rfl⟩) ⟨fun a U g mk q => by obtain ⟨q0, q1, q2, qK, q10, q11, q12, q13, q14⟩ := q; exact ⟨q0, q1, q2, jG.calling g mk a qK, (jK7.calling g mk a q10), q11, q12, q13, q14⟩, hh_32.recv (C := RJx4a65c) (T := TJx4a65c) (N := 3) hB1 rfl (by decide) hg_waiting_31 hK, fun U hU hW => ⟨rfl, hU, hh_32.2.1, hG.step hW hU hh_32.1, (hK7.step hW hU hh_32.1), hg_waiting_31, (hh_32.2.2.1.sub (L1 := [(waiting_31, 1, 2, .int size_36)]) [0] rfl), (hh_32.2.2.2.2.2.2.2.2.sub (L1 := [(jFl, jLs dC dI ca G_9 3 none wl)]) [2] rfl), ⟨(by first | omega | rfl | assumption | fail), (by first | omega | rfl | assumption | fail)⟩⟩⟩ rfl rfl hl.1 rfl (lv_room (Nat.le_of_ble_eq_true rfl)) dX11_cancelRequest_53 ⟨by rw [hRc]; show _ + 0 ≤ _; omega, by rw [hRs]; show _ + 0 ≤ _; omega⟩) hh_32.1 (fun q _ h => h) (fun q h => h) (fun r_40 u_39 t_39 H_39 locs_39 ht_39 hvm_39 hr_40 hb_39 hz_39 hk_39 hS_39 => ?_)
        rw [ht_39] at hb_39
        obtain ⟨hb_39, hbE_39⟩ := hb_39
        obtain ⟨hb_391, hb_392, hb_393, hb_394, hb_395⟩ := hb_39
        have hh_39 : jSt (dC, dI) B base G0 G_9 EX11_cancelRequest s.heap ((n_pa - n_pa) / 16 + 11) (2 * (n_pa - n_pa) + 267) [(waiting_31, 1, 2, .int size_36), (r0, 13, 8, .ref waiting_31), (bo, 2, 1, .int pc), (bo, 2, 0, .ref pa), (r0, 13, 4, .ref bo), (r0, 13, 3, .ref ou), (r0, 13, 2, .ref js), (js, 6, 7, .int pv), (js, 6, 8, .int pu), (js, 6, 0, .ref wk), (js, 6, 1, .ref wi), (js, 6, 2, .ref wz), (js, 6, 5, .ref jks)] [(wk, 140, 1502, ca 1, fk), (wi, 141, 1502, ca 1, fi), (wz, 142, 1502, ca 1, fz), (jks, 145, 1502, ca 1, fs)] [(jFl, jLs dC dI ca G_9 3 none wl), ([(2, 0), (2, 1)], jOl (dC, dI) G0 2 [bo, ou] s.heap), (jFy, jYb dC dI G_9)] H_39 locs_39 := (((hh_32.call hb_391 hb_392 hb_393 hb_394 hS_39 rfl (L1 := [(waiting_31, 1, 2, .int size_36), (r0, 13, 8, .ref waiting_31), (bo, 2, 1, .int pc), (bo, 2, 0, .ref pa), (r0, 13, 4, .ref bo), (r0, 13, 3, .ref ou), (r0, 13, 2, .ref js), (js, 6, 7, .int pv), (js, 6, 8, .int pu), (js, 6, 0, .ref wk), (js, 6, 1, .ref wi), (js, 6, 2, .ref wz), (js, 6, 5, .ref jks)]) [0, 1, 2, 3, 4, 5, 6, 7, 8, 9, 10, 11, 12] rfl rfl (M1 := [(wk, 140, 1502, ca 1, fk), (wi, 141, 1502, ca 1, fi), (wz, 142, 1502, ca 1, fz), (jks, 145, 1502, ca 1, fs)]) [0, 1, 2, 3] rfl rfl (I1 := [([(2, 0), (2, 1)], jOl (dC, dI) G0 2 [bo, ou] s.heap), (jFy, jYb dC dI G_9)]) [0, 1] rfl rfl).more hb_395)).addIs hbE_39
        clear hh_32 ht_39 hvm_39 hz_39 hk_39 hS_39 hb_391 hb_392 hb_393 hb_394 hb_395
        clear  hbE_39
        obtain ⟨ret_41, rfl, hg_ret_41⟩ := hr_40
        refine va_castY hx hb hown (htw (.classLink RX11 115 "ProofServer$Request") (jWr_42 _ (List.mem_of_getElem? (i := 5) rfl))) hK7.2.2.1.2.1.2 (hh_39.recv (C := RX8) (T := TX8) (N := 5) hB10 rfl (by decide) hg_ret_41 hK) dX11_cancelRequest_58 ?_
        refine lv_aload_n hx hb dX11_cancelRequest_61 rfl (lv_at hl 1 rfl) ?_
        have hsz_42 := hh_39.2.2.2.2.2.1
        have htt_42 := hh_39.2.2.2.2.2.2.1
        refine W.room (fun hrc_42 hrs_42 => ?_)
        refine va_calli (A0 := jA base) (H0 := s.heap) (va_runV (As := [.ref s.heap.size]) (rest := []) ⟨hx, hb, hml, hown, hts⟩ (uX8_hasIdOf l dC dI ca base B hB hAp hB2 hB10 hB196 G_9 H_39 ret_41 s.heap.size) (cwV 1 hts (jgV (jWr_43 _ (List.mem_of_getElem? (i := 23) rfl)) (jWr_44 _ (List.mem_of_getElem? (i := 0) rfl)) (jWr_44 _ (List.mem_of_getElem? (i := 1) rfl)) (jWr_19 _ (List.mem_of_getElem? (i := 5) rfl)) (jWr_44 _ (List.mem_of_getElem? (i := 2) rfl))) rfl rfl rfl (by decide +kernel) ⟨by rw [← hR]; exact Nat.le_of_ble_eq_true rfl, by rw [← hR]; exact Nat.le_of_ble_eq_true rfl⟩) ⟨fun a U g mk q => by obtain ⟨q0, q1, q2, qK, q10, q11, q12, q13, q14⟩ := q; exact ⟨q0, q1, q2, jG.calling g mk a qK, q10, q11, q12, q13, q14⟩, hh_39.recv (C := RX8) (T := TX8) (N := 5) hB10 rfl (by decide) hg_ret_41 hK, fun U hU hW => ⟨rfl, hU, hh_39.2.1, hG.step hW hU hh_39.1, hgc_9, hg_ret_41, jP.nil, (hh_39.2.2.2.2.2.2.2.2.sub (L1 := [(jFy, jYb dC dI G_9)]) [2] rfl), trivial⟩⟩ rfl rfl hl.1 rfl (lv_room (Nat.le_of_ble_eq_true rfl)) dX11_cancelRequest_62 ⟨by rw [hRc]; show _ + 0 ≤ _; omega, by rw [hRs]; show _ + 0 ≤ _; omega⟩) hh_39.1 (fun q _ h => h) (fun q h => h) (fun r_43 u_42 t_42 H_42 locs_42 ht_42 hvm_42 hr_43 hb_42 hz_42 hk_42 hS_42 => ?_)
        rw [ht_42] at hb_42
        obtain ⟨hb_42, hbE_42⟩ := hb_42
        obtain ⟨hb_421, hb_422, hb_423, hb_424, hb_425⟩ := hb_42
        have hh_42 : jSt (dC, dI) B base G0 G_9 EX11_cancelRequest s.heap ((n_pa - n_pa) / 16 + 11) (2 * (n_pa - n_pa) + 267) [(waiting_31, 1, 2, .int size_36), (r0, 13, 8, .ref waiting_31), (bo, 2, 1, .int pc), (bo, 2, 0, .ref pa), (r0, 13, 4, .ref bo), (r0, 13, 3, .ref ou), (r0, 13, 2, .ref js), (js, 6, 7, .int pv), (js, 6, 8, .int pu), (js, 6, 0, .ref wk), (js, 6, 1, .ref wi), (js, 6, 2, .ref wz), (js, 6, 5, .ref jks)] [(wk, 140, 1502, ca 1, fk), (wi, 141, 1502, ca 1, fi), (wz, 142, 1502, ca 1, fz), (jks, 145, 1502, ca 1, fs)] [(jFy, jYb dC dI G_9), (jFl, jLs dC dI ca G_9 3 none wl), ([(2, 0), (2, 1)], jOl (dC, dI) G0 2 [bo, ou] s.heap)] H_42 locs_42 := (((hh_39.call hb_421 hb_422 hb_423 hb_424 hS_42 rfl (L1 := [(waiting_31, 1, 2, .int size_36), (r0, 13, 8, .ref waiting_31), (bo, 2, 1, .int pc), (bo, 2, 0, .ref pa), (r0, 13, 4, .ref bo), (r0, 13, 3, .ref ou), (r0, 13, 2, .ref js), (js, 6, 7, .int pv), (js, 6, 8, .int pu), (js, 6, 0, .ref wk), (js, 6, 1, .ref wi), (js, 6, 2, .ref wz), (js, 6, 5, .ref jks)]) [0, 1, 2, 3, 4, 5, 6, 7, 8, 9, 10, 11, 12] rfl rfl (M1 := [(wk, 140, 1502, ca 1, fk), (wi, 141, 1502, ca 1, fi), (wz, 142, 1502, ca 1, fz), (jks, 145, 1502, ca 1, fs)]) [0, 1, 2, 3] rfl rfl (I1 := [(jFl, jLs dC dI ca G_9 3 none wl), ([(2, 0), (2, 1)], jOl (dC, dI) G0 2 [bo, ou] s.heap)]) [0, 1] rfl rfl).more hb_425)).addIs hbE_42
        clear hh_39 ht_42 hvm_42 hz_42 hk_42 hS_42 hb_421 hb_422 hb_423 hb_424 hb_425
        clear  hbE_42
        obtain ⟨hr_43b, hr_43p⟩ := hr_43
        have hr_43' := jb_01 hr_43b
        refine lv_if_eq (tgt := 89) hx hb dX11_cancelRequest_65 (by decide) (fun c_44 => ?_) (fun c_44 => ?_)
        · skip
          have c_44' : r_43.toInt = 0 := jb_eq (rfl) ((by decide)) c_44
          obtain ⟨z_45, ez_45⟩ : ∃ y : Int32, y = v2_28 + 1 := ⟨_, rfl⟩
          refine lv_iinc (v := z_45) (lv' := [(2, .int z_45), (0, .ref r0), (1, .ref s.heap.size)]) hx hb dX11_cancelRequest_89 hl (k := 2) rfl (by rw [ez_45]; rfl) (by decide) rfl (fun ls hl => ?_)
          have hz_45 : z_45.toInt = v2_28.toInt + 1 := by rw [ez_45]; exact jb_iadd2 (rfl) (by decide) (by omega)
          refine lv_goto (tgt := 35) hx hb dX11_cancelRequest_92 (by decide) ?_
          refine W.tight (c2 := ((n_pa - n_pa) / 16 + 11)) (n2 := (2 * (n_pa - n_pa) + 267)) hh_42.2.2.2.2.2.1 hh_42.2.2.2.2.2.2.1 ?_
          exact L35 z_45 _ _ (hh_42.sub (L1 := [(bo, 2, 1, .int pc), (bo, 2, 0, .ref pa), (r0, 13, 4, .ref bo), (r0, 13, 3, .ref ou), (r0, 13, 2, .ref js), (js, 6, 7, .int pv), (js, 6, 8, .int pu), (js, 6, 0, .ref wk), (js, 6, 1, .ref wi), (js, 6, 2, .ref wz), (js, 6, 5, .ref jks)]) [2, 3, 4, 5, 6, 7, 8, 9, 10, 11, 12] rfl (M1 := [(wk, 140, 1502, ca 1, fk), (wi, 141, 1502, ca 1, fi), (wz, 142, 1502, ca 1, fz), (jks, 145, 1502, ca 1, fs)]) [0, 1, 2, 3] rfl (I1 := [([(2, 0), (2, 1)], jOl (dC, dI) G0 2 [bo, ou] s.heap), (jFy, jYb dC dI G_9), (jFl, jLs dC dI ca G_9 3 none wl)]) [2, 0, 1] rfl) (⟨(by first | omega | rfl | assumption | fail), (by first | omega | rfl | assumption | fail)⟩) (by omega) _ (lv_sub hl [1, 2, 0] rfl)
        · skip
          have c_44' : r_43.toInt ≠ 0 := jb_eq_n (rfl) ((by decide)) c_44
          refine lv_aload_n hx hb dX11_cancelRequest_68 rfl (lv_at hl 0 rfl) ?_
          refine lv_aload_n hx hb dX11_cancelRequest_69 rfl (lv_at hl 0 rfl) ?_
          refine j7_read hx hb hown hK (C := RX11) (T := TX11) (N := 19) rfl hly_13_8 hlk_65 (hh_42.at 1 rfl) dX11_cancelRequest_70 ?_
          refine lv_iload_n hx hb dX11_cancelRequest_73 rfl (lv_at hl 2 rfl) ?_
          have hsz_46 := hh_42.2.2.2.2.2.1
          have htt_46 := hh_42.2.2.2.2.2.2.1
          refine W.room (fun hrc_46 hrs_46 => ?_)
          refine j_callFx (A0 := jA base) (H0 := s.heap) (va_runF (hK.1 1 _ rfl).2 (As := [.int v2_28]) (rest := [.ref r0]) ⟨hx, hb, hml, hown, hts⟩ (uJx4a65c_remove_915e3L2 l dC dI ca base B hB hAp hB1 hB10 hB222 G_9 H_42 waiting_31 v2_28 size_36 wl) (va_cwF 1 hts (jgF (jWr_42 _ (List.mem_of_getElem? (i := 7) rfl)) (jWr_42 _ (List.mem_of_getElem? (i := 8) rfl)) (jWr_42 _ (List.mem_of_getElem? (i := 9) rfl)) (jWr_2 _ (List.mem_of_getElem? (i := 13) rfl)) (jWr_42 _ (List.mem_of_getElem? (i := 10) rfl))) rfl rfl rfl hK7.2.2.2.2.2.1.2.2.2 ⟨by decide, by decide, by decide +kernel⟩ ⟨by rw [← hR]; exact Nat.le_of_ble_eq_true rfl, by rw [← hR]; exact Nat.le_of_ble_eq_true rfl⟩) ⟨fun a U g mk q => by obtain ⟨q0, q1, q2, qK, q10, q11, q12, q13, q14⟩ := q; exact ⟨q0, q1, q2, jG.calling g mk a qK, (jK7.calling g mk a q10), q11, q12, q13, q14⟩, hh_42.recv (C := RJx4a65c) (T := TJx4a65c) (N := 3) hB1 rfl (by decide) hg_waiting_31 hK, fun U hU hW => ⟨rfl, hU, hh_42.2.1, hG.step hW hU hh_42.1, (hK7.step hW hU hh_42.1), hg_waiting_31, (hh_42.2.2.1.sub (L1 := [(waiting_31, 1, 2, .int size_36)]) [0] rfl), (hh_42.2.2.2.2.2.2.2.2.sub (L1 := [(jFl, jLs dC dI ca G_9 3 none wl)]) [1] rfl), ⟨(by first | omega | rfl | assumption | fail), (by first | omega | rfl | assumption | fail)⟩⟩⟩ rfl rfl hl.1 rfl (lv_room (Nat.le_of_ble_eq_true rfl)) dX11_cancelRequest_74 ⟨by rw [hRc]; show _ + 0 ≤ _; omega, by rw [hRs]; show _ + 0 ≤ _; omega⟩) hh_42.1 (fun q _ h => h) (fun q h => h) (fun r_47 u_46 t_46 H_46 locs_46 ht_46 hvm_46 hr_47 hb_46 hz_46 hk_46 hS_46 => ?_)
          obtain ⟨qz_46, rfl⟩ : ∃ z, z = u_46 := ⟨_, rfl⟩
          rw [ht_46] at hb_46
          obtain ⟨hb_46, hbE_46⟩ := hb_46
          obtain ⟨hb_46, hbO_46⟩ := hb_46
          obtain ⟨hb_461, hb_462, hb_463, hb_464, hb_465⟩ := hb_46
          have hh_46 : jSt (dC, dI) B base G0 G_9 EX11_cancelRequest s.heap ((n_pa - n_pa) / 16 + 11) (2 * (n_pa - n_pa) + 267) [(waiting_31, 1, 2, .int qz_46), (r0, 13, 8, .ref waiting_31), (bo, 2, 1, .int pc), (bo, 2, 0, .ref pa), (r0, 13, 4, .ref bo), (r0, 13, 3, .ref ou), (r0, 13, 2, .ref js), (js, 6, 7, .int pv), (js, 6, 8, .int pu), (js, 6, 0, .ref wk), (js, 6, 1, .ref wi), (js, 6, 2, .ref wz), (js, 6, 5, .ref jks)] [(wk, 140, 1502, ca 1, fk), (wi, 141, 1502, ca 1, fi), (wz, 142, 1502, ca 1, fz), (jks, 145, 1502, ca 1, fs)] [(jFl, jLs dC dI ca G_9 3 none wl), (jFy, jYb dC dI G_9), ([(2, 0), (2, 1)], jOl (dC, dI) G0 2 [bo, ou] s.heap)] H_46 locs_46 := (((hh_42.call hb_461 hb_462 hb_463 hb_464 hS_46 rfl (L1 := [(r0, 13, 8, .ref waiting_31), (bo, 2, 1, .int pc), (bo, 2, 0, .ref pa), (r0, 13, 4, .ref bo), (r0, 13, 3, .ref ou), (r0, 13, 2, .ref js), (js, 6, 7, .int pv), (js, 6, 8, .int pu), (js, 6, 0, .ref wk), (js, 6, 1, .ref wi), (js, 6, 2, .ref wz), (js, 6, 5, .ref jks)]) [1, 2, 3, 4, 5, 6, 7, 8, 9, 10, 11, 12] rfl rfl (M1 := [(wk, 140, 1502, ca 1, fk), (wi, 141, 1502, ca 1, fi), (wz, 142, 1502, ca 1, fz), (jks, 145, 1502, ca 1, fs)]) [0, 1, 2, 3] rfl rfl (I1 := [(jFy, jYb dC dI G_9), ([(2, 0), (2, 1)], jOl (dC, dI) G0 2 [bo, ou] s.heap)]) [0, 2] rfl rfl).more hb_465)).addIs hbE_46
          clear hh_42 ht_46 hvm_46 hz_46 hk_46 hS_46 hb_461 hb_462 hb_463 hb_464 hb_465
          clear  hbE_46
          obtain ⟨hr_47, hr_47p⟩ := hr_47
          obtain ⟨ret_48, rfl, hg_ret_48⟩ := hr_47
          refine va_castY hx hb hown (htw (.classLink RX11 115 "ProofServer$Request") (jWr_42 _ (List.mem_of_getElem? (i := 5) rfl))) hK7.2.2.1.2.1.2 (hh_46.recv (C := RX8) (T := TX8) (N := 5) hB10 rfl (by decide) hg_ret_48 hK) dX11_cancelRequest_79 ?_
          refine lv_ldcw hx hb hown hcs_429 dX11_cancelRequest_82 ?_
          have hsz_49 := hh_46.2.2.2.2.2.1
          have htt_49 := hh_46.2.2.2.2.2.2.1
          refine W.room (fun hrc_49 hrs_49 => ?_)
          refine va_callv (A0 := jA base) (H0 := s.heap) (va_runV (As := [.ref ret_48, .int (-32800)]) (rest := []) ⟨hx, hb, hml, hown, hts⟩ (uX11_refuse l dC dI ca base B hB hAp hB2 hB4 hB10 hB13 hB196 G_9 H_46 r0 ret_48 (-32800) bo pc pa n_pa ou LC LS) (cwV 2 hts (jgV (jWr_26 _ (List.mem_of_getElem? (i := 3) rfl)) (jWr_26 _ (List.mem_of_getElem? (i := 4) rfl)) (jWr_26 _ (List.mem_of_getElem? (i := 5) rfl)) (jWr_1 _ (List.mem_of_getElem? (i := 2) rfl)) (jWr_26 _ (List.mem_of_getElem? (i := 6) rfl))) rfl rfl rfl (by decide +kernel) ⟨by rw [← hR]; exact Nat.le_of_ble_eq_true rfl, by rw [← hR]; exact Nat.le_of_ble_eq_true rfl⟩) ⟨fun a U g mk q => by obtain ⟨q0, q1, q2, qK, q10, q11, q12, q13, q14, q15, q16, q17⟩ := q; exact ⟨q0, q1, q2, jG.calling g mk a qK, q10, q11, q12, q13, q14, q15, q16, q17⟩, hh_46.recv (C := RX11) (T := TX11) (N := 19) hB13 rfl (by decide) hg_11 hK, fun U hU hW => ⟨rfl, hU, hh_46.2.1, hG.step hW hU hh_46.1, hg_ret_48, hg_11, hg_12, hg_24, hg_13, (hh_46.2.2.1.sub (L1 := [(r0, 13, 4, .ref bo), (bo, 2, 1, .int pc), (bo, 2, 0, .ref pa), (r0, 13, 3, .ref ou)]) [4, 2, 3, 5] rfl), (hh_46.2.2.2.2.2.2.2.2.sub (L1 := [(jFy, jYb dC dI G_9)]) [1] rfl), (by omega), (by omega), ⟨(by first | omega | rfl | assumption | fail), (by first | omega | rfl | assumption | fail), (by first | omega | rfl | assumption | fail), (by first | omega | rfl | assumption | fail), (by first | assumption | fail | omega)⟩⟩⟩ rfl rfl hl.1 rfl (lv_room (Nat.le_of_ble_eq_true rfl)) dX11_cancelRequest_85 ⟨by rw [hRc]; omega, by rw [hRs]; omega⟩) hh_46.1 (fun q _ h => h) (fun q h => h) (fun u_49 t_49 H_49 locs_49 ht_49 hvm_49 hr_50 hb_49 hz_49 hk_49 hS_49 => ?_)
          obtain ⟨qc_49, qa_49, m_qa_49, G_49⟩ := u_49
          rw [ht_49] at hb_49
          simp only at hb_49
          obtain ⟨⟨hb_491, hb_492, hb_493, hb_494, hb_495, hb_496⟩, hgq_49_0, hN_49, hbO_49, hbE_49⟩ := hb_49
          have hY_49 := hN_49
          have hN_49 : (jNk [0, 1, 3, 4, 5, 6, 7, 8, 9, 11, 12, 13, 14, 15, 16]) G_9 G_49 := hN_49.sub (by decide)
          have hh_49 : jSt (dC, dI) B base G0 G_49 EX11_cancelRequest s.heap (((n_pa - n_pa) / 16 + 11) + ((m_qa_49 - n_pa) / 16)) ((2 * (n_pa - n_pa) + 267) + (2 * (m_qa_49 - n_pa))) [(bo, 2, 1, .int qc_49), (bo, 2, 0, .ref qa_49), (waiting_31, 1, 2, .int qz_46), (r0, 13, 8, .ref waiting_31), (r0, 13, 4, .ref bo), (r0, 13, 3, .ref ou), (r0, 13, 2, .ref js), (js, 6, 7, .int pv), (js, 6, 8, .int pu), (js, 6, 0, .ref wk), (js, 6, 1, .ref wi), (js, 6, 2, .ref wz), (js, 6, 5, .ref jks)] [(wk, 140, 1502, ca 1, fk), (wi, 141, 1502, ca 1, fi), (wz, 142, 1502, ca 1, fz), (jks, 145, 1502, ca 1, fs)] [(jFl, jLs dC dI ca G_9 3 none wl)] H_49 locs_49 := (hh_46.callG hb_491 hb_492 hb_493 hb_494 hb_495 hS_49 rfl (L1 := [(waiting_31, 1, 2, .int qz_46), (r0, 13, 8, .ref waiting_31), (r0, 13, 4, .ref bo), (r0, 13, 3, .ref ou), (r0, 13, 2, .ref js), (js, 6, 7, .int pv), (js, 6, 8, .int pu), (js, 6, 0, .ref wk), (js, 6, 1, .ref wi), (js, 6, 2, .ref wz), (js, 6, 5, .ref jks)]) [0, 1, 4, 5, 6, 7, 8, 9, 10, 11, 12] rfl rfl (M1 := [(wk, 140, 1502, ca 1, fk), (wi, 141, 1502, ca 1, fi), (wz, 142, 1502, ca 1, fz), (jks, 145, 1502, ca 1, fs)]) [0, 1, 2, 3] rfl rfl (I1 := [(jFl, jLs dC dI ca G_9 3 none wl)]) [0] rfl rfl).more hb_496
          have hNn_49 : (jNk [0, 1, 3, 4, 5, 6, 7, 8, 9, 11, 12, 13, 14, 15, 16]) G0 G_49 := (hNn_9).tr hN_49
          have hg_51 := hb_492 _ _ hg_11
          have hg_52 := hb_492 _ _ hgc_9
          have hg_53 := hb_492 _ _ hg_waiting_31
          have hg_54 := hb_492 _ _ hg_12
          have hg_55 := hb_492 _ _ hg_13
          have hg_56 := hb_492 _ _ hg_14
          have hg_57 := hb_492 _ _ hg_15
          have hg_58 := hb_492 _ _ hg_16
          have hg_59 := hb_492 _ _ hg_17
          have hg_60 := hb_492 _ _ hg_18
          have hd_61 := jLs.grow (hh_49.iv 0 rfl) hb_492 hN_49 (by decide)
          have hh_62 := hh_49.sub (L1 := [(bo, 2, 1, .int qc_49), (bo, 2, 0, .ref qa_49), (waiting_31, 1, 2, .int qz_46), (r0, 13, 8, .ref waiting_31), (r0, 13, 4, .ref bo), (r0, 13, 3, .ref ou), (r0, 13, 2, .ref js), (js, 6, 7, .int pv), (js, 6, 8, .int pu), (js, 6, 0, .ref wk), (js, 6, 1, .ref wi), (js, 6, 2, .ref wz), (js, 6, 5, .ref jks)]) [0, 1, 2, 3, 4, 5, 6, 7, 8, 9, 10, 11, 12] rfl (M1 := [(wk, 140, 1502, ca 1, fk), (wi, 141, 1502, ca 1, fi), (wz, 142, 1502, ca 1, fz), (jks, 145, 1502, ca 1, fs)]) [0, 1, 2, 3] rfl (I1 := []) [] rfl
          clear hh_49
          have hh_63 := hh_62.addI (jLs.ie hd_61)
          clear hh_62
          have hh_64 := hh_63.addIs hbE_49
          have hd_65 := jOl.trL (hh_46.iv 2 rfl) hh_46.2.2.2.2.1 hbO_49 (by simp)
          have hh_66 := hh_64.addI (jOl.ie (dC := dC) (dI := dI) (G0 := G0) (k := 2) (rs := [bo, ou]) (H0 := s.heap) (F := [(2, 0), (2, 1)]) (C := RX0) (T := TX0) (N := 2) rfl (by decide) hh_64.2.2.2.2.1 (hd_65))
          clear hh_64
          try simp only at hr_50
          obtain ⟨hr_50_0, hr_50_1, hr_50_2, hr_50_3, hr_50_4⟩ := hr_50
          have hh_67 := hh_66.wk (zc1 := (m_qa_49 - n_pa) / 16 + 11) (zs1 := 2 * (m_qa_49 - n_pa) + 267) (by omega) (by omega)
          clear hh_66
          try clear hsz_49 htt_49 hrc_49 hrs_49
          try clear hb_494 hb_495
          have hsz_68 := hh_67.2.2.2.2.2.1
          have htt_68 := hh_67.2.2.2.2.2.2.1
          refine W.room (fun hrc_68 hrs_68 => ?_)
          refine W.widen (k := LC - s.heap.size) (n := LS - jTot s.heap) (by omega) (by omega) ?_
          rw [hQ]
          exact W.vret hx hb hr (fun t ht hW => ⟨⟨(qc_49, qa_49, m_qa_49, G_49), rfl, by (try dsimp only); exact ⟨(by first | omega | rfl | assumption | fail), (by first | omega | rfl | assumption | fail), (by first | omega | rfl | assumption | fail), (by first | omega | rfl | assumption | fail), (by first | assumption | fail | omega)⟩, ⟨hh_67.ra (by first | (simp only; omega) | omega) (by first | (simp only; omega) | omega) (M1 := [(bo, 2, 1, .int qc_49), (bo, 2, 0, .ref qa_49)]) [0, 1] rfl ht, hgq_49_0, hNn_49, by rw [ht]; exact hh_67.iv 0 rfl, by rw [ht]; exact hh_67.2.2.2.2.2.2.2.2.sub (L1 := [(jFy, jYb dC dI G_49), (jFl, jLs dC dI ca G_49 3 none wl)]) [1, 2] rfl⟩⟩, by rw [ht]; try exact hh_67.1.1, fun q h9 hq => by rw [ht]; try exact hh_67.1.2.1 q h9 hq⟩) hh_67.1.2.2 dX11_cancelRequest_88
  refine W.tight (c2 := ((n_pa - n_pa) / 16 + 11)) (n2 := (2 * (n_pa - n_pa) + 267)) hh_27.2.2.2.2.2.1 hh_27.2.2.2.2.2.2.1 ?_
  exact L35 (41 - (0 : Int32).toInt : Int).toNat.succ 0 _ _ hh_27 (⟨(by first | omega | rfl | assumption | fail), (by first | omega | rfl | assumption | fail)⟩) (by omega) _ (lv_sub hl [2, 1, 0] rfl)
end
section
def EX4_isTextJ : List (Nat × Nat) := []
set_option maxHeartbeats 4000000 in
set_option maxRecDepth 20000 in
theorem uX4_isTextJ (l : Launch) (dC : Nat → ClassId) (dI : Nat → Nat → Nat) (ca : Nat → ClassId) (base : Nat) (B : jF) (hB : jBok B) (hAp : jAp (dC, dI)) (hB6 : ∀ n G a H, B 6 n G a H ↔ jOb (dC, dI) 6 12 (F6 n G) a H) (hB140 : ∀ n G a H, B 140 n G a H ↔ jAr (dC, dI) (ca 1) (fun j z => True) n a H) (hB141 : ∀ n G a H, B 141 n G a H ↔ jAr (dC, dI) (ca 1) (fun j z => True) n a H) (hB142 : ∀ n G a H, B 142 n G a H ↔ jAr (dC, dI) (ca 1) (fun j z => True) n a H) (hB146 : ∀ n G a H, B 146 n G a H ↔ jAr (dC, dI) (ca 1) (fun j z => True) n a H) (G0 : jT) (H0 : Heap) (r0 : Nat) (a1 : Int32) (r2 : Nat) (n2 : Nat) (f2 : Nat → Int32) (pv : Int32) (pu : Int32) (wk : Nat) (wi : Nat) (wz : Nat) (jnx : Nat) (jkf : Nat) (jks : Nat) (jun : Nat) (T9 : Nat → Int → Int) (fk : Nat → Int32) (fi : Nat → Int32) (fz : Nat → Int32) (fn : Nat → Int32) (fa : Nat → Int32) (fs : Nat → Int32) (fu : Nat → Int32) : Met l yX4_isText (jw yX4_isText cX4_isText 3 (some .boolean)) ({ frames := 5, cells := 0, slots := 0, locals := 165 }) (va_Pc [.ref r0, .int a1, .ref r2] (fun U => U.heap = H0 ∧ jX B base G0 [] H0 ∧ jG dC dI ca base U ∧ jStrF base r2 n2 f2 U H0 ∧ G0 r0 = some (6, 0) ∧ G0 wk = some (140, 1502) ∧ G0 wi = some (141, 1502) ∧ G0 wz = some (142, 1502) ∧ G0 jnx = some (143, 1502) ∧ G0 jkf = some (144, 1502) ∧ G0 jks = some (145, 1502) ∧ G0 jun = some (146, 3000) ∧ jP (dC, dI) G0 H0 [(r0, 6, 7, .int pv), (r0, 6, 8, .int pu), (r0, 6, 0, .ref wk), (r0, 6, 1, .ref wi), (r0, 6, 2, .ref wz), (r0, 6, 3, .ref jnx), (r0, 6, 4, .ref jkf), (r0, 6, 5, .ref jks), (r0, 6, 6, .ref jun)] ∧ jMc (dC, dI) G0 H0 [(wk, 140, 1502, ca 1, fk), (wi, 141, 1502, ca 1, fi), (wz, 142, 1502, ca 1, fz), (jnx, 143, 1502, ca 1, fn), (jkf, 144, 1502, ca 1, fa), (jks, 145, 1502, ca 1, fs), (jun, 146, 3000, ca 1, fu)] ∧ 0 ≤ pv.toInt ∧ pv.toInt ≤ 1502 ∧ 0 ≤ pu.toInt ∧ pu.toInt ≤ 3000 ∧ jjTC T9 pv.toInt pu.toInt fk fi fz fn fa fs fu ∧ n2 ≤ 1000 ∧ jqR fk fi fz fa fs pv.toInt pu.toInt)) (va_Qi (S := Unit) (fun r u => (r = 0 ∨ r = 1) ∧ ((r.toInt = 0 ∨ (0 ≤ a1.toInt ∧ a1.toInt < pv.toInt ∧ jSo fk a1.toInt = 3 ∧ jSo fz a1.toInt = n2)) ∧ r.toInt = jqI T9 pv.toInt f2 n2 a1.toInt)) (fun u t => (jRt (dC, dI) B base G0 EX4_isTextJ H0 [] t.heap) ∧ jKl [] H0 t.heap) (jA base)) 0 0 (jA base) := by
  refine Met.ofW (cc := cX4_isText) (maxL := 3) (ret := (some .boolean)) (by decide) rfl ?_
  intro p e s m args below meth c s₁ Bd hml hv
  obtain ⟨rfl, hH0, hX, hG, hstrF_r2, hg_r0, hg_wk, hg_wi, hg_wz, hg_jnx, hg_jkf, hg_jks, hg_jun, hP0, hM0, hp0, hp1, hp2, hp3, hp4, hp5, hp6⟩ := hv
  have hK := hG.1
  have hx := Bd.exec
  have hb := Bd.bytes
  have hr := Bd.returns
  have hts := atoms_spec (ws := (jw yX4_isText cX4_isText 3 (some .boolean))) Bd.pre
  have htw : ∀ w ∈ jWl, w.before _ s = true := fun w h => hts w (List.mem_cons_of_mem _ h)
  have hown : s.vm.findClass RX4 = some m.cls := findClass_of_methodNamed Bd.named
  have hlocks := Bd.notSynchronized
  obtain ⟨Q, hQ⟩ : ∃ Q, Q = MQ below (va_Qi (S := Unit) (fun r u => (r = 0 ∨ r = 1) ∧ ((r.toInt = 0 ∨ (0 ≤ a1.toInt ∧ a1.toInt < pv.toInt ∧ jSo fk a1.toInt = 3 ∧ jSo fz a1.toInt = n2)) ∧ r.toInt = jqI T9 pv.toInt f2 n2 a1.toInt)) (fun u t => (jRt (dC, dI) B base G0 EX4_isTextJ H0 [] t.heap) ∧ jKl [] H0 t.heap) (jA base)) ([.ref r0, .int a1, .ref r2] : List Value).toArray s 0 0 (jA base) := ⟨_, rfl⟩
  rw [← hQ]
  have hl := lv_entry ([.ref r0, .int a1, .ref r2]) (n := 3) (Nat.le_of_ble_eq_true rfl)
  rw [lg_entry_eq]
  generalize (lg_sl ([.ref r0, .int a1, .ref r2]) ++ List.replicate (3 - (lg_sl ([.ref r0, .int a1, .ref r2])).length) Slot.unset).toArray = ls at hl ⊢
  have hstr_r2 := hstrF_r2.str
  have hl : lv_has ls 3 [(0, .ref r0), (1, .int a1), (2, .ref r2)] := hl
  generalize hR : (headSpec (jw yX4_isText cX4_isText 3 (some .boolean)) ({ frames := 5, cells := 0, slots := 0, locals := 165 })).room = R
  subst hH0
  have hh : jSt (dC, dI) B base G0 G0 EX4_isTextJ s.heap 0 0 [(r0, 6, 7, .int pv), (r0, 6, 8, .int pu), (r0, 6, 0, .ref wk), (r0, 6, 1, .ref wi), (r0, 6, 2, .ref wz), (r0, 6, 3, .ref jnx), (r0, 6, 4, .ref jkf), (r0, 6, 5, .ref jks), (r0, 6, 6, .ref jun)] [(wk, 140, 1502, ca 1, fk), (wi, 141, 1502, ca 1, fi), (wz, 142, 1502, ca 1, fz), (jnx, 143, 1502, ca 1, fn), (jkf, 144, 1502, ca 1, fa), (jks, 145, 1502, ca 1, fs), (jun, 146, 3000, ca 1, fu)] [] s.heap [] := jSt.start hX hP0 hM0 jIs.nil
  clear hX hP0
  have hk0 : (0 : Int32).toInt = 0 := by decide
  have hk1 : (1 : Int32).toInt = 1 := by decide
  have hk3 : (3 : Int32).toInt = 3 := by decide
  have hly_6_1 := htw (u_lay RX4 TX4 1) (jWc_wsX40 _ (u_in_lay (by decide)))
  have hly_6_2 := htw (u_lay RX4 TX4 2) (jWc_wsX40 _ (u_in_lay (by decide)))
  have hlk_15 := (htw (.fieldLink RX4 15 "ProofServer$Json" "firsts" "[I") (jWr_3 _ (List.mem_of_getElem? (i := 22) rfl)))
  have hlk_18 := (htw (.fieldLink RX4 18 "ProofServer$Json" "sizes" "[I") (jWr_3 _ (List.mem_of_getElem? (i := 23) rfl)))
  have hrg_a1 := jb_rng a1
  have hfl : jKl [] s.heap s.heap := jKl.rf
  refine lv_aload_n hx hb dX4_isText_0 rfl (lv_at hl 0 rfl) ?_
  refine lv_iload_n hx hb dX4_isText_1 rfl (lv_at hl 1 rfl) ?_
  refine va_calli (A0 := jA base) (H0 := s.heap) (va_runV (As := [.int a1]) (rest := []) ⟨hx, hb, hml, hown, hts⟩ (uX4_kindOfJ l dC dI ca base B hB hAp hB6 hB140 G0 s.heap r0 a1 pv pu wk wi wz jnx jkf jks jun T9 fk fi fz fn fa fs fu) (cwV 1 hts (jgV (jWr_23 _ (List.mem_of_getElem? (i := 14) rfl)) (jWr_23 _ (List.mem_of_getElem? (i := 15) rfl)) (jWr_23 _ (List.mem_of_getElem? (i := 16) rfl)) (jWr_1 _ (List.mem_of_getElem? (i := 22) rfl)) (jWr_23 _ (List.mem_of_getElem? (i := 17) rfl))) rfl rfl rfl (by decide +kernel) ⟨by rw [← hR]; exact Nat.le_of_ble_eq_true rfl, by rw [← hR]; exact Nat.le_of_ble_eq_true rfl⟩) ⟨fun a U g mk q => by obtain ⟨q0, q1, q2, qK, q10, q11, q12, q13, q14, q15, q16, q17, q18, q19, q20⟩ := q; exact ⟨q0, q1, q2, jG.calling g mk a qK, q10, q11, q12, q13, q14, q15, q16, q17, q18, q19, q20⟩, hh.recv (C := RX4) (T := TX4) (N := 12) hB6 rfl (by decide) hg_r0 hK, fun U hU hW => ⟨rfl, hU, hh.2.1, hG.step hW hU hh.1, hg_r0, hg_wk, hg_wi, hg_wz, hg_jnx, hg_jkf, hg_jks, hg_jun, (hh.2.2.1.sub (L1 := [(r0, 6, 7, .int pv), (r0, 6, 8, .int pu), (r0, 6, 0, .ref wk), (r0, 6, 1, .ref wi), (r0, 6, 2, .ref wz), (r0, 6, 3, .ref jnx), (r0, 6, 4, .ref jkf), (r0, 6, 5, .ref jks), (r0, 6, 6, .ref jun)]) [0, 1, 2, 3, 4, 5, 6, 7, 8] rfl), (hh.2.2.2.2.2.2.2.1.sub (L1 := [(wk, 140, 1502, ca 1, fk), (wi, 141, 1502, ca 1, fi), (wz, 142, 1502, ca 1, fz), (jnx, 143, 1502, ca 1, fn), (jkf, 144, 1502, ca 1, fa), (jks, 145, 1502, ca 1, fs), (jun, 146, 3000, ca 1, fu)]) [0, 1, 2, 3, 4, 5, 6] rfl), by first | omega | (refine ⟨?_, ?_, ?_, ?_, ?_⟩ <;> (first | omega | rfl | assumption | decide | exact Or.inl rfl | exact Or.inr rfl | (simp only; omega)))⟩⟩ rfl rfl hl.1 rfl (lv_room (Nat.le_of_ble_eq_true rfl)) dX4_isText_2 ⟨Nat.zero_le _, Nat.zero_le _⟩) hh.1 (fun q _ h => h) (fun q h => h) (fun r_2 u_1 t_1 H_1 locs_1 ht_1 hvm_1 hr_2 hb_1 hz_1 hk_1 hS_1 => ?_)
  rw [ht_1] at hb_1
  obtain ⟨hb_1, hbF_1⟩ := hb_1
  obtain ⟨hb_11, hb_12, hb_13, hb_14, hb_15⟩ := hb_1
  have hh_1 : jSt (dC, dI) B base G0 G0 EX4_isTextJ s.heap 0 0 [(r0, 6, 7, .int pv), (r0, 6, 8, .int pu), (r0, 6, 0, .ref wk), (r0, 6, 1, .ref wi), (r0, 6, 2, .ref wz), (r0, 6, 3, .ref jnx), (r0, 6, 4, .ref jkf), (r0, 6, 5, .ref jks), (r0, 6, 6, .ref jun)] [(wk, 140, 1502, ca 1, fk), (wi, 141, 1502, ca 1, fi), (wz, 142, 1502, ca 1, fz), (jnx, 143, 1502, ca 1, fn), (jkf, 144, 1502, ca 1, fa), (jks, 145, 1502, ca 1, fs), (jun, 146, 3000, ca 1, fu)] [] H_1 locs_1 := ((hh.call hb_11 hb_12 hb_13 hb_14 hS_1 rfl (L1 := [(r0, 6, 7, .int pv), (r0, 6, 8, .int pu), (r0, 6, 0, .ref wk), (r0, 6, 1, .ref wi), (r0, 6, 2, .ref wz), (r0, 6, 3, .ref jnx), (r0, 6, 4, .ref jkf), (r0, 6, 5, .ref jks), (r0, 6, 6, .ref jun)]) [0, 1, 2, 3, 4, 5, 6, 7, 8] rfl rfl (M1 := [(wk, 140, 1502, ca 1, fk), (wi, 141, 1502, ca 1, fi), (wz, 142, 1502, ca 1, fz), (jnx, 143, 1502, ca 1, fn), (jkf, 144, 1502, ca 1, fa), (jks, 145, 1502, ca 1, fs), (jun, 146, 3000, ca 1, fu)]) [0, 1, 2, 3, 4, 5, 6] rfl rfl (I1 := []) [] rfl rfl).more hb_15)
  clear hh ht_1 hvm_1 hz_1 hk_1 hS_1 hb_11 hb_12 hb_13 hb_14 hb_15
  have hfl_3 := hfl.tr hbF_1 (by first | exact fun q h => h | (intro q h9; simp at h9 ⊢; exact h9) | (intro q h9; simp at h9))
  obtain ⟨hr_2_0, hr_2_1⟩ := hr_2
  refine lv_iconst (v := 3) hx hb dX4_isText_5 (by decide) ?_
  refine lv_icmp_ne (tgt := 33) hx hb dX4_isText_6 (by decide) (fun c_4 => ?_) (fun c_4 => ?_)
  · skip
    have c_4' : r_2.toInt ≠ 3 := jb_ne (rfl) ((by decide)) c_4
    try clear hr_2_0
    refine lv_iconst (v := 0) hx hb dX4_isText_33 (by decide) ?_
    rw [hQ]
    exact W.zret (v := 0) hx hb hr (jb_nz (Or.inl rfl)) (fun t ht hW => ⟨⟨0, (), rfl, ⟨(Or.inl rfl), by refine ⟨Or.inl (by omega), ?_⟩; unfold jqI; rw [if_neg (by rw [← hr_2_1]; omega)]; exact hk0⟩, ⟨hh_1.rt (M1 := []) [] rfl ht, by rw [ht]; exact hfl_3⟩⟩, by rw [ht]; try exact hh_1.1.1, fun q h9 hq => by rw [ht]; try exact hh_1.1.2.1 q h9 hq⟩) hh_1.1.2.2 dX4_isText_34
  · skip
    have c_4' : r_2.toInt = 3 := jb_ne_n (rfl) ((by decide)) c_4
    first | (have hr_2_0q := hr_2_0.resolve_left (by omega); clear hr_2_0) | (have hr_2_0q := hr_2_0.resolve_right (by omega); clear hr_2_0) | try clear hr_2_0
    have hka := jqK.p (T := T9) (v := pv.toInt) (i := a1.toInt) (by rw [← hr_2_1]; omega)
    have hr9 := (hp6 a1.toInt hka.1 hka.2.1).2 (by rw [← hp4.1 _ hka.1 hka.2.1, ← hka.2.2, ← hr_2_1]; omega)
    refine lv_aload_n hx hb dX4_isText_9 rfl (lv_at hl 0 rfl) ?_
    refine lv_aload_n hx hb dX4_isText_10 rfl (lv_at hl 0 rfl) ?_
    refine j7_read hx hb hown hK (C := RX4) (T := TX4) (N := 12) rfl hly_6_1 hlk_15 (hh_1.at 3 rfl) dX4_isText_11 ?_
    refine lv_iload_n hx hb dX4_isText_14 rfl (lv_at hl 1 rfl) ?_
    refine j7_ialdM hx hb hK hh_1 hB141 1 rfl (by decide) hg_wi (x := a1.toInt) (rfl) (by omega) (j := 1) rfl dX4_isText_15 (fun z_5 ez_5 (hz_5 : True) => ?_)
    have hqz_5 : z_5.toInt = jSo fi (a1.toInt) := by unfold jSo; rw [ez_5]
    refine lv_aload_n hx hb dX4_isText_16 rfl (lv_at hl 0 rfl) ?_
    refine j7_read hx hb hown hK (C := RX4) (T := TX4) (N := 12) rfl hly_6_2 hlk_18 (hh_1.at 4 rfl) dX4_isText_17 ?_
    refine lv_iload_n hx hb dX4_isText_20 rfl (lv_at hl 1 rfl) ?_
    refine j7_ialdM hx hb hK hh_1 hB142 1 rfl (by decide) hg_wz (x := a1.toInt) (rfl) (by omega) (j := 2) rfl dX4_isText_21 (fun z_6 ez_6 (hz_6 : True) => ?_)
    have hqz_6 : z_6.toInt = jSo fz (a1.toInt) := by unfold jSo; rw [ez_6]
    refine lv_aload_n hx hb dX4_isText_22 rfl (lv_at hl 2 rfl) ?_
    refine va_calli (A0 := jA base) (H0 := s.heap) (va_runV (As := [.int z_5, .int z_6, .ref r2]) (rest := []) ⟨hx, hb, hml, hown, hts⟩ (uX4_areUnitsJ l dC dI ca base B hB hAp hB6 hB146 G0 H_1 r0 z_5 z_6 r2 n2 f2 pu jun T9 fu) (cwV 3 hts (jgV (jWr_23 _ (List.mem_of_getElem? (i := 18) rfl)) (jWr_23 _ (List.mem_of_getElem? (i := 19) rfl)) (jWr_23 _ (List.mem_of_getElem? (i := 20) rfl)) (jWr_1 _ (List.mem_of_getElem? (i := 22) rfl)) (jWr_23 _ (List.mem_of_getElem? (i := 21) rfl))) rfl rfl rfl (by decide +kernel) ⟨by rw [← hR]; exact Nat.le_of_ble_eq_true rfl, by rw [← hR]; exact Nat.le_of_ble_eq_true rfl⟩) ⟨fun a U g mk q => by obtain ⟨q0, q1, q2, qK, q10, q11, q12, q13, q14, q15⟩ := q; exact ⟨q0, q1, q2, jG.calling g mk a qK, (q10.moved (Vm.Alike.refl U.vm)), q11, q12, q13, q14, q15⟩, hh_1.recv (C := RX4) (T := TX4) (N := 12) hB6 rfl (by decide) hg_r0 hK, fun U hU hW => ⟨rfl, hU, hh_1.2.1, hG.step hW hU hh_1.1, (hstrF_r2.moved hW.alike).kept hh_1.1.2.1, hg_r0, hg_jun, (hh_1.2.2.1.sub (L1 := [(r0, 6, 8, .int pu), (r0, 6, 6, .ref jun)]) [1, 8] rfl), (hh_1.2.2.2.2.2.2.2.1.sub (L1 := [(jun, 146, 3000, ca 1, fu)]) [6] rfl), ⟨(by first | assumption | exact hp4.2.2.2.2.2.2 | omega), (by first | omega | rfl | assumption | exact hp4.2.2.2.2.2.2), (by first | omega | rfl | assumption | exact hp4.2.2.2.2.2.2), (by first | omega | rfl | assumption | exact hp4.2.2.2.2.2.2), (by first | omega | rfl | assumption | exact hp4.2.2.2.2.2.2), (by first | omega | rfl | assumption | exact hp4.2.2.2.2.2.2)⟩⟩⟩ rfl rfl hl.1 rfl (lv_room (Nat.le_of_ble_eq_true rfl)) dX4_isText_23 ⟨Nat.zero_le _, Nat.zero_le _⟩) hh_1.1 (fun q _ h => h) (fun q h => h) (fun r_8 u_7 t_7 H_7 locs_7 ht_7 hvm_7 hr_8 hb_7 hz_7 hk_7 hS_7 => ?_)
    rw [ht_7] at hb_7
    obtain ⟨hb_7, hbF_7⟩ := hb_7
    obtain ⟨hb_71, hb_72, hb_73, hb_74, hb_75⟩ := hb_7
    have hh_7 : jSt (dC, dI) B base G0 G0 EX4_isTextJ s.heap 0 0 [(r0, 6, 7, .int pv), (r0, 6, 8, .int pu), (r0, 6, 0, .ref wk), (r0, 6, 1, .ref wi), (r0, 6, 2, .ref wz), (r0, 6, 3, .ref jnx), (r0, 6, 4, .ref jkf), (r0, 6, 5, .ref jks), (r0, 6, 6, .ref jun)] [(wk, 140, 1502, ca 1, fk), (wi, 141, 1502, ca 1, fi), (wz, 142, 1502, ca 1, fz), (jnx, 143, 1502, ca 1, fn), (jkf, 144, 1502, ca 1, fa), (jks, 145, 1502, ca 1, fs), (jun, 146, 3000, ca 1, fu)] [] H_7 locs_7 := ((hh_1.call hb_71 hb_72 hb_73 hb_74 hS_7 rfl (L1 := [(r0, 6, 7, .int pv), (r0, 6, 8, .int pu), (r0, 6, 0, .ref wk), (r0, 6, 1, .ref wi), (r0, 6, 2, .ref wz), (r0, 6, 3, .ref jnx), (r0, 6, 4, .ref jkf), (r0, 6, 5, .ref jks), (r0, 6, 6, .ref jun)]) [0, 1, 2, 3, 4, 5, 6, 7, 8] rfl rfl (M1 := [(wk, 140, 1502, ca 1, fk), (wi, 141, 1502, ca 1, fi), (wz, 142, 1502, ca 1, fz), (jnx, 143, 1502, ca 1, fn), (jkf, 144, 1502, ca 1, fa), (jks, 145, 1502, ca 1, fs), (jun, 146, 3000, ca 1, fu)]) [0, 1, 2, 3, 4, 5, 6] rfl rfl (I1 := []) [] rfl rfl).more hb_75)
    clear hh_1 ht_7 hvm_7 hz_7 hk_7 hS_7 hb_71 hb_72 hb_73 hb_74 hb_75
    have hfl_9 := hfl_3.tr hbF_7 (by first | exact fun q h => h | (intro q h9; simp at h9 ⊢; exact h9) | (intro q h9; simp at h9))
    obtain ⟨hr_8b, hr_8p⟩ := hr_8
    obtain ⟨hr_8p_0, hr_8p_1⟩ := hr_8p
    have hu23 := hr_8p_0
    have hr_8' := jb_01 hr_8b
    refine lv_if_eq (tgt := 33) hx hb dX4_isText_26 (by decide) (fun c_10 => ?_) (fun c_10 => ?_)
    · skip
      have c_10' : r_8.toInt = 0 := jb_eq (rfl) ((by decide)) c_10
      first | (have hr_8p_0q := hr_8p_0.resolve_left (by omega); clear hr_8p_0) | (have hr_8p_0q := hr_8p_0.resolve_right (by omega); clear hr_8p_0) | try clear hr_8p_0
      refine lv_iconst (v := 0) hx hb dX4_isText_33 (by decide) ?_
      rw [hQ]
      exact W.zret (v := 0) hx hb hr (jb_nz (Or.inl rfl)) (fun t ht hW => ⟨⟨0, (), rfl, ⟨(Or.inl rfl), by refine ⟨Or.inl (by omega), ?_⟩; unfold jqI; rw [if_pos (by rw [← hr_2_1]; omega), hp4.2.1 _ hka.1 hka.2.1, hp4.2.2.1 _ hka.1 hka.2.1, ← hqz_5, ← hqz_6, ← hr_8p_1]; omega⟩, ⟨hh_7.rt (M1 := []) [] rfl ht, by rw [ht]; exact hfl_9⟩⟩, by rw [ht]; try exact hh_7.1.1, fun q h9 hq => by rw [ht]; try exact hh_7.1.2.1 q h9 hq⟩) hh_7.1.2.2 dX4_isText_34
    · skip
      have c_10' : r_8.toInt ≠ 0 := jb_eq_n (rfl) ((by decide)) c_10
      first | (have hr_8p_0q := hr_8p_0.resolve_left (by omega); clear hr_8p_0) | (have hr_8p_0q := hr_8p_0.resolve_right (by omega); clear hr_8p_0) | try clear hr_8p_0
      refine lv_iconst (v := 1) hx hb dX4_isText_29 (by decide) ?_
      refine lv_goto (tgt := 34) hx hb dX4_isText_30 (by decide) ?_
      rw [hQ]
      exact W.zret (v := 1) hx hb hr (jb_nz (Or.inr rfl)) (fun t ht hW => ⟨⟨1, (), rfl, ⟨(Or.inr rfl), by refine ⟨Or.inr ⟨hka.1, hka.2.1, by rw [← hp4.1 _ hka.1 hka.2.1, ← hka.2.2, ← hr_2_1]; omega, by have h9 := hu23; have h8 := hqz_6; omega⟩, ?_⟩; unfold jqI; rw [if_pos (by rw [← hr_2_1]; omega), hp4.2.1 _ hka.1 hka.2.1, hp4.2.2.1 _ hka.1 hka.2.1, ← hqz_5, ← hqz_6, ← hr_8p_1]; omega⟩, ⟨hh_7.rt (M1 := []) [] rfl ht, by rw [ht]; exact hfl_9⟩⟩, by rw [ht]; try exact hh_7.1.1, fun q h9 hq => by rw [ht]; try exact hh_7.1.2.1 q h9 hq⟩) hh_7.1.2.2 dX4_isText_34
end
section
def EX11_numberOfU : List (Nat × Nat) := []
set_option maxHeartbeats 4000000 in
set_option maxRecDepth 20000 in
theorem uX11_numberOfU (l : Launch) (dC : Nat → ClassId) (dI : Nat → Nat → Nat) (ca : Nat → ClassId) (base : Nat) (B : jF) (hB : jBok B) (hAp : jAp (dC, dI)) (hB1 : ∀ n G a H, B 1 n G a H ↔ jOb (dC, dI) 1 3 (F1 n G) a H) (hB3 : ∀ n G a H, B 3 n G a H ↔ jOb (dC, dI) 3 17 (F3 n G) a H) (hB13 : ∀ n G a H, B 13 n G a H ↔ jOb (dC, dI) 13 19 (F13 n G) a H) (hB221 : ∀ n G a H, B 221 n G a H ↔ jAq (dC, dI) (ca 9) (jQn 3 0) n G a H) (G0 : jT) (H0 : Heap) (r0 : Nat) (r1 : Nat) (op : Nat) (sz : Int32) (wl : jWl9) : Met l yX11_numberOf (jw yX11_numberOf cX11_numberOf 3 (some .int)) ({ frames := 3, cells := 0, slots := 0, locals := 64 }) (va_Pc [.ref r0, .ref r1] (fun U => U.heap = H0 ∧ jX B base G0 [] H0 ∧ jG dC dI ca base U ∧ jK7 dC dI ca base U ∧ G0 r0 = some (13, 0) ∧ G0 r1 = some (3, 0) ∧ G0 op = some (1, 1) ∧ jP (dC, dI) G0 H0 [(r0, 13, 7, .ref op), (op, 1, 2, .int sz)] ∧ jIs (dC, dI) G0 H0 [(jFl, jLs dC dI ca G0 3 none wl)] ∧ 0 ≤ sz.toInt ∧ sz.toInt ≤ 40)) (va_Qi (S := Unit) (fun r u => (-1 ≤ r.toInt ∧ (r.toInt < 0 ∨ r.toInt < sz.toInt) ∧ ((0 ≤ r.toInt ∧ r.toInt < wl.1 ∧ wl.2 (r.toInt).toNat = some r1) ∨ (r.toInt < 0 ∧ ∀ i : Nat, (i : Int) < wl.1 → wl.2 i ≠ some r1)))) (fun u t => (jRt (dC, dI) B base G0 EX11_numberOfU H0 [] t.heap) ∧ jIs (dC, dI) G0 t.heap [(jFl, jLs dC dI ca G0 3 none wl)]) (jA base)) 0 0 (jA base) := by
  refine Met.ofW (cc := cX11_numberOf) (maxL := 3) (ret := (some .int)) (by decide) rfl ?_
  intro p e s m args below meth c s₁ Bd hml hv
  obtain ⟨rfl, hH0, hX, hG, hK7, hg_r0, hg_r1, hg_op, hP0, hI0, hp0, hp1⟩ := hv
  have hK := hG.1
  have hx := Bd.exec
  have hb := Bd.bytes
  have hr := Bd.returns
  have hts := atoms_spec (ws := (jw yX11_numberOf cX11_numberOf 3 (some .int))) Bd.pre
  have htw : ∀ w ∈ jWl, w.before _ s = true := fun w h => hts w (List.mem_cons_of_mem _ h)
  have hown : s.vm.findClass RX11 = some m.cls := findClass_of_methodNamed Bd.named
  have hlocks := Bd.notSynchronized
  obtain ⟨Q, hQ⟩ : ∃ Q, Q = MQ below (va_Qi (S := Unit) (fun r u => (-1 ≤ r.toInt ∧ (r.toInt < 0 ∨ r.toInt < sz.toInt) ∧ ((0 ≤ r.toInt ∧ r.toInt < wl.1 ∧ wl.2 (r.toInt).toNat = some r1) ∨ (r.toInt < 0 ∧ ∀ i : Nat, (i : Int) < wl.1 → wl.2 i ≠ some r1)))) (fun u t => (jRt (dC, dI) B base G0 EX11_numberOfU H0 [] t.heap) ∧ jIs (dC, dI) G0 t.heap [(jFl, jLs dC dI ca G0 3 none wl)]) (jA base)) ([.ref r0, .ref r1] : List Value).toArray s 0 0 (jA base) := ⟨_, rfl⟩
  rw [← hQ]
  have hl := lv_entry ([.ref r0, .ref r1]) (n := 3) (Nat.le_of_ble_eq_true rfl)
  rw [lg_entry_eq]
  generalize (lg_sl ([.ref r0, .ref r1]) ++ List.replicate (3 - (lg_sl ([.ref r0, .ref r1])).length) Slot.unset).toArray = ls at hl ⊢
  have hl : lv_has ls 3 [(0, .ref r0), (1, .ref r1)] := hl
  generalize hR : (headSpec (jw yX11_numberOf cX11_numberOf 3 (some .int)) ({ frames := 3, cells := 0, slots := 0, locals := 64 })).room = R
  subst hH0
  have hh : jSt (dC, dI) B base G0 G0 EX11_numberOfU s.heap 0 0 [(r0, 13, 7, .ref op), (op, 1, 2, .int sz)] [] [(jFl, jLs dC dI ca G0 3 none wl)] s.heap [] := jSt.start hX hP0 jMc.nil hI0
  clear hX hP0
  have hkm1 : ((-1) : Int32).toInt = (-1) := by decide
  have hk0 : (0 : Int32).toInt = 0 := by decide
  have hk1 : (1 : Int32).toInt = 1 := by decide
  have hly_13_7 := htw (u_lay RX11 TX11 7) (jWc_wsX110 _ (u_in_lay (by decide)))
  have hlk_61 := (htw (.fieldLink RX11 61 "ProofServer" "open" "Ljava/util/List;") (jWr_2 _ (List.mem_of_getElem? (i := 14) rfl)))
  have hws : wl.1 = sz.toInt := jLs.sz (hh.iv 0 rfl) hg_op (hh.at 1 rfl)
  refine lv_iconst (v := 0) hx hb dX11_numberOf_0 (by decide) ?_
  refine lv_istore_n (lv' := [(2, .int 0), (0, .ref r0), (1, .ref r1)]) hx hb dX11_numberOf_1 rfl hl (by decide) rfl (fun ls hl => ?_)
  have L2 : ∀ (N : Nat) (v2_1 : Int32) (H_1 : Heap) (locs_1 : List Loc), jSt (dC, dI) B base G0 G0 EX11_numberOfU s.heap 0 0 [(r0, 13, 7, .ref op), (op, 1, 2, .int sz)] [] [(jFl, jLs dC dI ca G0 3 none wl)] H_1 locs_1 → (0 ≤ v2_1.toInt ∧ v2_1.toInt ≤ sz.toInt ∧ (∀ i : Nat, (i : Int) < v2_1.toInt → wl.2 i ≠ some r1)) → (41 - v2_1.toInt : Int) < N → ∀ ls : Array Slot, lv_has ls 3 [(0, .ref r0), (1, .ref r1), (2, .int v2_1)] → W p l e R s m ([.ref r0, .ref r1] : List Value).toArray below meth c H_1 locs_1 0 0 Q (F0 m 2 ls []) := by
    intro N
    induction N with
    | zero => intro v2_1 H_1 locs_1 hh_1  hi_1 hm; exact absurd hm (by omega)
    | succ N L2 =>
      intro v2_1 H_1 locs_1 hh_1  hi_1 hm_1 ls hl
      obtain ⟨hi_1_0, hi_1_1, hi_1_2⟩ := hi_1
      refine lv_iload_n hx hb dX11_numberOf_2 rfl (lv_at hl 2 rfl) ?_
      refine lv_aload_n hx hb dX11_numberOf_3 rfl (lv_at hl 0 rfl) ?_
      refine j7_read hx hb hown hK (C := RX11) (T := TX11) (N := 19) rfl hly_13_7 hlk_61 (hh_1.at 0 rfl) dX11_numberOf_4 ?_
      refine va_callFi (A0 := jA base) (H0 := s.heap) (va_runF (hK.1 1 _ rfl).2 (As := []) (rest := [.int v2_1]) ⟨hx, hb, hml, hown, hts⟩ (uJx4a65c_size_8abf5 l dC dI ca base B hB hAp hB1 G0 H_1 op 1 sz) (va_cwF 0 hts (jgF (jWr_27 _ (List.mem_of_getElem? (i := 22) rfl)) (jWr_27 _ (List.mem_of_getElem? (i := 23) rfl)) (jWr_28 _ (List.mem_of_getElem? (i := 0) rfl)) (jWr_2 _ (List.mem_of_getElem? (i := 13) rfl)) (jWr_28 _ (List.mem_of_getElem? (i := 1) rfl))) rfl rfl rfl hK7.2.2.2.2.2.1.1 ⟨by decide, by decide, by decide +kernel⟩ ⟨by rw [← hR]; exact Nat.le_of_ble_eq_true rfl, by rw [← hR]; exact Nat.le_of_ble_eq_true rfl⟩) ⟨fun a U g mk q => by obtain ⟨q0, q1, q2, qK, q10, q11, q12⟩ := q; exact ⟨q0, q1, q2, jG.calling g mk a qK, q10, q11, q12⟩, hh_1.recv (C := RJx4a65c) (T := TJx4a65c) (N := 3) hB1 rfl (by decide) hg_op hK, fun U hU hW => ⟨rfl, hU, hh_1.2.1, hG.step hW hU hh_1.1, hg_op, (hh_1.2.2.1.sub (L1 := [(op, 1, 2, .int sz)]) [1] rfl), trivial⟩⟩ rfl rfl hl.1 rfl (lv_room (Nat.le_of_ble_eq_true rfl)) dX11_numberOf_7 ⟨Nat.zero_le _, Nat.zero_le _⟩) hh_1.1 (fun q _ h => h) (fun q h => h) (fun r_3 u_2 t_2 H_2 locs_2 ht_2 hvm_2 hr_3 hb_2 hz_2 hk_2 hS_2 => ?_)
      rw [ht_2] at hb_2
      obtain ⟨hb_21, hb_22, hb_23, hb_24, hb_25⟩ := hb_2
      have hh_2 : jSt (dC, dI) B base G0 G0 EX11_numberOfU s.heap 0 0 [(r0, 13, 7, .ref op), (op, 1, 2, .int sz)] [] [(jFl, jLs dC dI ca G0 3 none wl)] H_2 locs_2 := ((hh_1.call hb_21 hb_22 hb_23 hb_24 hS_2 rfl (L1 := [(r0, 13, 7, .ref op), (op, 1, 2, .int sz)]) [0, 1] rfl rfl (M1 := []) [] rfl rfl (I1 := [(jFl, jLs dC dI ca G0 3 none wl)]) [0] rfl rfl).more hb_25)
      clear hh_1 ht_2 hvm_2 hz_2 hk_2 hS_2 hb_21 hb_22 hb_23 hb_24 hb_25
      refine lv_icmp_ge (tgt := 37) hx hb dX11_numberOf_12 (by decide) (fun c_4 => ?_) (fun c_4 => ?_)
      · skip
        have c_4' : v2_1.toInt ≥ r_3.toInt := jb_ge (rfl) (rfl) c_4
        refine lv_iconst (v := (-1)) hx hb dX11_numberOf_37 (by decide) ?_
        rw [hQ]
        exact W.iret (v := (-1)) hx hb hr (fun t ht hW => ⟨⟨(-1), (), rfl, by refine ⟨by omega, by omega, Or.inr ⟨by omega, fun i hi => hi_1_2 i (by omega)⟩⟩, ⟨hh_2.rt (M1 := []) [] rfl ht, by rw [ht]; exact hh_2.2.2.2.2.2.2.2.2.sub (L1 := [(jFl, jLs dC dI ca G0 3 none wl)]) [0] rfl⟩⟩, by rw [ht]; try exact hh_2.1.1, fun q h9 hq => by rw [ht]; try exact hh_2.1.2.1 q h9 hq⟩) hh_2.1.2.2 dX11_numberOf_38
      · skip
        have c_4' : v2_1.toInt < r_3.toInt := jb_ge_n (rfl) (rfl) c_4
        refine lv_aload_n hx hb dX11_numberOf_15 rfl (lv_at hl 0 rfl) ?_
        refine j7_read hx hb hown hK (C := RX11) (T := TX11) (N := 19) rfl hly_13_7 hlk_61 (hh_2.at 0 rfl) dX11_numberOf_16 ?_
        refine lv_iload_n hx hb dX11_numberOf_19 rfl (lv_at hl 2 rfl) ?_
        refine j_callFx (A0 := jA base) (H0 := s.heap) (va_runF (hK.1 1 _ rfl).2 (As := [.int v2_1]) (rest := []) ⟨hx, hb, hml, hown, hts⟩ (uJx4a65c_get_915e3L1 l dC dI ca base B hB hAp hB1 hB3 hB221 G0 H_2 op v2_1 sz wl) (va_cwF 1 hts (jgF (jWr_28 _ (List.mem_of_getElem? (i := 3) rfl)) (jWr_28 _ (List.mem_of_getElem? (i := 4) rfl)) (jWr_28 _ (List.mem_of_getElem? (i := 5) rfl)) (jWr_2 _ (List.mem_of_getElem? (i := 13) rfl)) (jWr_28 _ (List.mem_of_getElem? (i := 6) rfl))) rfl rfl rfl hK7.2.2.2.2.2.1.2.1 ⟨by decide, by decide, by decide +kernel⟩ ⟨by rw [← hR]; exact Nat.le_of_ble_eq_true rfl, by rw [← hR]; exact Nat.le_of_ble_eq_true rfl⟩) ⟨fun a U g mk q => by obtain ⟨q0, q1, q2, qK, q10, q11, q12, q13, q14⟩ := q; exact ⟨q0, q1, q2, jG.calling g mk a qK, (jK7.calling g mk a q10), q11, q12, q13, q14⟩, hh_2.recv (C := RJx4a65c) (T := TJx4a65c) (N := 3) hB1 rfl (by decide) hg_op hK, fun U hU hW => ⟨rfl, hU, hh_2.2.1, hG.step hW hU hh_2.1, (hK7.step hW hU hh_2.1), hg_op, (hh_2.2.2.1.sub (L1 := [(op, 1, 2, .int sz)]) [1] rfl), (hh_2.2.2.2.2.2.2.2.2.sub (L1 := [(jFl, jLs dC dI ca G0 3 none wl)]) [0] rfl), by first | omega | (refine ⟨?_, ?_⟩ <;> (first | omega | rfl | assumption | decide | exact Or.inl rfl | exact Or.inr rfl | (simp only; omega)))⟩⟩ rfl rfl hl.1 rfl (lv_room (Nat.le_of_ble_eq_true rfl)) dX11_numberOf_20 ⟨Nat.zero_le _, Nat.zero_le _⟩) hh_2.1 (fun q _ h => h) (fun q h => h) (fun r_6 u_5 t_5 H_5 locs_5 ht_5 hvm_5 hr_6 hb_5 hz_5 hk_5 hS_5 => ?_)
        rw [ht_5] at hb_5
        obtain ⟨hb_5, hbE_5⟩ := hb_5
        obtain ⟨hb_51, hb_52, hb_53, hb_54, hb_55⟩ := hb_5
        have hh_5 : jSt (dC, dI) B base G0 G0 EX11_numberOfU s.heap 0 0 [(r0, 13, 7, .ref op), (op, 1, 2, .int sz)] [] [(jFl, jLs dC dI ca G0 3 none wl)] H_5 locs_5 := (((hh_2.call hb_51 hb_52 hb_53 hb_54 hS_5 rfl (L1 := [(r0, 13, 7, .ref op), (op, 1, 2, .int sz)]) [0, 1] rfl rfl (M1 := []) [] rfl rfl (I1 := []) [] rfl rfl).more hb_55)).addIs hbE_5
        clear hh_2 ht_5 hvm_5 hz_5 hk_5 hS_5 hb_51 hb_52 hb_53 hb_54 hb_55
        clear  hbE_5
        obtain ⟨hr_6, hr_6p⟩ := hr_6
        obtain ⟨ret_7, rfl, hg_ret_7⟩ := hr_6
        refine lv_aload_n hx hb dX11_numberOf_25 rfl (lv_at hl 1 rfl) ?_
        refine lv_acmp_ne (rx := (some ret_7)) (ry := (some r1)) (tgt := 31) hx hb dX11_numberOf_26 (by decide) (fun c_8 => ?_) (fun c_8 => ?_)
        · skip
          obtain ⟨z_9, ez_9⟩ : ∃ y : Int32, y = v2_1 + 1 := ⟨_, rfl⟩
          refine lv_iinc (v := z_9) (lv' := [(2, .int z_9), (0, .ref r0), (1, .ref r1)]) hx hb dX11_numberOf_31 hl (k := 2) rfl (by rw [ez_9]; rfl) (by decide) rfl (fun ls hl => ?_)
          have hz_9 : z_9.toInt = v2_1.toInt + 1 := by rw [ez_9]; exact jb_iadd2 (rfl) (by decide) (by omega)
          refine lv_goto (tgt := 2) hx hb dX11_numberOf_34 (by decide) ?_
          exact L2 z_9 _ _ hh_5 (by refine ⟨by omega, by omega, fun i hi he => ?_⟩; by_cases q9 : (i : Int) < v2_1.toInt; exact hi_1_2 i q9 he; have e9 : i = v2_1.toInt.toNat := (by omega); have h9 := jdAt hr_6p; rw [← e9, he] at h9; exact absurd h9.symm (by assumption)) (by omega) _ (lv_sub hl [1, 2, 0] rfl)
        · skip
          refine lv_iload_n hx hb dX11_numberOf_29 rfl (lv_at hl 2 rfl) ?_
          rw [hQ]
          exact W.iret (v := v2_1) hx hb hr (fun t ht hW => ⟨⟨v2_1, (), rfl, by refine ⟨by omega, by omega, Or.inl ⟨by omega, by omega, ?_⟩⟩; exact (jdAt hr_6p).trans (by assumption), ⟨hh_5.rt (M1 := []) [] rfl ht, by rw [ht]; exact hh_5.2.2.2.2.2.2.2.2.sub (L1 := [(jFl, jLs dC dI ca G0 3 none wl)]) [0] rfl⟩⟩, by rw [ht]; try exact hh_5.1.1, fun q h9 hq => by rw [ht]; try exact hh_5.1.2.1 q h9 hq⟩) hh_5.1.2.2 dX11_numberOf_30
  exact L2 (41 - (0 : Int32).toInt : Int).toNat.succ 0 _ _ hh (by refine ⟨by omega, by omega, fun i hi => ?_⟩; rw [hk0] at hi; omega) (by omega) _ (lv_sub hl [1, 2, 0] rfl)
end
section
-- p9: what a message does
section
variable {T : Nat → Int → Int} {v p m : Int} {S S1 : Int × (Int → jdD)}
theorem jdNt.mg {br qb : Int} (h : jdNt T v p br qb S S1) (hb : br = 0) (hg : jdGd T v = 1) (hi : jdId T v < 0) : jdMg T v p S = (qb, p, S1) := by
  subst hb
  unfold jdMg
  rw [if_pos hg, if_neg (by omega)]
  rcases h with ⟨a, b, c⟩ | ⟨a, b, c⟩
  · rw [if_pos b, a, c]
  · rw [if_neg b, a, c]
end
section JR8
variable {dC : Nat → ClassId} {dI : Nat → Nat → Nat} {G : jT} {a nn yy : Nat} {P Q : Prop} {H : Heap}
end JR8
end
section
-- how long a message is at least that opens or changes a document
theorem jMh.mg {fk fi fz fa fs : Nat → Int32} {pv pu n z m : Int} (h : jMh (fk, fi, fz, fa, fs) pv pu n) (h0 : 0 ≤ m) (h1 : m < pv) (h2 : jSo fs m = 6) (h3 : jSo fk m = 3) (h4 : jSo fz m = z) : jMg (fk, fi, fz, fa, fs) pv pu n z := ⟨h.1, h.2, m, h0, h1, h2, h3, h4⟩
theorem jMg.two {D : jC} {pv pu n z : Int} (h : jMg D pv pu n z) : 25 + z ≤ n := by
  obtain ⟨⟨C, h1⟩, ⟨h2, j, j0, j1, j2, j3, j4⟩, m, m0, m1, m2, m3, m4⟩ := h
  have hj : jNde D pv j 3 7 := ⟨j0, j1, j3, j2⟩
  have hm : jNde D pv m 3 6 := ⟨m0, m1, m3, m2⟩
  have nil : ∀ a ∈ ([] : List Int), False := fun a ha => by cases ha
  have b := jByt h1 h2 [j, m] (List.pairwise_cons.mpr ⟨List.forall_mem_cons.mpr ⟨hj.ne hm (by omega), fun a ha => (nil a ha).elim⟩, List.pairwise_cons.mpr ⟨fun a ha => (nil a ha).elim, List.Pairwise.nil⟩⟩) (List.forall_mem_cons.mpr ⟨hj.r (by omega), List.forall_mem_cons.mpr ⟨hm.r (by omega), fun a ha => (nil a ha).elim⟩⟩)
  rw [hj.s, hm.s, show jWs D [] = 0 from rfl, j4, m4, show (([j, m].length : Nat) : Int) = 2 from rfl] at b
  omega
end
