section
def EX8_hasIdOfI : List (Nat × Nat) := []
set_option maxHeartbeats 4000000 in
set_option maxRecDepth 20000 in
theorem uX8_hasIdOfI (l : Launch) (dC : Nat → ClassId) (dI : Nat → Nat → Nat) (ca : Nat → ClassId) (base : Nat) (B : jF) (hB : jBok B) (hAp : jAp (dC, dI)) (hB2 : ∀ n G a H, B 2 n G a H ↔ jOb (dC, dI) 2 2 (F2 n G) a H) (hB10 : ∀ n G a H, B 10 n G a H ↔ jOb (dC, dI) 10 5 (F10 n G) a H) (hB17 : ∀ n G a H, B 17 n G a H ↔ jOb (dC, dI) 17 2 (F17 n G) a H) (hB196 : ∀ n G a H, B 196 n G a H ↔ jAr (dC, dI) (ca 0) (fun j z => jBf j z) n a H) (hB199 : ∀ n G a H, B 199 n G a H ↔ jAr (dC, dI) (ca 0) (fun j z => jBf j z) n a H) (G0 : jT) (H0 : Heap) (r0 : Nat) (r1 : Nat) (qq : jRqG) (ib : Nat → List Int) : Met l yX8_hasIdOf (jw yX8_hasIdOf cX8_hasIdOf 3 (some .boolean)) ({ frames := 0, cells := 0, slots := 0, locals := 0 }) (va_Pc [.ref r0, .ref r1] (fun U => U.heap = H0 ∧ jX B base G0 [] H0 ∧ jG dC dI ca base U ∧ G0 r0 = some (10, 0) ∧ G0 r1 = some (10, 0) ∧ jP (dC, dI) G0 H0 [] ∧ jIs (dC, dI) G0 H0 [(jFib, jIB dC dI ca G0 0 ib), (jFqd, jQD dC dI ca G0 none qq)] ∧ True)) (va_Qi (S := Unit) (fun r u => (r = 0 ∨ r = 1) ∧ (((r.toInt = 1 ∧ jzHi qq ib r0 r1) ∨ (r.toInt = 0 ∧ ¬ jzHi qq ib r0 r1)))) (fun u t => (jRt (dC, dI) B base G0 EX8_hasIdOfI H0 [] t.heap) ∧ jIs (dC, dI) G0 t.heap [(jFib, jIB dC dI ca G0 0 ib), (jFqd, jQD dC dI ca G0 none qq)]) (jA base)) 0 0 (jA base) := by
  refine Met.ofW (cc := cX8_hasIdOf) (maxL := 3) (ret := (some .boolean)) (by decide) rfl ?_
  intro p e s m args below meth c s₁ Bd hml hv
  obtain ⟨rfl, hH0, hX, hG, hg_r0, hg_r1, hP0, hI0, hp0⟩ := hv
  have hK := hG.1
  have hx := Bd.exec
  have hb := Bd.bytes
  have hr := Bd.returns
  have hts := atoms_spec (ws := (jw yX8_hasIdOf cX8_hasIdOf 3 (some .boolean))) Bd.pre
  have htw : ∀ w ∈ jWl, w.before _ s = true := fun w h => hts w (List.mem_cons_of_mem _ h)
  have hown : s.vm.findClass RX8 = some m.cls := findClass_of_methodNamed Bd.named
  have hlocks := Bd.notSynchronized
  obtain ⟨Q, hQ⟩ : ∃ Q, Q = MQ below (va_Qi (S := Unit) (fun r u => (r = 0 ∨ r = 1) ∧ (((r.toInt = 1 ∧ jzHi qq ib r0 r1) ∨ (r.toInt = 0 ∧ ¬ jzHi qq ib r0 r1)))) (fun u t => (jRt (dC, dI) B base G0 EX8_hasIdOfI H0 [] t.heap) ∧ jIs (dC, dI) G0 t.heap [(jFib, jIB dC dI ca G0 0 ib), (jFqd, jQD dC dI ca G0 none qq)]) (jA base)) ([.ref r0, .ref r1] : List Value).toArray s 0 0 (jA base) := ⟨_, rfl⟩
  rw [← hQ]
  have hl := lv_entry ([.ref r0, .ref r1]) (n := 3) (Nat.le_of_ble_eq_true rfl)
  rw [lg_entry_eq]
  generalize (lg_sl ([.ref r0, .ref r1]) ++ List.replicate (3 - (lg_sl ([.ref r0, .ref r1])).length) Slot.unset).toArray = ls at hl ⊢
  have hl : lv_has ls 3 [(0, .ref r0), (1, .ref r1)] := hl
  generalize hR : (headSpec (jw yX8_hasIdOf cX8_hasIdOf 3 (some .boolean)) ({ frames := 0, cells := 0, slots := 0, locals := 0 })).room = R
  subst hH0
  have hh : jSt (dC, dI) B base G0 G0 EX8_hasIdOfI s.heap 0 0 [] [] [(jFib, jIB dC dI ca G0 0 ib), (jFqd, jQD dC dI ca G0 none qq)] s.heap [] := jSt.start hX hP0 jMc.nil hI0
  clear hX hP0
  have hk0 : (0 : Int32).toInt = 0 := by decide
  have hk1 : (1 : Int32).toInt = 1 := by decide
  have hly_2_0 := htw (u_lay RX0 TX0 0) (jWc_wsX00 _ (u_in_lay (by decide)))
  have hly_17_0 := hly_2_0
  have hly_2_1 := htw (u_lay RX0 TX0 1) (jWc_wsX00 _ (u_in_lay (by decide)))
  have hly_17_1 := hly_2_1
  have hly_10_0 := htw (u_lay RX8 TX8 0) (jWc_wsX80 _ (u_in_lay (by decide)))
  have hlk_29 := (htw (.fieldLink RX8 29 "ProofServer$Request" "id" "LProofServer$Bytes;") (jWr_24 _ (List.mem_of_getElem? (i := 4) rfl)))
  have hlk_59 := (htw (.fieldLink RX8 59 "ProofServer$Bytes" "count" "I") (jWr_44 _ (List.mem_of_getElem? (i := 3) rfl)))
  have hlk_62 := (htw (.fieldLink RX8 62 "ProofServer$Bytes" "row" "[B") (jWr_44 _ (List.mem_of_getElem? (i := 4) rfl)))
  obtain ⟨hgP_1, hgM_1⟩ := jQD.at (ca := ca) (hh.iv 1 rfl) hg_r0 (fun q => by cases q)
  have hh_2 := ((hh.sub (L1 := []) [] rfl (M1 := []) [] rfl (I1 := [(jFib, jIB dC dI ca G0 0 ib), (jFqd, jQD dC dI ca G0 none qq)]) [0, 1] rfl).more (hgP_1.sub (L1 := [(r0, 10, 2, .int (qq.nd r0)), (r0, 10, 0, (qq.iv r0)), (r0, 10, 1, (qq.ab r0))]) [0, 1, 2] rfl)).moreM hgM_1
  clear hh
  obtain ⟨hgP_3, hgM_3⟩ := jQD.at (ca := ca) (hh_2.iv 1 rfl) hg_r1 (fun q => by cases q)
  have hh_4 := ((hh_2.sub (L1 := [(r0, 10, 2, .int (qq.nd r0)), (r0, 10, 0, (qq.iv r0)), (r0, 10, 1, (qq.ab r0))]) [0, 1, 2] rfl (M1 := []) [] rfl (I1 := [(jFib, jIB dC dI ca G0 0 ib), (jFqd, jQD dC dI ca G0 none qq)]) [0, 1] rfl).more (hgP_3.sub (L1 := [(r1, 10, 2, .int (qq.nd r1)), (r1, 10, 0, (qq.iv r1)), (r1, 10, 1, (qq.ab r1))]) [0, 1, 2] rfl)).moreM hgM_3
  clear hh_2
  refine lv_aload_n hx hb dX8_hasIdOf_0 rfl (lv_at hl 0 rfl) ?_
  have hwf_5 := hh_4.at 4 rfl
  have hh_6 := hh_4.sub (L1 := [(r1, 10, 2, .int (qq.nd r1)), (r1, 10, 0, (qq.iv r1)), (r1, 10, 1, (qq.ab r1)), (r0, 10, 2, .int (qq.nd r0)), (r0, 10, 1, (qq.ab r0))]) [0, 1, 2, 3, 5] rfl (M1 := []) [] rfl (I1 := [(jFib, jIB dC dI ca G0 0 ib), (jFqd, jQD dC dI ca G0 none qq)]) [0, 1] rfl
  clear hh_4
  obtain ⟨v_7, hv_7, hh_8⟩ := hh_6.pin (C := RX8) (T := TX8) (N := 5) hB10 rfl (by decide) hg_r0 (i := 0) (by decide) rfl
  clear hh_6
  have hwe1 : (qq.iv r0) = v_7 := jf.uniq hwf_5 (hh_8.at 0 rfl)
  clear hwf_5
  rcases hv_7 with rfl | ⟨id_9, rfl, hg_id_9⟩
  · refine j7_read hx hb hown hK (C := RX8) (T := TX8) (N := 5) rfl hly_10_0 hlk_29 (hh_8.at 0 rfl) dX8_hasIdOf_1 ?_
    refine lv_ifnullN (tgt := 31) hx hb dX8_hasIdOf_4 (by decide) ?_
    refine lv_iconst (v := 0) hx hb dX8_hasIdOf_31 (by decide) ?_
    rw [hQ]
    exact W.zret (v := 0) hx hb hr (jb_nz (Or.inl rfl)) (fun t ht hW => ⟨⟨0, (), rfl, ⟨(Or.inl rfl), Or.inr ⟨hk0, jzHi.n1 hwe1⟩⟩, ⟨hh_8.rt (M1 := []) [] rfl ht, by rw [ht]; exact hh_8.2.2.2.2.2.2.2.2.sub (L1 := [(jFib, jIB dC dI ca G0 0 ib), (jFqd, jQD dC dI ca G0 none qq)]) [0, 1] rfl⟩⟩, by rw [ht]; try exact hh_8.1.1, fun q h9 hq => by rw [ht]; try exact hh_8.1.2.1 q h9 hq⟩) hh_8.1.2.2 dX8_hasIdOf_32
  · refine j7_read hx hb hown hK (C := RX8) (T := TX8) (N := 5) rfl hly_10_0 hlk_29 (hh_8.at 0 rfl) dX8_hasIdOf_1 ?_
    refine lv_ifnull hx hb dX8_hasIdOf_4 ?_
    refine lv_aload_n hx hb dX8_hasIdOf_7 rfl (lv_at hl 1 rfl) ?_
    have hwf_10 := hh_8.at 2 rfl
    have hh_11 := hh_8.sub (L1 := [(r0, 10, 0, .ref id_9), (r1, 10, 2, .int (qq.nd r1)), (r1, 10, 1, (qq.ab r1)), (r0, 10, 2, .int (qq.nd r0)), (r0, 10, 1, (qq.ab r0))]) [0, 1, 3, 4, 5] rfl (M1 := []) [] rfl (I1 := [(jFib, jIB dC dI ca G0 0 ib), (jFqd, jQD dC dI ca G0 none qq)]) [0, 1] rfl
    clear hh_8
    obtain ⟨v_12, hv_12, hh_13⟩ := hh_11.pin (C := RX8) (T := TX8) (N := 5) hB10 rfl (by decide) hg_r1 (i := 0) (by decide) rfl
    clear hh_11
    have hwe8 : (qq.iv r1) = v_12 := jf.uniq hwf_10 (hh_13.at 0 rfl)
    clear hwf_10
    rcases hv_12 with rfl | ⟨id_14, rfl, hg_id_14⟩
    · refine j7_read hx hb hown hK (C := RX8) (T := TX8) (N := 5) rfl hly_10_0 hlk_29 (hh_13.at 0 rfl) dX8_hasIdOf_8 ?_
      refine lv_ifnullN (tgt := 31) hx hb dX8_hasIdOf_11 (by decide) ?_
      refine lv_iconst (v := 0) hx hb dX8_hasIdOf_31 (by decide) ?_
      rw [hQ]
      exact W.zret (v := 0) hx hb hr (jb_nz (Or.inl rfl)) (fun t ht hW => ⟨⟨0, (), rfl, ⟨(Or.inl rfl), Or.inr ⟨hk0, jzHi.n2 hwe8⟩⟩, ⟨hh_13.rt (M1 := []) [] rfl ht, by rw [ht]; exact hh_13.2.2.2.2.2.2.2.2.sub (L1 := [(jFib, jIB dC dI ca G0 0 ib), (jFqd, jQD dC dI ca G0 none qq)]) [0, 1] rfl⟩⟩, by rw [ht]; try exact hh_13.1.1, fun q h9 hq => by rw [ht]; try exact hh_13.1.2.1 q h9 hq⟩) hh_13.1.2.2 dX8_hasIdOf_32
    · refine j7_read hx hb hown hK (C := RX8) (T := TX8) (N := 5) rfl hly_10_0 hlk_29 (hh_13.at 0 rfl) dX8_hasIdOf_8 ?_
      refine lv_ifnull hx hb dX8_hasIdOf_11 ?_
      refine lv_aload_n hx hb dX8_hasIdOf_14 rfl (lv_at hl 0 rfl) ?_
      refine j7_read hx hb hown hK (C := RX8) (T := TX8) (N := 5) rfl hly_10_0 hlk_29 (hh_13.at 1 rfl) dX8_hasIdOf_15 ?_
      obtain ⟨iy_15, im_15, ic_15, if_15, hip_15, hiq_15, hig_15, hic_15, hid_15, hiv_15, hie_15⟩ := jIB.at (r := 0) (hh_13.iv 0 rfl) hg_id_9
      have hh_16 := (hh_13.more (P1 := [(id_9, 17, 0, .ref iy_15), (id_9, 17, 1, .int ic_15)]) (jP.cons hg_id_9 hip_15 (jP.cons hg_id_9 hiq_15 jP.nil))).moreM (M1 := [(iy_15, 199, im_15, ca 0, if_15)]) (fun q hq => by cases List.mem_singleton.mp hq; exact ⟨hig_15, (by show 18 ≤ 199; decide), (by show 199 < 1000; decide), hiv_15⟩)
      clear hh_13
      refine j7_read hx hb hown hK (C := RX0) (T := TX0) (N := 2) rfl hly_17_1 hlk_59 (hh_16.at 1 rfl) dX8_hasIdOf_18 ?_
      refine lv_aload_n hx hb dX8_hasIdOf_21 rfl (lv_at hl 1 rfl) ?_
      refine j7_read hx hb hown hK (C := RX8) (T := TX8) (N := 5) rfl hly_10_0 hlk_29 (hh_16.at 2 rfl) dX8_hasIdOf_22 ?_
      obtain ⟨iy_17, im_17, ic_17, if_17, hip_17, hiq_17, hig_17, hic_17, hid_17, hiv_17, hie_17⟩ := jIB.at (r := 0) (hh_16.iv 0 rfl) hg_id_14
      have hh_18 := (hh_16.more (P1 := [(id_14, 17, 0, .ref iy_17), (id_14, 17, 1, .int ic_17)]) (jP.cons hg_id_14 hip_17 (jP.cons hg_id_14 hiq_17 jP.nil))).moreM (M1 := [(iy_17, 199, im_17, ca 0, if_17)]) (fun q hq => by cases List.mem_singleton.mp hq; exact ⟨hig_17, (by show 18 ≤ 199; decide), (by show 199 < 1000; decide), hiv_17⟩)
      clear hh_16
      refine j7_read hx hb hown hK (C := RX0) (T := TX0) (N := 2) rfl hly_17_1 hlk_59 (hh_18.at 1 rfl) dX8_hasIdOf_25 ?_
      refine lv_icmp_eq (tgt := 33) hx hb dX8_hasIdOf_28 (by decide) (fun c_19 => ?_) (fun c_19 => ?_)
      · skip
        have c_19' : ic_15.toInt = ic_17.toInt := jb_eq (rfl) (rfl) c_19
        have hrg9 := jb_rng ic_15
        have hrg8 := jb_rng ic_17
        have heq9 : ib (id_14) = jbL if_17 ic_15.toInt.toNat 0 := by rw [hie_17]; congr 1; omega
        refine lv_iconst (v := 0) hx hb dX8_hasIdOf_33 (by decide) ?_
        refine lv_istore_n (lv' := [(2, .int 0), (0, .ref r0), (1, .ref r1)]) hx hb dX8_hasIdOf_34 rfl hl (by decide) rfl (fun ls hl => ?_)
        have L35 : ∀ (N : Nat) (v2_20 : Int32) (H_20 : Heap) (locs_20 : List Loc), jSt (dC, dI) B base G0 G0 EX8_hasIdOfI s.heap 0 0 [(id_14, 17, 0, .ref iy_17), (id_14, 17, 1, .int ic_17), (id_9, 17, 0, .ref iy_15), (id_9, 17, 1, .int ic_15), (r1, 10, 0, .ref id_14), (r0, 10, 0, .ref id_9), (r1, 10, 2, .int (qq.nd r1)), (r1, 10, 1, (qq.ab r1)), (r0, 10, 2, .int (qq.nd r0)), (r0, 10, 1, (qq.ab r0))] [(iy_17, 199, im_17, ca 0, if_17), (iy_15, 199, im_15, ca 0, if_15)] [(jFib, jIB dC dI ca G0 0 ib), (jFqd, jQD dC dI ca G0 none qq)] H_20 locs_20 → (0 ≤ v2_20.toInt ∧ v2_20.toInt ≤ ic_15.toInt ∧ (∀ k : Int, 0 ≤ k → k < v2_20.toInt → jSo if_15 k = jSo if_17 k)) → (ic_15.toInt - v2_20.toInt : Int) < N → ∀ ls : Array Slot, lv_has ls 3 [(0, .ref r0), (1, .ref r1), (2, .int v2_20)] → W p l e R s m ([.ref r0, .ref r1] : List Value).toArray below meth c H_20 locs_20 0 0 Q (F0 m 35 ls []) := by
          intro N
          induction N with
          | zero => intro v2_20 H_20 locs_20 hh_20  hi_20 hm; exact absurd hm (by omega)
          | succ N L35 =>
            intro v2_20 H_20 locs_20 hh_20  hi_20 hm_20 ls hl
            obtain ⟨hi_20_0, hi_20_1, hi_20_2⟩ := hi_20
            refine lv_iload_n hx hb dX8_hasIdOf_35 rfl (lv_at hl 2 rfl) ?_
            refine lv_aload_n hx hb dX8_hasIdOf_36 rfl (lv_at hl 0 rfl) ?_
            refine j7_read hx hb hown hK (C := RX8) (T := TX8) (N := 5) rfl hly_10_0 hlk_29 (hh_20.at 5 rfl) dX8_hasIdOf_37 ?_
            refine j7_read hx hb hown hK (C := RX0) (T := TX0) (N := 2) rfl hly_17_1 hlk_59 (hh_20.at 3 rfl) dX8_hasIdOf_40 ?_
            refine lv_icmp_ge (tgt := 75) hx hb dX8_hasIdOf_43 (by decide) (fun c_21 => ?_) (fun c_21 => ?_)
            · skip
              have c_21' : v2_20.toInt ≥ ic_15.toInt := jb_ge (rfl) (rfl) c_21
              refine lv_iconst (v := 1) hx hb dX8_hasIdOf_75 (by decide) ?_
              rw [hQ]
              exact W.zret (v := 1) hx hb hr (jb_nz (Or.inr rfl)) (fun t ht hW => ⟨⟨1, (), rfl, ⟨(Or.inr rfl), Or.inl ⟨hk1, jzHi.yes hwe1 hwe8 hie_15 heq9 hi_20_2 (by omega)⟩⟩, ⟨hh_20.rt (M1 := []) [] rfl ht, by rw [ht]; exact hh_20.2.2.2.2.2.2.2.2.sub (L1 := [(jFib, jIB dC dI ca G0 0 ib), (jFqd, jQD dC dI ca G0 none qq)]) [0, 1] rfl⟩⟩, by rw [ht]; try exact hh_20.1.1, fun q h9 hq => by rw [ht]; try exact hh_20.1.2.1 q h9 hq⟩) hh_20.1.2.2 dX8_hasIdOf_76
            · skip
              have c_21' : v2_20.toInt < ic_15.toInt := jb_ge_n (rfl) (rfl) c_21
              refine lv_aload_n hx hb dX8_hasIdOf_46 rfl (lv_at hl 0 rfl) ?_
              refine j7_read hx hb hown hK (C := RX8) (T := TX8) (N := 5) rfl hly_10_0 hlk_29 (hh_20.at 5 rfl) dX8_hasIdOf_47 ?_
              refine j7_read hx hb hown hK (C := RX0) (T := TX0) (N := 2) rfl hly_17_0 hlk_62 (hh_20.at 2 rfl) dX8_hasIdOf_50 ?_
              refine lv_iload_n hx hb dX8_hasIdOf_53 rfl (lv_at hl 2 rfl) ?_
              refine j7_baldM hx hb hK hh_20 hB199 0 rfl (by decide) hig_15 (x := v2_20.toInt) (rfl) (by omega) (j := 1) rfl dX8_hasIdOf_54 (fun z_22 ez_22 (hz_22 : jBf (v2_20.toInt).toNat z_22) => ?_)
              have hqz_22 : z_22.toInt = jSo if_15 (v2_20.toInt) := by unfold jSo; rw [ez_22]
              refine lv_aload_n hx hb dX8_hasIdOf_55 rfl (lv_at hl 1 rfl) ?_
              refine j7_read hx hb hown hK (C := RX8) (T := TX8) (N := 5) rfl hly_10_0 hlk_29 (hh_20.at 4 rfl) dX8_hasIdOf_56 ?_
              refine j7_read hx hb hown hK (C := RX0) (T := TX0) (N := 2) rfl hly_17_0 hlk_62 (hh_20.at 0 rfl) dX8_hasIdOf_59 ?_
              refine lv_iload_n hx hb dX8_hasIdOf_62 rfl (lv_at hl 2 rfl) ?_
              refine j7_baldM hx hb hK hh_20 hB199 0 rfl (by decide) hig_17 (x := v2_20.toInt) (rfl) (by omega) (j := 0) rfl dX8_hasIdOf_63 (fun z_23 ez_23 (hz_23 : jBf (v2_20.toInt).toNat z_23) => ?_)
              have hqz_23 : z_23.toInt = jSo if_17 (v2_20.toInt) := by unfold jSo; rw [ez_23]
              refine lv_icmp_eq (tgt := 69) hx hb dX8_hasIdOf_64 (by decide) (fun c_24 => ?_) (fun c_24 => ?_)
              · skip
                have c_24' : z_22.toInt = z_23.toInt := jb_eq (rfl) (rfl) c_24
                obtain ⟨z_25, ez_25⟩ : ∃ y : Int32, y = v2_20 + 1 := ⟨_, rfl⟩
                refine lv_iinc (v := z_25) (lv' := [(2, .int z_25), (0, .ref r0), (1, .ref r1)]) hx hb dX8_hasIdOf_69 hl (k := 2) rfl (by rw [ez_25]; rfl) (by decide) rfl (fun ls hl => ?_)
                have hz_25 : z_25.toInt = v2_20.toInt + 1 := by rw [ez_25]; exact jb_iadd2 (rfl) (by decide) (by omega)
                refine lv_goto (tgt := 35) hx hb dX8_hasIdOf_72 (by decide) ?_
                exact L35 z_25 _ _ hh_20 (⟨by omega, by omega, fun k h0 h1 => by by_cases q9 : k < v2_20.toInt; exact hi_20_2 k h0 q9; rw [show k = v2_20.toInt by omega, ← hqz_22, ← hqz_23]; omega⟩) (by omega) _ (lv_sub hl [1, 2, 0] rfl)
              · skip
                have c_24' : z_22.toInt ≠ z_23.toInt := jb_eq_n (rfl) (rfl) c_24
                refine lv_iconst (v := 0) hx hb dX8_hasIdOf_67 (by decide) ?_
                rw [hQ]
                exact W.zret (v := 0) hx hb hr (jb_nz (Or.inl rfl)) (fun t ht hW => ⟨⟨0, (), rfl, ⟨(Or.inl rfl), Or.inr ⟨hk0, jzHi.ne (v := v2_20.toInt) hwe1 hwe8 hie_15 heq9 (by omega) (by omega) (by have h9 := hqz_22; have h8 := hqz_23; have h7 := jBf.r hz_22; have h6 := jBf.r hz_23; omega)⟩⟩, ⟨hh_20.rt (M1 := []) [] rfl ht, by rw [ht]; exact hh_20.2.2.2.2.2.2.2.2.sub (L1 := [(jFib, jIB dC dI ca G0 0 ib), (jFqd, jQD dC dI ca G0 none qq)]) [0, 1] rfl⟩⟩, by rw [ht]; try exact hh_20.1.1, fun q h9 hq => by rw [ht]; try exact hh_20.1.2.1 q h9 hq⟩) hh_20.1.2.2 dX8_hasIdOf_68
        exact L35 (ic_15.toInt - (0 : Int32).toInt : Int).toNat.succ 0 _ _ hh_18 (⟨by omega, by have h9 := hic_15; omega, fun k h0 h1 => by omega⟩) (by omega) _ (lv_sub hl [1, 2, 0] rfl)
      · skip
        have c_19' : ic_15.toInt ≠ ic_17.toInt := jb_eq_n (rfl) (rfl) c_19
        refine lv_iconst (v := 0) hx hb dX8_hasIdOf_31 (by decide) ?_
        rw [hQ]
        exact W.zret (v := 0) hx hb hr (jb_nz (Or.inl rfl)) (fun t ht hW => ⟨⟨0, (), rfl, ⟨(Or.inl rfl), Or.inr ⟨hk0, jzHi.ln hwe1 hwe8 hie_15 hie_17 hic_15 hic_17 (by omega)⟩⟩, ⟨hh_18.rt (M1 := []) [] rfl ht, by rw [ht]; exact hh_18.2.2.2.2.2.2.2.2.sub (L1 := [(jFib, jIB dC dI ca G0 0 ib), (jFqd, jQD dC dI ca G0 none qq)]) [0, 1] rfl⟩⟩, by rw [ht]; try exact hh_18.1.1, fun q h9 hq => by rw [ht]; try exact hh_18.1.2.1 q h9 hq⟩) hh_18.1.2.2 dX8_hasIdOf_32
end
section
-- p8: a request is aimed at a document
section J9AM
variable {G : jT} {s0 a : Nat} {t : jDtl} {q : jKg} {w : jWl9} {ho : Nat → Option Nat} {us rw : Nat → List Int} {qq q1 : jRqG} {ib : Nat → List Int} {S : Int × (Int → jdD)} {Z : jwSt} {T : Nat → Int → Int} {v x : Int} {r1 : Nat}
theorem jzGn.no {r : Int} (hr : r = 0) (h : jdWh T v S.1 S.2 < 0 ∨ jqK T v (jwNa T v) ≠ 3) : jzGn T v S w qq qq r1 r := Or.inr ⟨hr, rfl, fun q9 => by
  rcases h with h | h
  · omega
  · exact h q9.2⟩
end J9AM
end
section
-- p8: a request that was just made: it waits, or is answered
section J9AQ
variable {G : jT} {s0 r1 b : Nat} {t : jDtl} {q : jKg} {w w1 : jWl9} {ho : Nat → Option Nat} {us rw : Nat → List Int} {qq q1 : jRqG} {ib : Nat → List Int} {S : Int × (Int → jdD)} {Z : jwSt} {T : Nat → Int → Int} {v d nd p r : Int}
theorem jRqG.po {n : Int32} {iv ab : Value} {z a : Nat} (h : z ≠ a) : (qq.put a n iv ab).ab z = qq.ab z ∧ (qq.put a n iv ab).nd z = qq.nd z ∧ (qq.put a n iv ab).iv z = qq.iv z := ⟨jUf_n _ _ h, jUf_n _ _ h, jUf_n _ _ h⟩
/-- what is told of another request is another -/
theorem jcZ.oth {n : Int32} {iv ab : Value} (h : jcZ G s0 t q w ho us rw qq ib S Z) (hn : ∀ z ∈ w.2.2.1, z ≠ r1) : jcZ G s0 t q w ho us rw (qq.put r1 n iv ab) ib S Z := by
  have hW := h.2.2.2.2.2.2.1
  have e : w = w.s2 w.2.2.1 := rfl
  have := h.wts (W := w.2.2.1) (Q := Z.2.2.1) (qq1 := qq.put r1 n iv ab) (ib1 := ib) jLe.rf e ⟨hW.1, fun j z p hz hp => by
    have hz1 : w.2.2.1[j]? = some z := hz
    obtain ⟨q1, q2, q3⟩ := jRqG.po (qq := qq) (n := n) (iv := iv) (ab := ab) (hn z (List.mem_of_getElem? hz1))
    exact (hW.2 j z p hz1 hp).tr _ q1 q2 q3 (fun _ _ => rfl)⟩
  exact this
theorem jcZ.ask (h : jcZ G s0 t q w ho us rw qq ib S Z) (hA : jzAq qq ib w r1 (jwId T v (jdId T v))) (h0 : 0 ≤ d) (h1 : d < w.1) (hb : w.2.1 d.toNat = some b) (hm : jzAm qq q1 r1 b nd) (hW : (w1 = w ∧ (jzRd q q1 r1 = true ∨ 12 ≤ w.2.2.1.length)) ∨ (w1 = w.s2 (w.2.2.1 ++ [r1]) ∧ ¬ jzRd q q1 r1 = true ∧ w.2.2.1.length < 12)) : jcZ G s0 t q w1 ho us rw q1 ib S (jwAsk T v d nd Z) := by
  obtain ⟨n, hn, hq⟩ := hm
  obtain ⟨⟨i, a1, a2⟩, a3, a4⟩ := hA
  have hab : q1.ab r1 = .ref b := by rw [hq]; exact jUf_s _ _ _
  have hnd : (q1.nd r1).toInt = nd := by rw [hq, show (qq.put r1 n (qq.iv r1) (.ref b)).nd r1 = n from jUf_s _ _ _]; exact hn
  have hiv : q1.iv r1 = .ref i := by rw [hq, show (qq.put r1 n (qq.iv r1) (.ref b)).iv r1 = qq.iv r1 from jUf_s _ _ _]; exact a1
  have hck := (h.nx h0 h1 hb).2.1
  have hrd := jzRd.r (q := q) hab
  rw [hnd] at hrd
  have hlen := h.2.2.2.2.2.2.1.1
  have ho : jcZ G s0 t q w ho us rw q1 ib S Z := by rw [hq]; exact h.oth a4
  by_cases c : Z.1 d < nd
  · have hnr : ¬ jzRd q q1 r1 = true := fun e => by rw [hrd] at e; have := of_decide_eq_true e; omega
    rcases hW with ⟨e, c1 | c1⟩ | ⟨e, -, c1⟩
    · exact absurd c1 hnr
    · rw [e, jwAsk.y c rfl, show jwPu Z.2.2.1 (d, nd, jwId T v (jdId T v)) = Z.2.2.1 from if_neg (by omega)]
      exact ho
    · rw [jwAsk.y c rfl, show jwPu Z.2.2.1 (d, nd, jwId T v (jdId T v)) = Z.2.2.1 ++ [(d, nd, jwId T v (jdId T v))] from if_pos (by omega)]
      have := ho.wait (d := d.toNat) (a := b) (x := r1) (i := i) (nd := nd) (id := jwId T v (jdId T v)) (qq1 := q1) (ib1 := ib) (w1 := w1) jLe.rf (by omega) hb hab hnd hiv a2 a3 (fun z _ => ⟨rfl, rfl, rfl, fun _ _ => rfl⟩) e
      rw [show ((d.toNat : Nat) : Int) = d by omega] at this
      exact this
  · have hr : jzRd q q1 r1 = true := by rw [hrd]; exact decide_eq_true (by omega)
    rw [jwAsk.n (by omega)]
    rcases hW with ⟨e, -⟩ | ⟨-, c1, -⟩
    · rw [e]; exact ho
    · exact absurd hr c1
end J9AQ
end
section
-- p8: a new request and its id change nothing for those that wait
section J9NW
variable {dC : Nat → ClassId} {dI : Nat → Nat → Nat} {ca : Nat → ClassId} {B : jF} {base : Nat} {G0 G : jT} {E : List (Nat × Nat)} {H0 H : Heap} {zc zs : Nat} {L : List jPin} {M : List jCt} {I : List jIv} {locs : List Loc} {q : jRqG} {z i : Nat}
/-- an id is one -/
theorem jQD.idt (hh : jSt (dC, dI) B base G0 G E H0 zc zs L M I H locs) (hB : ∀ n G a H, B 10 n G a H ↔ jOb (dC, dI) 10 5 (F10 n G) a H) {c1 c2} (hc : vwCl[10]? = some (c1, c2, 5)) (hQ : jQD dC dI ca G none q H) (hz : G z = some (10, 0)) (e : q.iv z = .ref i) : G i = some (17, 0) := by
  obtain ⟨v, hv, h1⟩ := hh.pin (i := 0) hB hc (by decide) hz (by decide) rfl
  have e1 : v = q.iv z := jf.uniq (h1.at 0 rfl) (hQ z 0 hz (fun c => by cases c)).2.1
  rw [e] at e1
  subst e1
  rcases hv with c | ⟨x, c, g⟩
  · cases c
  · cases c
    exact g
end J9NW
section J9NX
variable {G G1 : jT} {s0 x N : Nat} {t : jDtl} {q : jKg} {w : jWl9} {ho : Nat → Option Nat} {us rw : Nat → List Int} {qq : jRqG} {ib iB : Nat → List Int} {S : Int × (Int → jdD)} {Z : jwSt} {iV : Value} {P : Prop} {l : List Int}
end J9NX
end
section
-- p8: what holds of the machine stays, from message to message
section J9OM
variable {T : Nat → Int → Int} {v p : Int} {S S1 : Int × (Int → jdD)} {Z : jwSt} {d e : Int}
theorem jwS_e (h : S1.2 e = S.2 d) : jwS S1 e = jwS S d := by
  unfold jwS jwF jwL
  rw [h]
theorem jdCh.nn (hT : ∀ x, jqK T v x = 3 → 0 ≤ T 3 x) : ∀ (k : Nat) (c n : Int) (g : Int → Int), 0 ≤ n → 0 ≤ (jdCh T v k c n g).2.1
  | 0, _, _, _, hn => hn
  | k + 1, c, n, g, hn => by
    by_cases q : (jdO T v g n c).1 = 1
    · rw [show jdCh T v (k + 1) c n g = jdCh T v k (T 4 c) (jdO T v g n c).2.1 (jdO T v g n c).2.2 from if_pos q]
      exact jdCh.nn hT k _ _ _ (jdO.nn hn hT)
    · rw [show jdCh T v (k + 1) c n g = (0, n, g) from if_neg q]
      exact hn
theorem jwOq.op (h : jwOq S Z) (hT : ∀ x, jqK T v x = 3 → 0 ≤ T 3 x) : jwOq (jdOpen T v S) (jwOp T v S Z) := by
  unfold jdOpen jwOp
  by_cases q : jdOp T v S.1 S.2 = 1
  · rw [if_pos q, if_pos q]
    have hq : jqK T v (jdTt T v) = 3 := by
      unfold jdOp at q
      split at q
      · rename_i w
        exact w.2.2.2.2.1
      · cases q
    have hl : 0 ≤ T 3 (jdTt T v) := hT _ hq
    obtain ⟨⟨h1, h2, h3, h4, h5, h6⟩, h7, h8⟩ := h
    have key : ∀ i : Int, i < S.1 → ((S.1 + 1, jdUp S.2 S.1 (jdNd T v)) : Int × (Int → jdD)).2 i = S.2 i := fun i hi => if_neg (by omega)
    have keyn : ((S.1 + 1, jdUp S.2 S.1 (jdNd T v)) : Int × (Int → jdD)).2 S.1 = jdNd T v := if_pos rfl
    refine ⟨⟨fun i i0 i1 => ?_, fun w hw => ?_, h3, fun r hr => ?_, h5, h6⟩, ?_, fun i i0 i1 => ?_⟩
    · have i1 : i < S.1 + 1 := i1
      show 0 ≤ jwUp Z.1 S.1 0 i ∧ jwUp Z.1 S.1 0 i ≤ _
      by_cases c : i = S.1
      · rw [jwUp_s c]
        refine ⟨Int.le_refl 0, ?_⟩
        unfold jwS jwL
        rw [c, keyn]
        exact (jPar.ch hl).1
      · rw [jwUp_n c, jwS_e (key i (by omega))]
        exact h1 i i0 (by omega)
    · rcases h2 w hw with c | ⟨c1, c2, c3, c4⟩
      · exact Or.inl c
      · refine Or.inr ⟨c1, ?_, ?_, c4⟩
        · show (Z.2.1 w).1 < S.1 + 1
          omega
        · show jwUp Z.1 S.1 0 (Z.2.1 w).1 < _
          rw [jwUp_n (by omega), jwS_e (key _ c2)]
          exact c3
    · obtain ⟨a, b, c⟩ := h4 r hr
      refine ⟨a, ?_, ?_⟩
      · show r.1 < S.1 + 1
        omega
      · show jwUp Z.1 S.1 0 r.1 < r.2.1
        rw [jwUp_n (by omega)]
        exact c
    · show 0 ≤ S.1 + 1
      omega
    · have i1 : i < S.1 + 1 := i1
      by_cases c : i = S.1
      · rw [c, keyn]; exact hl
      · rw [key i (by omega)]; exact h8 i i0 (by omega)
  · rw [if_neg q, if_neg q]
    exact h
theorem jwOq.cg (h : jwOq S Z) (hT : ∀ x, jqK T v x = 3 → 0 ≤ T 3 x) : jwOq (jdChange T v S) (jwCg T v S Z) := by
  unfold jwCg
  by_cases q : jdCg T v S.1 S.2 = 1
  · rw [if_pos q, show jdChange T v S = (S.1, jdUp S.2 (jdWh T v S.1 S.2) (jdCd T v (S.2 (jdWh T v S.1 S.2)))) from if_pos q]
    have hd0 : 0 ≤ jdWh T v S.1 S.2 := by
      unfold jdCg at q
      split at q
      · rename_i w
        exact w.1
      · cases q
    obtain ⟨⟨h1, h2, h3, h4, h5, h6⟩, h7, h8⟩ := h
    have hd1 : jdWh T v S.1 S.2 < S.1 := by
      have := jdWh.r (T := T) (v := v) (F := S.2) h7
      omega
    generalize hd : jdWh T v S.1 S.2 = d at hd0 hd1
    generalize hS1 : ((S.1, jdUp S.2 d (jdCd T v (S.2 d))) : Int × (Int → jdD)) = S1
    have key : ∀ i : Int, i ≠ d → S1.2 i = S.2 i := fun i hi => by rw [← hS1]; exact if_neg hi
    have keyd : S1.2 d = jdCd T v (S.2 d) := by rw [← hS1]; exact if_pos rfl
    have keyn : S1.1 = S.1 := by rw [← hS1]
    have hld : 0 ≤ (S1.2 d).2.1 := by rw [keyd]; exact jdCh.nn hT _ _ _ _ (h8 d hd0 hd1)
    have hy := jwSy.le (f := jwF S d) (g := jwF S1 d) (n := jwL S d) (m := jwL S1 d) (h8 d hd0 hd1) hld
    unfold jwCg1
    generalize jwSy (jwF S d) (jwL S d) (jwF S1 d) (jwL S1 d) = y at hy
    have hyn : y ≤ jwS S1 d := hy.2.2
    have hZd := h1 d hd0 hd1
    have hu : jwUp Z.1 d (if Z.1 d ≤ y then Z.1 d else y) d = (if Z.1 d ≤ y then Z.1 d else y) := jwUp_s rfl
    have hw : ∀ w : Int, (fun w => if (Z.2.1 w).1 = d ∧ y ≤ Z.1 d then (-1, 0) else Z.2.1 w) w = (-1, 0) ∨ (((fun w => if (Z.2.1 w).1 = d ∧ y ≤ Z.1 d then (-1, 0) else Z.2.1 w) w = Z.2.1 w) ∧ ((Z.2.1 w).1 = d → Z.1 d < y)) := fun w => by
      by_cases c : (Z.2.1 w).1 = d ∧ y ≤ Z.1 d
      · exact Or.inl (if_pos c)
      · exact Or.inr ⟨if_neg c, fun e => by
          by_cases c2 : y ≤ Z.1 d
          · exact absurd ⟨e, c2⟩ c
          · omega⟩
    refine ⟨⟨fun i i0 i1 => ?_, fun w hw1 => ?_, fun e => ?_, fun r hr => ?_, ?_, h6⟩, ?_, fun i i0 i1 => ?_⟩
    · show 0 ≤ jwUp Z.1 d (if Z.1 d ≤ y then Z.1 d else y) i ∧ jwUp Z.1 d (if Z.1 d ≤ y then Z.1 d else y) i ≤ _
      by_cases c : i = d
      · rw [c, hu]
        split <;> omega
      · rw [jwUp_n c, jwS_e (key i c)]
        exact h1 i i0 (by omega)
    · rcases hw w with c | ⟨c, c1⟩
      · exact Or.inl c
      · rcases h2 w hw1 with b | ⟨b1, b2, b3, b4⟩
        · exact Or.inl (c.trans b)
        · refine Or.inr ?_
          show 0 ≤ ((fun w => if (Z.2.1 w).1 = d ∧ y ≤ Z.1 d then (-1, 0) else Z.2.1 w) w).1 ∧ ((fun w => if (Z.2.1 w).1 = d ∧ y ≤ Z.1 d then (-1, 0) else Z.2.1 w) w).1 < S1.1 ∧ jwUp Z.1 d (if Z.1 d ≤ y then Z.1 d else y) ((fun w => if (Z.2.1 w).1 = d ∧ y ≤ Z.1 d then (-1, 0) else Z.2.1 w) w).1 < jwS S1 ((fun w => if (Z.2.1 w).1 = d ∧ y ≤ Z.1 d then (-1, 0) else Z.2.1 w) w).1 ∧ 1 ≤ ((fun w => if (Z.2.1 w).1 = d ∧ y ≤ Z.1 d then (-1, 0) else Z.2.1 w) w).2
          rw [c, keyn]
          refine ⟨b1, b2, ?_, b4⟩
          by_cases ed : (Z.2.1 w).1 = d
          · have := c1 ed
            rw [ed, hu, if_pos (by omega)]
            omega
          · rw [jwUp_n ed, jwS_e (key _ ed)]
            exact b3
    · have e : ((fun w => if (Z.2.1 w).1 = d ∧ y ≤ Z.1 d then (-1, 0) else Z.2.1 w) 0).1 = ((fun w => if (Z.2.1 w).1 = d ∧ y ≤ Z.1 d then (-1, 0) else Z.2.1 w) 1).1 := e
      show ((fun w => if (Z.2.1 w).1 = d ∧ y ≤ Z.1 d then (-1, 0) else Z.2.1 w) 0).1 = -1
      rcases hw 0 with c | ⟨c, -⟩
      · rw [c]
      · rcases hw 1 with c1 | ⟨c1, -⟩
        · rw [e, c1]
        · rw [c, c1] at e
          rw [c]
          exact h3 e
    · obtain ⟨hr1, hr2⟩ := List.mem_filter.mp hr
      obtain ⟨a, b, c⟩ := h4 r hr1
      have hne : r.1 ≠ d := by simpa using hr2
      refine ⟨a, by omega, ?_⟩
      show jwUp Z.1 d (if Z.1 d ≤ y then Z.1 d else y) r.1 < r.2.1
      rw [jwUp_n hne]
      exact c
    · exact Nat.le_trans (List.length_filter_le _ _) h5
    · omega
    · by_cases c : i = d
      · rw [c]; exact hld
      · rw [key i c]; exact h8 i i0 (by omega)
  · rw [if_neg q, show jdChange T v S = S from if_neg q]
    exact h
theorem jwOq.cl (h : jwOq S Z) : jwOq (jdClose T v S) (jwCl T v S Z) := by
  unfold jwCl
  by_cases q : 0 ≤ jdWh T v S.1 S.2
  · rw [if_pos q, show jdClose T v S = (S.1 - 1, jdDn S.2 (jdWh T v S.1 S.2)) from if_pos q]
    obtain ⟨⟨h1, h2, h3, h4, h5, h6⟩, h7, h8⟩ := h
    have hd1 : jdWh T v S.1 S.2 < S.1 := by
      have := jdWh.r (T := T) (v := v) (F := S.2) h7
      omega
    generalize hd : jdWh T v S.1 S.2 = d at q hd1
    generalize hS1 : ((S.1 - 1, jdDn S.2 d) : Int × (Int → jdD)) = S1
    have keyl : ∀ i : Int, i < d → S1.2 i = S.2 i := fun i hi => by rw [← hS1]; exact if_pos hi
    have keyr : ∀ i : Int, ¬ i < d → S1.2 i = S.2 (i + 1) := fun i hi => by rw [← hS1]; exact if_neg hi
    have keyn : S1.1 = S.1 - 1 := by rw [← hS1]
    have kz : ∀ i : Int, ((fun i => if i < d then Z.1 i else Z.1 (i + 1)) : Int → Int) i = if i < d then Z.1 i else Z.1 (i + 1) := fun i => rfl
    unfold jwCl1
    generalize hK : ((fun i => if i < d then Z.1 i else Z.1 (i + 1)) : Int → Int) = K at kz
    have kw : ∀ w : Int, ((fun w => if (Z.2.1 w).1 = d then (-1, 0) else (jwDn d (Z.2.1 w).1, (Z.2.1 w).2)) : Int → Int × Int) w = if (Z.2.1 w).1 = d then (-1, 0) else (jwDn d (Z.2.1 w).1, (Z.2.1 w).2) := fun w => rfl
    generalize hW : ((fun w => if (Z.2.1 w).1 = d then (-1, 0) else (jwDn d (Z.2.1 w).1, (Z.2.1 w).2)) : Int → Int × Int) = W at kw
    have kv : ∀ x : Int, x ≠ d → 0 ≤ x → x < S.1 → K (jwDn d x) = Z.1 x ∧ S1.2 (jwDn d x) = S.2 x ∧ 0 ≤ jwDn d x ∧ jwDn d x < S1.1 := fun x x0 x1 x2 => by
      rcases jwDn.c q x0 with c | c | ⟨c0, c1, c2⟩ | ⟨c1, c2⟩
      · omega
      · omega
      · rw [c2, kz, if_pos c1, keyl x c1]
        exact ⟨rfl, rfl, by omega, by omega⟩
      · rw [c2, kz, if_neg (by omega), keyr _ (by omega), show x - 1 + 1 = x by omega]
        exact ⟨rfl, rfl, by omega, by omega⟩
    refine ⟨⟨fun i i0 i1 => ?_, fun w hw => ?_, fun e => ?_, fun r hr => ?_, ?_, h6⟩, ?_, fun i i0 i1 => ?_⟩
    · show 0 ≤ K i ∧ K i ≤ jwS S1 i
      rw [kz]
      by_cases c : i < d
      · rw [if_pos c, jwS_e (keyl i c)]
        exact h1 i i0 (by omega)
      · rw [if_neg c, jwS_e (keyr i c)]
        exact h1 (i + 1) (by omega) (by omega)
    · show W w = (-1, 0) ∨ (0 ≤ (W w).1 ∧ (W w).1 < S1.1 ∧ K (W w).1 < jwS S1 (W w).1 ∧ 1 ≤ (W w).2)
      rw [kw]
      by_cases c : (Z.2.1 w).1 = d
      · rw [if_pos c]; exact Or.inl rfl
      · rw [if_neg c]
        rcases h2 w hw with b | ⟨b1, b2, b3, b4⟩
        · rw [b]
          refine Or.inl ?_
          show (jwDn d (-1), (0 : Int)) = (-1, 0)
          unfold jwDn
          rw [if_neg (by omega)]
        · obtain ⟨k1, k2, k3, k4⟩ := kv _ c b1 b2
          refine Or.inr ⟨k3, k4, ?_, b4⟩
          show K (jwDn d (Z.2.1 w).1) < jwS S1 (jwDn d (Z.2.1 w).1)
          rw [k1, jwS_e k2]
          exact b3
    · have e : (W 0).1 = (W 1).1 := e
      show (W 0).1 = -1
      have hr : ∀ w : Int, w = 0 ∨ w = 1 → (W w).1 = -1 ∨ ((Z.2.1 w).1 ≠ d ∧ 0 ≤ (Z.2.1 w).1 ∧ (W w).1 = jwDn d (Z.2.1 w).1) := fun w hw => by
        rw [kw]
        by_cases c : (Z.2.1 w).1 = d
        · rw [if_pos c]; exact Or.inl rfl
        · rw [if_neg c]
          rcases h2 w hw with b | ⟨b1, b2, b3, b4⟩
          · rw [b]
            refine Or.inl ?_
            show jwDn d (-1) = -1
            unfold jwDn
            rw [if_neg (by omega)]
          · exact Or.inr ⟨c, b1, rfl⟩
      rcases hr 0 (Or.inl rfl) with c | ⟨c1, c2, c3⟩
      · exact c
      · rcases hr 1 (Or.inr rfl) with b | ⟨b1, b2, b3⟩
        · rw [e]; exact b
        · exfalso
          have e2 : (Z.2.1 0).1 = (Z.2.1 1).1 := by
            rw [c3, b3] at e
            unfold jwDn at e
            split at e <;> split at e <;> omega
          have := h3 e2
          omega
    · obtain ⟨s, hs, es⟩ := List.mem_map.mp hr
      obtain ⟨hs1, hs2⟩ := List.mem_filter.mp hs
      obtain ⟨a, b, c⟩ := h4 s hs1
      have hne : s.1 ≠ d := by simpa using hs2
      obtain ⟨k1, k2, k3, k4⟩ := kv _ hne a b
      rw [← es]
      refine ⟨k3, k4, ?_⟩
      show K (jwDn d s.1) < s.2.1
      rw [k1]
      exact c
    · show ((Z.2.2.1.filter (fun q => !decide (q.1 = d))).map (fun q => (jwDn d q.1, q.2))).length ≤ 12
      rw [List.length_map]
      exact Nat.le_trans (List.length_filter_le _ _) h5
    · omega
    · by_cases c : i < d
      · rw [keyl i c]; exact h8 i i0 (by omega)
      · rw [keyr i c]; exact h8 (i + 1) (by omega) (by omega)
  · rw [if_neg q, show jdClose T v S = S from if_neg q]
    exact h
theorem jwOq.ask {nd : Int} (h : jwOq S Z) (h0 : 0 ≤ d) (hd : d < S.1) : jwOq S (jwAsk T v d nd Z) := by
  unfold jwAsk
  split
  · rename_i c
    obtain ⟨⟨h1, h2, h3, h4, h5, h6⟩, h7⟩ := h
    unfold jwPu
    split
    · rename_i c1
      refine ⟨⟨h1, h2, h3, fun r hr => ?_, ?_, h6⟩, h7⟩
      · rcases List.mem_append.mp hr with a | a
        · exact h4 r a
        · rw [List.mem_singleton.mp a]
          exact ⟨h0, hd, c⟩
      · show (Z.2.2.1 ++ [_]).length ≤ 12
        rw [List.length_append]
        show Z.2.2.1.length + 1 ≤ 12
        omega
    · exact ⟨⟨h1, h2, h3, h4, h5, h6⟩, h7⟩
  · exact h
theorem jwOq.rq (h : jwOq S Z) : jwOq S (jwRq T v p S Z) := by
  have hr := jdWh.r (T := T) (v := v) (F := S.2) h.2.1
  unfold jwRq
  split
  · split
    · unfold jwGo
      split
      · rename_i c
        exact h.ask c.1 (by omega)
      · exact h
    · split
      · unfold jwSt1
        split
        · rename_i c
          exact h.ask c.1 (by omega)
        · exact h
      · exact h
  · exact h
theorem jwOq.no (h : jwOq S Z) (hT : ∀ x, jqK T v x = 3 → 0 ≤ T 3 x) : jwOq (jdNo T v p S) (jwNo T v p S Z) := by
  unfold jdNo jwNo
  by_cases c0 : p ≠ 1
  · rw [if_pos c0, if_pos c0]; exact h
  · rw [if_neg c0, if_neg c0]
    by_cases c1 : jqI T v (jChT "textDocument/didOpen") 20 (jdMe T v) = 1
    · rw [if_pos c1, if_pos c1]; exact h.op hT
    · rw [if_neg c1, if_neg c1]
      by_cases c2 : jqI T v (jChT "textDocument/didChange") 22 (jdMe T v) = 1
      · rw [if_pos c2, if_pos c2]; exact h.cg hT
      · rw [if_neg c2, if_neg c2]
        by_cases c3 : jqI T v (jChT "textDocument/didClose") 21 (jdMe T v) = 1
        · rw [if_pos c3, if_pos c3]; exact h.cl
        · rw [if_neg c3, if_neg c3]
          split
          · exact h.ca
          · exact h
theorem jwOq.mg (h : jwOq S Z) (hT : ∀ x, jqK T v x = 3 → 0 ≤ T 3 x) : jwOq (jdMg T v p S).2.2 (jwMg T v p S Z) := by
  unfold jdMg jwMg
  by_cases c0 : jdGd T v = 1
  · rw [if_pos c0, if_pos c0]
    by_cases c1 : 0 ≤ jdId T v
    · rw [if_pos c1, if_pos c1]; exact h.rq
    · rw [if_neg c1, if_neg c1]
      by_cases c2 : jqI T v (jChT "exit") 4 (jdMe T v) = 1
      · rw [if_pos c2, if_pos c2]; exact h
      · rw [if_neg c2, if_neg c2]; exact h.no hT
  · rw [if_neg c0, if_neg c0]; exact h
end J9OM
end
section
-- p8: a request is cancelled, on the class's side
section J9CA
variable {T : Nat → Int → Int} {v u m : Int} {fk fi fz fn fa fs fu : Nat → Int32}
end J9CA
theorem jwErI {α : Type} {p : α → Bool} : ∀ (l : List α) (k : Nat) (a : α), l[k]? = some a → p a = true → (∀ j b, j < k → l[j]? = some b → ¬ p b = true) → l.eraseP p = l.eraseIdx k
  | [], _, _, h, _, _ => by cases h
  | b :: l, 0, a, h, hp, _ => by
    cases h
    rw [List.eraseP_cons_of_pos hp]
    rfl
  | b :: l, k + 1, a, h, hp, hn => by
    have hb := hn 0 b (by omega) rfl
    rw [List.eraseP_cons_of_neg hb, jwErI l k a h hp (fun j c hj hc => hn (j + 1) c (by omega) hc)]
    rfl
section J9CB
variable {G G1 : jT} {s0 x N n z : Nat} {t : jDtl} {q : jKg} {w w1 : jWl9} {ho : Nat → Option Nat} {us rw : Nat → List Int} {qq gQ : jRqG} {ib iB : Nat → List Int} {S : Int × (Int → jdD)} {Z Z8 : jwSt} {iV : Value} {T : Nat → Int → Int} {v u m : Int} {fk fi fz fn fa fs fu : Nat → Int32}
/-- a new request and its id change nothing for those that wait -/
theorem jcZ.newq {P : Prop} {l : List Int} (h : jcZ G s0 t q w ho us rw qq ib S Z) (hle : jLe G G1) (hN : ∀ a t, G a = some t → a < N) (hn : ∀ a t, G a = some t → a ≠ x) (hw : ∀ z ∈ w.2.2.1, G z = some (10, 0)) (hi : ∀ z i, G z = some (10, 0) → qq.iv z = .ref i → G i = some (17, 0)) (hR : jzRi ib iB N iV P l) : jcZ G1 s0 t q w ho us rw (qq.put x 0 iV .null) iB S Z := by
  have hW := h.2.2.2.2.2.2.1
  have e : w = w.s2 w.2.2.1 := rfl
  exact h.wts (W := w.2.2.1) (Q := Z.2.2.1) (qq1 := qq.put x 0 iV .null) (ib1 := iB) hle e ⟨hW.1, fun j z p hz hp => by
    have hz1 : w.2.2.1[j]? = some z := hz
    have hm := List.mem_of_getElem? hz1
    obtain ⟨q1, q2, q3⟩ := jRqG.po (qq := qq) (n := 0) (iv := iV) (ab := .null) (hn z _ (hw z hm))
    exact (hW.2 j z p hz1 hp).tr _ q1 q2 q3 (fun k hk => by
      have hk1 := hN _ _ (hi z k (hw z hm) hk)
      rcases hR with ⟨-, i, -, c1, c2⟩ | ⟨-, -, c2⟩
      · rw [c2, jUf_n _ _ (Nat.ne_of_lt (Nat.lt_of_lt_of_le hk1 c1))]
      · rw [c2])⟩
theorem jcZ.hi {j k : Nat} {p : jwQ} {id : jwI} (h : jcZ G s0 t q w ho us rw qq ib S Z) (hj : w.2.2.1[j]? = some z) (hp : Z.2.2.1[j]? = some p) (hx : qq.iv x = .ref k) (hk : ib k = jpI id) (hi : jpO id) : jzHi qq ib z x ↔ p.2.2 = id := by
  obtain ⟨d, a, i, r1, r2, r3, r4, r5, r6, r7, r8⟩ := h.2.2.2.2.2.2.1.2 j z p hj hp
  refine ⟨fun ⟨i1, j1, e1, e2, e3⟩ => ?_, fun e => ⟨i, k, r6, hx, by rw [r7, hk, e]⟩⟩
  rw [r6] at e1
  rw [hx] at e2
  cases e1
  cases e2
  rw [r7, hk] at e3
  exact jpI.in r8 hi e3
theorem jwCa.cc (hP : jqK T v m = 4 ∨ (jqK T v m = 3 ∧ jqZ T v m ≤ 20)) (hm : m = jwPi T v) : jwCa T v Z = (Z.1, Z.2.1, Z.2.2.1.eraseP (fun q => decide (q.2.2 = jwId T v m)), Z.2.2.2) := by
  subst hm
  refine if_pos ?_
  rcases hP with c | ⟨c, c1⟩
  · exact Or.inl c
  · rw [jqZ.k c (by decide)] at c1
    exact Or.inr ⟨c, c1⟩
theorem jcZ.cay {n : Int} (h : jcZ G s0 t q w ho us rw qq ib S Z) (hle : jLe G G1) (hN : ∀ a t, G a = some t → a < N) (hx : ∀ a t, G a = some t → a ≠ x) (hw : ∀ z ∈ w.2.2.1, G z = some (10, 0)) (hi : ∀ z i, G z = some (10, 0) → qq.iv z = .ref i → G i = some (17, 0)) (hg : gQ = qq.put x 0 iV .null) (hR : jzRi ib iB N iV (jqK T v m = 4 ∨ (jqK T v m = 3 ∧ jqZ T v m ≤ 20)) (jpI (jwId T v m))) (hm : m = jwPi T v) (hT : jjTC T v u fk fi fz fn fa fs fu) (hTw : jdTw T v) (hl : jzCx w gQ iB x n) (h0 : 0 ≤ n) (hz : w.2.2.1[n.toNat]? = some z) (hy : jzHi gQ iB z x) (h1 : w1 = w.s2 (w.2.2.1.eraseIdx n.toNat)) (hZ : Z8 = jwCa T v Z) : jcZ G1 s0 t q w1 ho us rw gQ iB S Z8 := by
  have h2 := h.newq hle hN hx hw hi hR
  rw [← hg] at h2
  obtain ⟨i1, k, e1, e2, e3⟩ := hy
  have e4 : iV = .ref k := by
    rw [hg] at e2
    exact (jUf_s _ _ _).symm.trans e2
  obtain ⟨hP, hk⟩ := hR.ref e4
  have hid : jpO (jwId T v m) := jwId.o hT hTw (by rcases hP with c | c; exact Or.inl c; exact Or.inr c.1)
  have hlen := h.2.2.2.2.2.2.1.1
  have hzl : n.toNat < w.2.2.1.length := (List.getElem?_eq_some_iff.mp hz).1
  have hp : Z.2.2.1[n.toNat]? = some (Z.2.2.1[n.toNat]'(by omega)) := List.getElem?_eq_getElem (by omega)
  have key : Z.2.2.1.eraseP (fun q => decide (q.2.2 = jwId T v m)) = Z.2.2.1.eraseIdx n.toNat := jwErI _ _ _ hp (decide_eq_true ((h2.hi hz hp e2 hk hid).mp ⟨i1, k, e1, e2, e3⟩)) (fun j b hj hb c => by
    have hjl : j < w.2.2.1.length := by omega
    have hjz : w.2.2.1[j]? = some w.2.2.1[j] := List.getElem?_eq_getElem hjl
    exact hl j _ (by omega) hjz ((h2.hi hjz hb e2 hk hid).mpr (of_decide_eq_true c)))
  rw [hZ, jwCa.cc hP hm, key]
  exact h2.canc jLe.rf h1
theorem jcZ.can {n : Int} (h : jcZ G s0 t q w ho us rw qq ib S Z) (hle : jLe G G1) (hN : ∀ a t, G a = some t → a < N) (hx : ∀ a t, G a = some t → a ≠ x) (hw : ∀ z ∈ w.2.2.1, G z = some (10, 0)) (hi : ∀ z i, G z = some (10, 0) → qq.iv z = .ref i → G i = some (17, 0)) (hg : gQ = qq.put x 0 iV .null) (hR : jzRi ib iB N iV (jqK T v m = 4 ∨ (jqK T v m = 3 ∧ jqZ T v m ≤ 20)) (jpI (jwId T v m))) (hm : m = jwPi T v) (hT : jjTC T v u fk fi fz fn fa fs fu) (hTw : jdTw T v) (hl : jzCx w gQ iB x n) (hn : (w.2.2.1.length : Int) ≤ n) (hZ : Z8 = jwCa T v Z) : jcZ G1 s0 t q w ho us rw gQ iB S Z8 := by
  have h2 := h.newq hle hN hx hw hi hR
  rw [← hg] at h2
  rcases hR with ⟨hP, k, e4, hk1, hk2⟩ | ⟨hP, -, -⟩
  · have hid : jpO (jwId T v m) := jwId.o hT hTw (by rcases hP with c | c; exact Or.inl c; exact Or.inr c.1)
    have hk : iB k = jpI (jwId T v m) := by rw [hk2, jUf_s]
    have e2 : gQ.iv x = .ref k := by
      rw [hg]
      exact (jUf_s _ _ _).trans e4
    have hlen := h.2.2.2.2.2.2.1.1
    have key : Z.2.2.1.eraseP (fun q => decide (q.2.2 = jwId T v m)) = Z.2.2.1 := List.eraseP_of_forall_not (fun b hb c => by
      obtain ⟨j, hj, ej⟩ := List.mem_iff_getElem.mp hb
      have hjl : j < w.2.2.1.length := by omega
      have hjz : w.2.2.1[j]? = some w.2.2.1[j] := List.getElem?_eq_getElem hjl
      have hjp : Z.2.2.1[j]? = some b := by rw [List.getElem?_eq_getElem hj, ej]
      exact hl j _ (by omega) hjz ((h2.hi hjz hjp e2 hk hid).mpr (of_decide_eq_true c)))
    rw [hZ, jwCa.cc hP hm, key]
    exact h2
  · have : jwCa T v Z = Z := by
      subst hm
      refine if_neg (fun c => hP ?_)
      rcases c with c | ⟨c, c1⟩
      · exact Or.inl c
      · exact Or.inr ⟨c, by rw [jqZ.k c (by decide)]; exact c1⟩
    rw [hZ, this]
    exact h2
end J9CB
end
section
-- how long a message is at least that opens or changes a document
theorem jMh.mg {fk fi fz fa fs : Nat → Int32} {pv pu n z m : Int} (h : jMh (fk, fi, fz, fa, fs) pv pu n) (h0 : 0 ≤ m) (h1 : m < pv) (h2 : jSo fs m = 6) (h3 : jSo fk m = 3) (h4 : jSo fz m = z) : jMg (fk, fi, fz, fa, fs) pv pu n z := ⟨h.1, h.2, m, h0, h1, h2, h3, h4⟩
theorem jMg.two {D : jC} {pv pu n z : Int} (h : jMg D pv pu n z) : 25 + z ≤ n := by
  obtain ⟨⟨C, h1⟩, ⟨h2, j, j0, j1, j2, j3, j4⟩, m, m0, m1, m2, m3, m4⟩ := h
  have hj : jNde D pv j 3 7 := ⟨j0, j1, j3, j2⟩
  have hm : jNde D pv m 3 6 := ⟨m0, m1, m3, m2⟩
  have nil : ∀ a ∈ ([] : List Int), False := fun a ha => by cases ha
  have b := jByt h1 h2 [j, m] (List.pairwise_cons.mpr ⟨List.forall_mem_cons.mpr ⟨hj.ne hm (by omega), fun a ha => (nil a ha).elim⟩, List.pairwise_cons.mpr ⟨fun a ha => (nil a ha).elim, List.Pairwise.nil⟩⟩) (List.forall_mem_cons.mpr ⟨hj.r (by omega), List.forall_mem_cons.mpr ⟨hm.r (by omega), fun a ha => (nil a ha).elim⟩⟩)
  rw [hj.s, hm.s, show jWs D [] = 0 from rfl, j4, m4, show (([j, m].length : Nat) : Int) = 2 from rfl] at b
  omega
end
section
theorem dX11_notification_0 : decode cX11_notification 0 = .ok (.aload_n 0, 1) := by decide +kernel
theorem dX11_notification_1 : decode cX11_notification 1 = .ok (.getfield 28, 3) := by decide +kernel
theorem dX11_notification_4 : decode cX11_notification 4 = .ok (.iconst 0, 1) := by decide +kernel
theorem dX11_notification_5 : decode cX11_notification 5 = .ok (.ldc_w 281, 3) := by decide +kernel
theorem dX11_notification_8 : decode cX11_notification 8 = .ok (.invokevirtual 260, 3) := by decide +kernel
theorem dX11_notification_11 : decode cX11_notification 11 = .ok (.istore_n 1, 1) := by decide +kernel
theorem dX11_notification_12 : decode cX11_notification 12 = .ok (.aload_n 0, 1) := by decide +kernel
theorem dX11_notification_13 : decode cX11_notification 13 = .ok (.getfield 28, 3) := by decide +kernel
theorem dX11_notification_16 : decode cX11_notification 16 = .ok (.iload_n 1, 1) := by decide +kernel
theorem dX11_notification_17 : decode cX11_notification 17 = .ok (.ldc_w 322, 3) := by decide +kernel
theorem dX11_notification_20 : decode cX11_notification 20 = .ok (.invokevirtual 277, 3) := by decide +kernel
theorem dX11_notification_23 : decode cX11_notification 23 = .ok (.ifCond .eq 14, 3) := by decide +kernel
theorem dX11_notification_26 : decode cX11_notification 26 = .ok (.aload_n 0, 1) := by decide +kernel
theorem dX11_notification_27 : decode cX11_notification 27 = .ok (.getfield 21, 3) := by decide +kernel
theorem dX11_notification_30 : decode cX11_notification 30 = .ok (.iconst 1, 1) := by decide +kernel
theorem dX11_notification_31 : decode cX11_notification 31 = .ok (.putfield 102, 3) := by decide +kernel
theorem dX11_notification_34 : decode cX11_notification 34 = .ok (.goto 93, 3) := by decide +kernel
theorem dX11_notification_37 : decode cX11_notification 37 = .ok (.aload_n 0, 1) := by decide +kernel
theorem dX11_notification_38 : decode cX11_notification 38 = .ok (.getfield 77, 3) := by decide +kernel
theorem dX11_notification_41 : decode cX11_notification 41 = .ok (.iconst 1, 1) := by decide +kernel
theorem dX11_notification_42 : decode cX11_notification 42 = .ok (.if_icmp .eq 4, 3) := by decide +kernel
theorem dX11_notification_45 : decode cX11_notification 45 = .ok (.return_, 1) := by decide +kernel
theorem dX11_notification_46 : decode cX11_notification 46 = .ok (.aload_n 0, 1) := by decide +kernel
theorem dX11_notification_47 : decode cX11_notification 47 = .ok (.getfield 28, 3) := by decide +kernel
theorem dX11_notification_50 : decode cX11_notification 50 = .ok (.iload_n 1, 1) := by decide +kernel
theorem dX11_notification_51 : decode cX11_notification 51 = .ok (.ldc_w 324, 3) := by decide +kernel
theorem dX11_notification_54 : decode cX11_notification 54 = .ok (.invokevirtual 277, 3) := by decide +kernel
theorem dX11_notification_57 : decode cX11_notification 57 = .ok (.ifCond .eq 10, 3) := by decide +kernel
theorem dX11_notification_60 : decode cX11_notification 60 = .ok (.aload_n 0, 1) := by decide +kernel
theorem dX11_notification_61 : decode cX11_notification 61 = .ok (.invokevirtual 326, 3) := by decide +kernel
theorem dX11_notification_64 : decode cX11_notification 64 = .ok (.goto 63, 3) := by decide +kernel
theorem dX11_notification_67 : decode cX11_notification 67 = .ok (.aload_n 0, 1) := by decide +kernel
theorem dX11_notification_68 : decode cX11_notification 68 = .ok (.getfield 28, 3) := by decide +kernel
theorem dX11_notification_71 : decode cX11_notification 71 = .ok (.iload_n 1, 1) := by decide +kernel
theorem dX11_notification_72 : decode cX11_notification 72 = .ok (.ldc_w 329, 3) := by decide +kernel
theorem dX11_notification_75 : decode cX11_notification 75 = .ok (.invokevirtual 277, 3) := by decide +kernel
theorem dX11_notification_78 : decode cX11_notification 78 = .ok (.ifCond .eq 10, 3) := by decide +kernel
theorem dX11_notification_81 : decode cX11_notification 81 = .ok (.aload_n 0, 1) := by decide +kernel
theorem dX11_notification_82 : decode cX11_notification 82 = .ok (.invokevirtual 331, 3) := by decide +kernel
theorem dX11_notification_85 : decode cX11_notification 85 = .ok (.goto 42, 3) := by decide +kernel
theorem dX11_notification_88 : decode cX11_notification 88 = .ok (.aload_n 0, 1) := by decide +kernel
theorem dX11_notification_89 : decode cX11_notification 89 = .ok (.getfield 28, 3) := by decide +kernel
theorem dX11_notification_92 : decode cX11_notification 92 = .ok (.iload_n 1, 1) := by decide +kernel
theorem dX11_notification_93 : decode cX11_notification 93 = .ok (.ldc_w 334, 3) := by decide +kernel
theorem dX11_notification_96 : decode cX11_notification 96 = .ok (.invokevirtual 277, 3) := by decide +kernel
theorem dX11_notification_99 : decode cX11_notification 99 = .ok (.ifCond .eq 10, 3) := by decide +kernel
theorem dX11_notification_102 : decode cX11_notification 102 = .ok (.aload_n 0, 1) := by decide +kernel
theorem dX11_notification_103 : decode cX11_notification 103 = .ok (.invokevirtual 336, 3) := by decide +kernel
theorem dX11_notification_106 : decode cX11_notification 106 = .ok (.goto 21, 3) := by decide +kernel
theorem dX11_notification_109 : decode cX11_notification 109 = .ok (.aload_n 0, 1) := by decide +kernel
theorem dX11_notification_110 : decode cX11_notification 110 = .ok (.getfield 28, 3) := by decide +kernel
theorem dX11_notification_113 : decode cX11_notification 113 = .ok (.iload_n 1, 1) := by decide +kernel
theorem dX11_notification_114 : decode cX11_notification 114 = .ok (.ldc_w 339, 3) := by decide +kernel
theorem dX11_notification_117 : decode cX11_notification 117 = .ok (.invokevirtual 277, 3) := by decide +kernel
theorem dX11_notification_120 : decode cX11_notification 120 = .ok (.ifCond .eq 7, 3) := by decide +kernel
theorem dX11_notification_123 : decode cX11_notification 123 = .ok (.aload_n 0, 1) := by decide +kernel
theorem dX11_notification_124 : decode cX11_notification 124 = .ok (.invokevirtual 341, 3) := by decide +kernel
theorem dX11_notification_127 : decode cX11_notification 127 = .ok (.return_, 1) := by decide +kernel
end
