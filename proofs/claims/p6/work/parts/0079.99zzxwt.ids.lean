section
def EX14_lineBeginV : List (Nat × Nat) := []
def EX14_placeOfV : List (Nat × Nat) := []
def EX14_takeIdW : List (Nat × Nat) := [(16, 36), (16, 37), (16, 39), (16, 40), (101, 0)]
set_option maxHeartbeats 4000000 in
set_option maxRecDepth 20000 in
theorem uX14_lineBeginV (l : Launch) (dC : Nat → ClassId) (dI : Nat → Nat → Nat) (ca : Nat → ClassId) (base : Nat) (B : jF) (hB : jBok B) (hAp : jAp (dC, dI)) (hB194 : ∀ n G a H, B 194 n G a H ↔ jAr (dC, dI) (ca 1) (fun j z => True) n a H) (G0 : jT) (H0 : Heap) (r0 : Nat) (a1 : Int32) (a2 : Int32) (n0 : Nat) (f0 : Nat → Int32) : Met l yX14_lineBegin (jw yX14_lineBegin cX14_lineBegin 5 (some .int)) ({ frames := 0, cells := 0, slots := 0, locals := 0 }) (va_Pc [.ref r0, .int a1, .int a2] (fun U => U.heap = H0 ∧ jX B base G0 [] H0 ∧ jG dC dI ca base U ∧ G0 r0 = some (194, n0) ∧ jP (dC, dI) G0 H0 [] ∧ jMc (dC, dI) G0 H0 [(r0, 194, n0, ca 1, f0)] ∧ 0 ≤ a1.toInt ∧ a1.toInt ≤ n0 ∧ n0 ≤ 200000 ∧ 0 ≤ a2.toInt)) (va_Qi (S := Unit) (fun r u => ((jdL (jSo f0) a1.toInt a2.toInt (a1.toInt).toNat 0 0 = (r.toInt, a2.toInt) ∧ 0 ≤ r.toInt ∧ r.toInt ≤ a1.toInt) ∨ (r.toInt = -1 ∧ (jdL (jSo f0) a1.toInt a2.toInt (a1.toInt).toNat 0 0).2 < a2.toInt))) (fun u t => jRt (dC, dI) B base G0 EX14_lineBeginV H0 [] t.heap) (jA base)) 0 0 (jA base) := by
  refine Met.ofW (cc := cX14_lineBegin) (maxL := 5) (ret := (some .int)) (by decide) rfl ?_
  intro p e s m args below meth c s₁ Bd hml hv
  obtain ⟨rfl, hH0, hX, hG, hg_r0, hP0, hM0, hp0, hp1, hp2, hp3⟩ := hv
  have hK := hG.1
  have hx := Bd.exec
  have hb := Bd.bytes
  have hr := Bd.returns
  have hts := atoms_spec (ws := (jw yX14_lineBegin cX14_lineBegin 5 (some .int))) Bd.pre
  have htw : ∀ w ∈ jWl, w.before _ s = true := fun w h => hts w (List.mem_cons_of_mem _ h)
  have hown : s.vm.findClass RX14 = some m.cls := findClass_of_methodNamed Bd.named
  have hlocks := Bd.notSynchronized
  obtain ⟨Q, hQ⟩ : ∃ Q, Q = MQ below (va_Qi (S := Unit) (fun r u => ((jdL (jSo f0) a1.toInt a2.toInt (a1.toInt).toNat 0 0 = (r.toInt, a2.toInt) ∧ 0 ≤ r.toInt ∧ r.toInt ≤ a1.toInt) ∨ (r.toInt = -1 ∧ (jdL (jSo f0) a1.toInt a2.toInt (a1.toInt).toNat 0 0).2 < a2.toInt))) (fun u t => jRt (dC, dI) B base G0 EX14_lineBeginV H0 [] t.heap) (jA base)) ([.ref r0, .int a1, .int a2] : List Value).toArray s 0 0 (jA base) := ⟨_, rfl⟩
  rw [← hQ]
  have hl := lv_entry ([.ref r0, .int a1, .int a2]) (n := 5) (Nat.le_of_ble_eq_true rfl)
  rw [lg_entry_eq]
  generalize (lg_sl ([.ref r0, .int a1, .int a2]) ++ List.replicate (5 - (lg_sl ([.ref r0, .int a1, .int a2])).length) Slot.unset).toArray = ls at hl ⊢
  have hl : lv_has ls 5 [(0, .ref r0), (1, .int a1), (2, .int a2)] := hl
  generalize hR : (headSpec (jw yX14_lineBegin cX14_lineBegin 5 (some .int)) ({ frames := 0, cells := 0, slots := 0, locals := 0 })).room = R
  subst hH0
  have hh : jSt (dC, dI) B base G0 G0 EX14_lineBeginV s.heap 0 0 [] [(r0, 194, n0, ca 1, f0)] [] s.heap [] := jSt.start hX hP0 hM0 jIs.nil
  clear hX hP0
  have hkm1 : ((-1) : Int32).toInt = (-1) := by decide
  have hk0 : (0 : Int32).toInt = 0 := by decide
  have hk1 : (1 : Int32).toInt = 1 := by decide
  have hk2 : (2 : Int32).toInt = 2 := by decide
  have hk10 : (10 : Int32).toInt = 10 := by decide
  have hk13 : (13 : Int32).toInt = 13 := by decide
  have hrg_a1 := jb_rng a1
  have hrg_a2 := jb_rng a2
  refine lv_iconst (v := 0) hx hb dX14_lineBegin_0 (by decide) ?_
  refine lv_istore_n (lv' := [(3, .int 0), (0, .ref r0), (1, .int a1), (2, .int a2)]) hx hb dX14_lineBegin_1 rfl hl (by decide) rfl (fun ls hl => ?_)
  refine lv_iconst (v := 0) hx hb dX14_lineBegin_2 (by decide) ?_
  refine lv_istore (lv' := [(4, .int 0), (3, .int 0), (0, .ref r0), (1, .int a1), (2, .int a2)]) hx hb dX14_lineBegin_3 hl (by decide) rfl (fun ls hl => ?_)
  have L5 : ∀ (N : Nat) (v3_1 : Int32) (v4_1 : Int32) (H_1 : Heap) (locs_1 : List Loc), jSt (dC, dI) B base G0 G0 EX14_lineBeginV s.heap 0 0 [] [(r0, 194, n0, ca 1, f0)] [] H_1 locs_1 → (0 ≤ v4_1.toInt ∧ v4_1.toInt ≤ v3_1.toInt ∧ v3_1.toInt ≤ a1.toInt ∧ v4_1.toInt ≤ a2.toInt ∧ 0 ≤ v3_1.toInt ∧ jdL (jSo f0) a1.toInt a2.toInt (a1.toInt - v3_1.toInt).toNat v3_1.toInt v4_1.toInt = jdL (jSo f0) a1.toInt a2.toInt (a1.toInt).toNat 0 0) → (a2.toInt - v4_1.toInt : Int) < N → ∀ ls : Array Slot, lv_has ls 5 [(0, .ref r0), (1, .int a1), (2, .int a2), (3, .int v3_1), (4, .int v4_1)] → W p l e R s m ([.ref r0, .int a1, .int a2] : List Value).toArray below meth c H_1 locs_1 0 0 Q (F0 m 5 ls []) := by
    intro N
    induction N with
    | zero => intro v3_1 v4_1 H_1 locs_1 hh_1  hi_1 hm; exact absurd hm (by omega)
    | succ N L5 =>
      intro v3_1 v4_1 H_1 locs_1 hh_1  hi_1 hm_1 ls hl
      obtain ⟨hi_1_0, hi_1_1, hi_1_2, hi_1_3, hi_1_4, hi_1_5⟩ := hi_1
      refine lv_iload hx hb dX14_lineBegin_5 (lv_at hl 4 rfl) ?_
      refine lv_iload_n hx hb dX14_lineBegin_7 rfl (lv_at hl 2 rfl) ?_
      refine lv_icmp_ge (tgt := 84) hx hb dX14_lineBegin_8 (by decide) (fun c_2 => ?_) (fun c_2 => ?_)
      · skip
        have c_2' : v4_1.toInt ≥ a2.toInt := jb_ge (rfl) (rfl) c_2
        refine lv_iload_n hx hb dX14_lineBegin_84 rfl (lv_at hl 3 rfl) ?_
        rw [hQ]
        exact W.iret (v := v3_1) hx hb hr (fun t ht hW => ⟨⟨v3_1, (), rfl, by refine Or.inl ⟨?_, by omega, by omega⟩; rw [← hi_1_5, jdL_e (Or.inr (by omega))]; rw [show v4_1.toInt = a2.toInt by omega], hh_1.rt (M1 := []) [] rfl ht⟩, by rw [ht]; try exact hh_1.1.1, fun q h9 hq => by rw [ht]; try exact hh_1.1.2.1 q h9 hq⟩) hh_1.1.2.2 dX14_lineBegin_85
      · skip
        have c_2' : v4_1.toInt < a2.toInt := jb_ge_n (rfl) (rfl) c_2
        have L11 : ∀ (N : Nat) (v3_3 : Int32) (H_3 : Heap) (locs_3 : List Loc), jSt (dC, dI) B base G0 G0 EX14_lineBeginV s.heap 0 0 [] [(r0, 194, n0, ca 1, f0)] [] H_3 locs_3 → (v4_1.toInt ≤ v3_3.toInt ∧ v3_3.toInt ≤ a1.toInt ∧ 0 ≤ v3_3.toInt ∧ jdL (jSo f0) a1.toInt a2.toInt (a1.toInt - v3_3.toInt).toNat v3_3.toInt v4_1.toInt = jdL (jSo f0) a1.toInt a2.toInt (a1.toInt).toNat 0 0) → (a1.toInt - v3_3.toInt : Int) < N → ∀ ls : Array Slot, lv_has ls 5 [(0, .ref r0), (1, .int a1), (2, .int a2), (3, .int v3_3), (4, .int v4_1)] → W p l e R s m ([.ref r0, .int a1, .int a2] : List Value).toArray below meth c H_3 locs_3 0 0 Q (F0 m 11 ls []) := by
          intro N
          induction N with
          | zero => intro v3_3 H_3 locs_3 hh_3  hi_3 hm; exact absurd hm (by omega)
          | succ N L11 =>
            intro v3_3 H_3 locs_3 hh_3  hi_3 hm_3 ls hl
            obtain ⟨hi_3_0, hi_3_1, hi_3_2, hi_3_3⟩ := hi_3
            refine lv_iload_n hx hb dX14_lineBegin_11 rfl (lv_at hl 3 rfl) ?_
            refine lv_iload_n hx hb dX14_lineBegin_12 rfl (lv_at hl 1 rfl) ?_
            refine lv_icmp_ge (tgt := 38) hx hb dX14_lineBegin_13 (by decide) (fun c_4 => ?_) (fun c_4 => ?_)
            · skip
              have c_4' : v3_3.toInt ≥ a1.toInt := jb_ge (rfl) (rfl) c_4
              refine lv_iload_n hx hb dX14_lineBegin_38 rfl (lv_at hl 3 rfl) ?_
              refine lv_iload_n hx hb dX14_lineBegin_39 rfl (lv_at hl 1 rfl) ?_
              refine lv_icmp_ne (tgt := 45) hx hb dX14_lineBegin_40 (by decide) (fun c_5 => ?_) (fun c_5 => ?_)
              · skip
                have c_5' : v3_3.toInt ≠ a1.toInt := jb_ne (rfl) (rfl) c_5
                refine lv_iload_n hx hb dX14_lineBegin_45 rfl (lv_at hl 3 rfl) ?_
                refine lv_aload_n hx hb dX14_lineBegin_46 rfl (lv_at hl 0 rfl) ?_
                refine lv_iload_n hx hb dX14_lineBegin_47 rfl (lv_at hl 3 rfl) ?_
                refine j7_ialdM hx hb hK hh_3 hB194 1 rfl (by decide) hg_r0 (x := v3_3.toInt) (rfl) (by omega) (j := 0) rfl dX14_lineBegin_48 (fun z_6 ez_6 (hz_6 : True) => ?_)
                have hqz_6 : z_6.toInt = jSo f0 (v3_3.toInt) := by unfold jSo; rw [ez_6]
                refine lv_bipush (v := 13) hx hb dX14_lineBegin_49 (by decide) ?_
                refine lv_icmp_ne (tgt := 75) hx hb dX14_lineBegin_51 (by decide) (fun c_7 => ?_) (fun c_7 => ?_)
                · skip
                  have c_7' : z_6.toInt ≠ 13 := jb_ne (rfl) ((by decide)) c_7
                  refine lv_iconst (v := 1) hx hb dX14_lineBegin_75 (by decide) ?_
                  refine lv_iadd hx hb dX14_lineBegin_76 ?_
                  refine lv_topi (fun z_8 ez_8 => ?_)
                  have hz_8 : z_8.toInt = v3_3.toInt + 1 := by rw [ez_8]; exact jb_iadd2 (rfl) ((by decide)) (by omega)
                  refine lv_istore_n (lv' := [(3, .int z_8), (0, .ref r0), (1, .int a1), (2, .int a2), (4, .int v4_1)]) hx hb dX14_lineBegin_77 rfl hl (by decide) rfl (fun ls hl => ?_)
                  obtain ⟨z_9, ez_9⟩ : ∃ y : Int32, y = v4_1 + 1 := ⟨_, rfl⟩
                  refine lv_iinc (v := z_9) (lv' := [(4, .int z_9), (3, .int z_8), (0, .ref r0), (1, .int a1), (2, .int a2)]) hx hb dX14_lineBegin_78 hl (k := 4) rfl (by rw [ez_9]; rfl) (by decide) rfl (fun ls hl => ?_)
                  have hz_9 : z_9.toInt = v4_1.toInt + 1 := by rw [ez_9]; exact jb_iadd2 (rfl) (by decide) (by omega)
                  refine lv_goto (tgt := 5) hx hb dX14_lineBegin_81 (by decide) ?_
                  exact L5 z_8 z_9 _ _ hh_3 (by exfalso; omega) (by omega) _ (lv_sub hl [2, 3, 4, 1, 0] rfl)
                · skip
                  have c_7' : z_6.toInt = 13 := jb_ne_n (rfl) ((by decide)) c_7
                  refine lv_iload_n hx hb dX14_lineBegin_54 rfl (lv_at hl 3 rfl) ?_
                  refine lv_iconst (v := 1) hx hb dX14_lineBegin_55 (by decide) ?_
                  refine lv_iadd hx hb dX14_lineBegin_56 ?_
                  refine lv_topi (fun z_10 ez_10 => ?_)
                  have hz_10 : z_10.toInt = v3_3.toInt + 1 := by rw [ez_10]; exact jb_iadd2 (rfl) ((by decide)) (by omega)
                  refine lv_iload_n hx hb dX14_lineBegin_57 rfl (lv_at hl 1 rfl) ?_
                  refine lv_icmp_ge (tgt := 75) hx hb dX14_lineBegin_58 (by decide) (fun c_11 => ?_) (fun c_11 => ?_)
                  · skip
                    have c_11' : z_10.toInt ≥ a1.toInt := jb_ge (rfl) (rfl) c_11
                    refine lv_iconst (v := 1) hx hb dX14_lineBegin_75 (by decide) ?_
                    refine lv_iadd hx hb dX14_lineBegin_76 ?_
                    refine lv_topi (fun z_12 ez_12 => ?_)
                    have hz_12 : z_12.toInt = v3_3.toInt + 1 := by rw [ez_12]; exact jb_iadd2 (rfl) ((by decide)) (by omega)
                    refine lv_istore_n (lv' := [(3, .int z_12), (0, .ref r0), (1, .int a1), (2, .int a2), (4, .int v4_1)]) hx hb dX14_lineBegin_77 rfl hl (by decide) rfl (fun ls hl => ?_)
                    obtain ⟨z_13, ez_13⟩ : ∃ y : Int32, y = v4_1 + 1 := ⟨_, rfl⟩
                    refine lv_iinc (v := z_13) (lv' := [(4, .int z_13), (3, .int z_12), (0, .ref r0), (1, .int a1), (2, .int a2)]) hx hb dX14_lineBegin_78 hl (k := 4) rfl (by rw [ez_13]; rfl) (by decide) rfl (fun ls hl => ?_)
                    have hz_13 : z_13.toInt = v4_1.toInt + 1 := by rw [ez_13]; exact jb_iadd2 (rfl) (by decide) (by omega)
                    refine lv_goto (tgt := 5) hx hb dX14_lineBegin_81 (by decide) ?_
                    exact L5 z_12 z_13 _ _ hh_3 (by exfalso; omega) (by omega) _ (lv_sub hl [2, 3, 4, 1, 0] rfl)
                  · skip
                    have c_11' : z_10.toInt < a1.toInt := jb_ge_n (rfl) (rfl) c_11
                    refine lv_aload_n hx hb dX14_lineBegin_61 rfl (lv_at hl 0 rfl) ?_
                    refine lv_iload_n hx hb dX14_lineBegin_62 rfl (lv_at hl 3 rfl) ?_
                    refine lv_iconst (v := 1) hx hb dX14_lineBegin_63 (by decide) ?_
                    refine lv_iadd hx hb dX14_lineBegin_64 ?_
                    refine lv_topi (fun z_14 ez_14 => ?_)
                    have hz_14 : z_14.toInt = v3_3.toInt + 1 := by rw [ez_14]; exact jb_iadd2 (rfl) ((by decide)) (by omega)
                    refine j7_ialdM hx hb hK hh_3 hB194 1 rfl (by decide) hg_r0 (x := z_14.toInt) (rfl) (by omega) (j := 0) rfl dX14_lineBegin_65 (fun z_15 ez_15 (hz_15 : True) => ?_)
                    have hqz_15 : z_15.toInt = jSo f0 ((v3_3.toInt + 1)) := by unfold jSo; rw [ez_15, show z_14.toInt = (v3_3.toInt + 1) by omega]
                    refine lv_bipush (v := 10) hx hb dX14_lineBegin_66 (by decide) ?_
                    refine lv_icmp_ne (tgt := 75) hx hb dX14_lineBegin_68 (by decide) (fun c_16 => ?_) (fun c_16 => ?_)
                    · skip
                      have c_16' : z_15.toInt ≠ 10 := jb_ne (rfl) ((by decide)) c_16
                      refine lv_iconst (v := 1) hx hb dX14_lineBegin_75 (by decide) ?_
                      refine lv_iadd hx hb dX14_lineBegin_76 ?_
                      refine lv_topi (fun z_17 ez_17 => ?_)
                      have hz_17 : z_17.toInt = v3_3.toInt + 1 := by rw [ez_17]; exact jb_iadd2 (rfl) ((by decide)) (by omega)
                      refine lv_istore_n (lv' := [(3, .int z_17), (0, .ref r0), (1, .int a1), (2, .int a2), (4, .int v4_1)]) hx hb dX14_lineBegin_77 rfl hl (by decide) rfl (fun ls hl => ?_)
                      obtain ⟨z_18, ez_18⟩ : ∃ y : Int32, y = v4_1 + 1 := ⟨_, rfl⟩
                      refine lv_iinc (v := z_18) (lv' := [(4, .int z_18), (3, .int z_17), (0, .ref r0), (1, .int a1), (2, .int a2)]) hx hb dX14_lineBegin_78 hl (k := 4) rfl (by rw [ez_18]; rfl) (by decide) rfl (fun ls hl => ?_)
                      have hz_18 : z_18.toInt = v4_1.toInt + 1 := by rw [ez_18]; exact jb_iadd2 (rfl) (by decide) (by omega)
                      refine lv_goto (tgt := 5) hx hb dX14_lineBegin_81 (by decide) ?_
                      exact L5 z_17 z_18 _ _ hh_3 (by exfalso; omega) (by omega) _ (lv_sub hl [2, 3, 4, 1, 0] rfl)
                    · skip
                      have c_16' : z_15.toInt = 10 := jb_ne_n (rfl) ((by decide)) c_16
                      refine lv_iconst (v := 2) hx hb dX14_lineBegin_71 (by decide) ?_
                      refine lv_goto (tgt := 76) hx hb dX14_lineBegin_72 (by decide) ?_
                      refine lv_iadd hx hb dX14_lineBegin_76 ?_
                      refine lv_topi (fun z_19 ez_19 => ?_)
                      have hz_19 : z_19.toInt = v3_3.toInt + 2 := by rw [ez_19]; exact jb_iadd2 (rfl) ((by decide)) (by omega)
                      refine lv_istore_n (lv' := [(3, .int z_19), (0, .ref r0), (1, .int a1), (2, .int a2), (4, .int v4_1)]) hx hb dX14_lineBegin_77 rfl hl (by decide) rfl (fun ls hl => ?_)
                      obtain ⟨z_20, ez_20⟩ : ∃ y : Int32, y = v4_1 + 1 := ⟨_, rfl⟩
                      refine lv_iinc (v := z_20) (lv' := [(4, .int z_20), (3, .int z_19), (0, .ref r0), (1, .int a1), (2, .int a2)]) hx hb dX14_lineBegin_78 hl (k := 4) rfl (by rw [ez_20]; rfl) (by decide) rfl (fun ls hl => ?_)
                      have hz_20 : z_20.toInt = v4_1.toInt + 1 := by rw [ez_20]; exact jb_iadd2 (rfl) (by decide) (by omega)
                      refine lv_goto (tgt := 5) hx hb dX14_lineBegin_81 (by decide) ?_
                      exact L5 z_19 z_20 _ _ hh_3 (by exfalso; omega) (by omega) _ (lv_sub hl [2, 3, 4, 1, 0] rfl)
              · skip
                have c_5' : v3_3.toInt = a1.toInt := jb_ne_n (rfl) (rfl) c_5
                refine lv_iconst (v := (-1)) hx hb dX14_lineBegin_43 (by decide) ?_
                rw [hQ]
                exact W.iret (v := (-1)) hx hb hr (fun t ht hW => ⟨⟨(-1), (), rfl, by refine Or.inr ⟨by omega, ?_⟩; have h9 := hi_3_3; rw [jdL_e (Or.inl (by omega))] at h9; rw [← h9]; dsimp only; omega, hh_3.rt (M1 := []) [] rfl ht⟩, by rw [ht]; try exact hh_3.1.1, fun q h9 hq => by rw [ht]; try exact hh_3.1.2.1 q h9 hq⟩) hh_3.1.2.2 dX14_lineBegin_44
            · skip
              have c_4' : v3_3.toInt < a1.toInt := jb_ge_n (rfl) (rfl) c_4
              refine lv_aload_n hx hb dX14_lineBegin_16 rfl (lv_at hl 0 rfl) ?_
              refine lv_iload_n hx hb dX14_lineBegin_17 rfl (lv_at hl 3 rfl) ?_
              refine j7_ialdM hx hb hK hh_3 hB194 1 rfl (by decide) hg_r0 (x := v3_3.toInt) (rfl) (by omega) (j := 0) rfl dX14_lineBegin_18 (fun z_21 ez_21 (hz_21 : True) => ?_)
              have hqz_21 : z_21.toInt = jSo f0 (v3_3.toInt) := by unfold jSo; rw [ez_21]
              refine lv_bipush (v := 10) hx hb dX14_lineBegin_19 (by decide) ?_
              refine lv_icmp_eq (tgt := 38) hx hb dX14_lineBegin_21 (by decide) (fun c_22 => ?_) (fun c_22 => ?_)
              · skip
                have c_22' : z_21.toInt = 10 := jb_eq (rfl) ((by decide)) c_22
                refine lv_iload_n hx hb dX14_lineBegin_38 rfl (lv_at hl 3 rfl) ?_
                refine lv_iload_n hx hb dX14_lineBegin_39 rfl (lv_at hl 1 rfl) ?_
                refine lv_icmp_ne (tgt := 45) hx hb dX14_lineBegin_40 (by decide) (fun c_23 => ?_) (fun c_23 => ?_)
                · skip
                  have c_23' : v3_3.toInt ≠ a1.toInt := jb_ne (rfl) (rfl) c_23
                  refine lv_iload_n hx hb dX14_lineBegin_45 rfl (lv_at hl 3 rfl) ?_
                  refine lv_aload_n hx hb dX14_lineBegin_46 rfl (lv_at hl 0 rfl) ?_
                  refine lv_iload_n hx hb dX14_lineBegin_47 rfl (lv_at hl 3 rfl) ?_
                  refine j7_ialdM hx hb hK hh_3 hB194 1 rfl (by decide) hg_r0 (x := v3_3.toInt) (rfl) (by omega) (j := 0) rfl dX14_lineBegin_48 (fun z_24 ez_24 (hz_24 : True) => ?_)
                  have hqz_24 : z_24.toInt = jSo f0 (v3_3.toInt) := by unfold jSo; rw [ez_24]
                  refine lv_bipush (v := 13) hx hb dX14_lineBegin_49 (by decide) ?_
                  refine lv_icmp_ne (tgt := 75) hx hb dX14_lineBegin_51 (by decide) (fun c_25 => ?_) (fun c_25 => ?_)
                  · skip
                    have c_25' : z_24.toInt ≠ 13 := jb_ne (rfl) ((by decide)) c_25
                    refine lv_iconst (v := 1) hx hb dX14_lineBegin_75 (by decide) ?_
                    refine lv_iadd hx hb dX14_lineBegin_76 ?_
                    refine lv_topi (fun z_26 ez_26 => ?_)
                    have hz_26 : z_26.toInt = v3_3.toInt + 1 := by rw [ez_26]; exact jb_iadd2 (rfl) ((by decide)) (by omega)
                    refine lv_istore_n (lv' := [(3, .int z_26), (0, .ref r0), (1, .int a1), (2, .int a2), (4, .int v4_1)]) hx hb dX14_lineBegin_77 rfl hl (by decide) rfl (fun ls hl => ?_)
                    obtain ⟨z_27, ez_27⟩ : ∃ y : Int32, y = v4_1 + 1 := ⟨_, rfl⟩
                    refine lv_iinc (v := z_27) (lv' := [(4, .int z_27), (3, .int z_26), (0, .ref r0), (1, .int a1), (2, .int a2)]) hx hb dX14_lineBegin_78 hl (k := 4) rfl (by rw [ez_27]; rfl) (by decide) rfl (fun ls hl => ?_)
                    have hz_27 : z_27.toInt = v4_1.toInt + 1 := by rw [ez_27]; exact jb_iadd2 (rfl) (by decide) (by omega)
                    refine lv_goto (tgt := 5) hx hb dX14_lineBegin_81 (by decide) ?_
                    exact L5 z_26 z_27 _ _ hh_3 (by refine ⟨by omega, by omega, by omega, by omega, by omega, ?_⟩; exact (jdL.e1 (by omega) (by omega) (Or.inl (by have h9 := hqz_24; have h8 := hqz_21; omega)) (by omega) (by omega)).trans hi_3_3) (by omega) _ (lv_sub hl [2, 3, 4, 1, 0] rfl)
                  · skip
                    have c_25' : z_24.toInt = 13 := jb_ne_n (rfl) ((by decide)) c_25
                    refine lv_iload_n hx hb dX14_lineBegin_54 rfl (lv_at hl 3 rfl) ?_
                    refine lv_iconst (v := 1) hx hb dX14_lineBegin_55 (by decide) ?_
                    refine lv_iadd hx hb dX14_lineBegin_56 ?_
                    refine lv_topi (fun z_28 ez_28 => ?_)
                    have hz_28 : z_28.toInt = v3_3.toInt + 1 := by rw [ez_28]; exact jb_iadd2 (rfl) ((by decide)) (by omega)
                    refine lv_iload_n hx hb dX14_lineBegin_57 rfl (lv_at hl 1 rfl) ?_
                    refine lv_icmp_ge (tgt := 75) hx hb dX14_lineBegin_58 (by decide) (fun c_29 => ?_) (fun c_29 => ?_)
                    · skip
                      have c_29' : z_28.toInt ≥ a1.toInt := jb_ge (rfl) (rfl) c_29
                      refine lv_iconst (v := 1) hx hb dX14_lineBegin_75 (by decide) ?_
                      refine lv_iadd hx hb dX14_lineBegin_76 ?_
                      refine lv_topi (fun z_30 ez_30 => ?_)
                      have hz_30 : z_30.toInt = v3_3.toInt + 1 := by rw [ez_30]; exact jb_iadd2 (rfl) ((by decide)) (by omega)
                      refine lv_istore_n (lv' := [(3, .int z_30), (0, .ref r0), (1, .int a1), (2, .int a2), (4, .int v4_1)]) hx hb dX14_lineBegin_77 rfl hl (by decide) rfl (fun ls hl => ?_)
                      obtain ⟨z_31, ez_31⟩ : ∃ y : Int32, y = v4_1 + 1 := ⟨_, rfl⟩
                      refine lv_iinc (v := z_31) (lv' := [(4, .int z_31), (3, .int z_30), (0, .ref r0), (1, .int a1), (2, .int a2)]) hx hb dX14_lineBegin_78 hl (k := 4) rfl (by rw [ez_31]; rfl) (by decide) rfl (fun ls hl => ?_)
                      have hz_31 : z_31.toInt = v4_1.toInt + 1 := by rw [ez_31]; exact jb_iadd2 (rfl) (by decide) (by omega)
                      refine lv_goto (tgt := 5) hx hb dX14_lineBegin_81 (by decide) ?_
                      exact L5 z_30 z_31 _ _ hh_3 (by refine ⟨by omega, by omega, by omega, by omega, by omega, ?_⟩; exact (jdL.e1 (by omega) (by omega) (Or.inr ⟨by have h9 := hqz_24; omega, fun q => by omega⟩) (by omega) (by omega)).trans hi_3_3) (by omega) _ (lv_sub hl [2, 3, 4, 1, 0] rfl)
                    · skip
                      have c_29' : z_28.toInt < a1.toInt := jb_ge_n (rfl) (rfl) c_29
                      refine lv_aload_n hx hb dX14_lineBegin_61 rfl (lv_at hl 0 rfl) ?_
                      refine lv_iload_n hx hb dX14_lineBegin_62 rfl (lv_at hl 3 rfl) ?_
                      refine lv_iconst (v := 1) hx hb dX14_lineBegin_63 (by decide) ?_
                      refine lv_iadd hx hb dX14_lineBegin_64 ?_
                      refine lv_topi (fun z_32 ez_32 => ?_)
                      have hz_32 : z_32.toInt = v3_3.toInt + 1 := by rw [ez_32]; exact jb_iadd2 (rfl) ((by decide)) (by omega)
                      refine j7_ialdM hx hb hK hh_3 hB194 1 rfl (by decide) hg_r0 (x := z_32.toInt) (rfl) (by omega) (j := 0) rfl dX14_lineBegin_65 (fun z_33 ez_33 (hz_33 : True) => ?_)
                      have hqz_33 : z_33.toInt = jSo f0 ((v3_3.toInt + 1)) := by unfold jSo; rw [ez_33, show z_32.toInt = (v3_3.toInt + 1) by omega]
                      refine lv_bipush (v := 10) hx hb dX14_lineBegin_66 (by decide) ?_
                      refine lv_icmp_ne (tgt := 75) hx hb dX14_lineBegin_68 (by decide) (fun c_34 => ?_) (fun c_34 => ?_)
                      · skip
                        have c_34' : z_33.toInt ≠ 10 := jb_ne (rfl) ((by decide)) c_34
                        refine lv_iconst (v := 1) hx hb dX14_lineBegin_75 (by decide) ?_
                        refine lv_iadd hx hb dX14_lineBegin_76 ?_
                        refine lv_topi (fun z_35 ez_35 => ?_)
                        have hz_35 : z_35.toInt = v3_3.toInt + 1 := by rw [ez_35]; exact jb_iadd2 (rfl) ((by decide)) (by omega)
                        refine lv_istore_n (lv' := [(3, .int z_35), (0, .ref r0), (1, .int a1), (2, .int a2), (4, .int v4_1)]) hx hb dX14_lineBegin_77 rfl hl (by decide) rfl (fun ls hl => ?_)
                        obtain ⟨z_36, ez_36⟩ : ∃ y : Int32, y = v4_1 + 1 := ⟨_, rfl⟩
                        refine lv_iinc (v := z_36) (lv' := [(4, .int z_36), (3, .int z_35), (0, .ref r0), (1, .int a1), (2, .int a2)]) hx hb dX14_lineBegin_78 hl (k := 4) rfl (by rw [ez_36]; rfl) (by decide) rfl (fun ls hl => ?_)
                        have hz_36 : z_36.toInt = v4_1.toInt + 1 := by rw [ez_36]; exact jb_iadd2 (rfl) (by decide) (by omega)
                        refine lv_goto (tgt := 5) hx hb dX14_lineBegin_81 (by decide) ?_
                        exact L5 z_35 z_36 _ _ hh_3 (by refine ⟨by omega, by omega, by omega, by omega, by omega, ?_⟩; exact (jdL.e1 (by omega) (by omega) (Or.inr ⟨by have h9 := hqz_24; omega, fun q => by have h9 := hqz_33; have h8 := q.2; rw [show v3_3.toInt + 1 = z_32.toInt by omega] at h8; omega⟩) (by omega) (by omega)).trans hi_3_3) (by omega) _ (lv_sub hl [2, 3, 4, 1, 0] rfl)
                      · skip
                        have c_34' : z_33.toInt = 10 := jb_ne_n (rfl) ((by decide)) c_34
                        refine lv_iconst (v := 2) hx hb dX14_lineBegin_71 (by decide) ?_
                        refine lv_goto (tgt := 76) hx hb dX14_lineBegin_72 (by decide) ?_
                        refine lv_iadd hx hb dX14_lineBegin_76 ?_
                        refine lv_topi (fun z_37 ez_37 => ?_)
                        have hz_37 : z_37.toInt = v3_3.toInt + 2 := by rw [ez_37]; exact jb_iadd2 (rfl) ((by decide)) (by omega)
                        refine lv_istore_n (lv' := [(3, .int z_37), (0, .ref r0), (1, .int a1), (2, .int a2), (4, .int v4_1)]) hx hb dX14_lineBegin_77 rfl hl (by decide) rfl (fun ls hl => ?_)
                        obtain ⟨z_38, ez_38⟩ : ∃ y : Int32, y = v4_1 + 1 := ⟨_, rfl⟩
                        refine lv_iinc (v := z_38) (lv' := [(4, .int z_38), (3, .int z_37), (0, .ref r0), (1, .int a1), (2, .int a2)]) hx hb dX14_lineBegin_78 hl (k := 4) rfl (by rw [ez_38]; rfl) (by decide) rfl (fun ls hl => ?_)
                        have hz_38 : z_38.toInt = v4_1.toInt + 1 := by rw [ez_38]; exact jb_iadd2 (rfl) (by decide) (by omega)
                        refine lv_goto (tgt := 5) hx hb dX14_lineBegin_81 (by decide) ?_
                        exact L5 z_37 z_38 _ _ hh_3 (by refine ⟨by omega, by omega, by omega, by omega, by omega, ?_⟩; exact (jdL.e2 (by omega) (by have h9 := hqz_24; omega) (by omega) (by have h9 := hqz_33; first | omega | (rw [show v3_3.toInt + 1 = z_32.toInt by omega]; omega)) (by omega) (by omega)).trans hi_3_3) (by omega) _ (lv_sub hl [2, 3, 4, 1, 0] rfl)
                · skip
                  have c_23' : v3_3.toInt = a1.toInt := jb_ne_n (rfl) (rfl) c_23
                  refine lv_iconst (v := (-1)) hx hb dX14_lineBegin_43 (by decide) ?_
                  rw [hQ]
                  exact W.iret (v := (-1)) hx hb hr (fun t ht hW => ⟨⟨(-1), (), rfl, by refine Or.inr ⟨by omega, ?_⟩; have h9 := hi_3_3; rw [jdL_e (Or.inl (by omega))] at h9; rw [← h9]; dsimp only; omega, hh_3.rt (M1 := []) [] rfl ht⟩, by rw [ht]; try exact hh_3.1.1, fun q h9 hq => by rw [ht]; try exact hh_3.1.2.1 q h9 hq⟩) hh_3.1.2.2 dX14_lineBegin_44
              · skip
                have c_22' : z_21.toInt ≠ 10 := jb_eq_n (rfl) ((by decide)) c_22
                refine lv_aload_n hx hb dX14_lineBegin_24 rfl (lv_at hl 0 rfl) ?_
                refine lv_iload_n hx hb dX14_lineBegin_25 rfl (lv_at hl 3 rfl) ?_
                refine j7_ialdM hx hb hK hh_3 hB194 1 rfl (by decide) hg_r0 (x := v3_3.toInt) (rfl) (by omega) (j := 0) rfl dX14_lineBegin_26 (fun z_39 ez_39 (hz_39 : True) => ?_)
                have hqz_39 : z_39.toInt = jSo f0 (v3_3.toInt) := by unfold jSo; rw [ez_39]
                refine lv_bipush (v := 13) hx hb dX14_lineBegin_27 (by decide) ?_
                refine lv_icmp_eq (tgt := 38) hx hb dX14_lineBegin_29 (by decide) (fun c_40 => ?_) (fun c_40 => ?_)
                · skip
                  have c_40' : z_39.toInt = 13 := jb_eq (rfl) ((by decide)) c_40
                  refine lv_iload_n hx hb dX14_lineBegin_38 rfl (lv_at hl 3 rfl) ?_
                  refine lv_iload_n hx hb dX14_lineBegin_39 rfl (lv_at hl 1 rfl) ?_
                  refine lv_icmp_ne (tgt := 45) hx hb dX14_lineBegin_40 (by decide) (fun c_41 => ?_) (fun c_41 => ?_)
                  · skip
                    have c_41' : v3_3.toInt ≠ a1.toInt := jb_ne (rfl) (rfl) c_41
                    refine lv_iload_n hx hb dX14_lineBegin_45 rfl (lv_at hl 3 rfl) ?_
                    refine lv_aload_n hx hb dX14_lineBegin_46 rfl (lv_at hl 0 rfl) ?_
                    refine lv_iload_n hx hb dX14_lineBegin_47 rfl (lv_at hl 3 rfl) ?_
                    refine j7_ialdM hx hb hK hh_3 hB194 1 rfl (by decide) hg_r0 (x := v3_3.toInt) (rfl) (by omega) (j := 0) rfl dX14_lineBegin_48 (fun z_42 ez_42 (hz_42 : True) => ?_)
                    have hqz_42 : z_42.toInt = jSo f0 (v3_3.toInt) := by unfold jSo; rw [ez_42]
                    refine lv_bipush (v := 13) hx hb dX14_lineBegin_49 (by decide) ?_
                    refine lv_icmp_ne (tgt := 75) hx hb dX14_lineBegin_51 (by decide) (fun c_43 => ?_) (fun c_43 => ?_)
                    · skip
                      have c_43' : z_42.toInt ≠ 13 := jb_ne (rfl) ((by decide)) c_43
                      refine lv_iconst (v := 1) hx hb dX14_lineBegin_75 (by decide) ?_
                      refine lv_iadd hx hb dX14_lineBegin_76 ?_
                      refine lv_topi (fun z_44 ez_44 => ?_)
                      have hz_44 : z_44.toInt = v3_3.toInt + 1 := by rw [ez_44]; exact jb_iadd2 (rfl) ((by decide)) (by omega)
                      refine lv_istore_n (lv' := [(3, .int z_44), (0, .ref r0), (1, .int a1), (2, .int a2), (4, .int v4_1)]) hx hb dX14_lineBegin_77 rfl hl (by decide) rfl (fun ls hl => ?_)
                      obtain ⟨z_45, ez_45⟩ : ∃ y : Int32, y = v4_1 + 1 := ⟨_, rfl⟩
                      refine lv_iinc (v := z_45) (lv' := [(4, .int z_45), (3, .int z_44), (0, .ref r0), (1, .int a1), (2, .int a2)]) hx hb dX14_lineBegin_78 hl (k := 4) rfl (by rw [ez_45]; rfl) (by decide) rfl (fun ls hl => ?_)
                      have hz_45 : z_45.toInt = v4_1.toInt + 1 := by rw [ez_45]; exact jb_iadd2 (rfl) (by decide) (by omega)
                      refine lv_goto (tgt := 5) hx hb dX14_lineBegin_81 (by decide) ?_
                      exact L5 z_44 z_45 _ _ hh_3 (by refine ⟨by omega, by omega, by omega, by omega, by omega, ?_⟩; exact (jdL.e1 (by omega) (by omega) (Or.inl (by have h9 := hqz_42; have h8 := hqz_21; have h7 := hqz_39; omega)) (by omega) (by omega)).trans hi_3_3) (by omega) _ (lv_sub hl [2, 3, 4, 1, 0] rfl)
                    · skip
                      have c_43' : z_42.toInt = 13 := jb_ne_n (rfl) ((by decide)) c_43
                      refine lv_iload_n hx hb dX14_lineBegin_54 rfl (lv_at hl 3 rfl) ?_
                      refine lv_iconst (v := 1) hx hb dX14_lineBegin_55 (by decide) ?_
                      refine lv_iadd hx hb dX14_lineBegin_56 ?_
                      refine lv_topi (fun z_46 ez_46 => ?_)
                      have hz_46 : z_46.toInt = v3_3.toInt + 1 := by rw [ez_46]; exact jb_iadd2 (rfl) ((by decide)) (by omega)
                      refine lv_iload_n hx hb dX14_lineBegin_57 rfl (lv_at hl 1 rfl) ?_
                      refine lv_icmp_ge (tgt := 75) hx hb dX14_lineBegin_58 (by decide) (fun c_47 => ?_) (fun c_47 => ?_)
                      · skip
                        have c_47' : z_46.toInt ≥ a1.toInt := jb_ge (rfl) (rfl) c_47
                        refine lv_iconst (v := 1) hx hb dX14_lineBegin_75 (by decide) ?_
                        refine lv_iadd hx hb dX14_lineBegin_76 ?_
                        refine lv_topi (fun z_48 ez_48 => ?_)
                        have hz_48 : z_48.toInt = v3_3.toInt + 1 := by rw [ez_48]; exact jb_iadd2 (rfl) ((by decide)) (by omega)
                        refine lv_istore_n (lv' := [(3, .int z_48), (0, .ref r0), (1, .int a1), (2, .int a2), (4, .int v4_1)]) hx hb dX14_lineBegin_77 rfl hl (by decide) rfl (fun ls hl => ?_)
                        obtain ⟨z_49, ez_49⟩ : ∃ y : Int32, y = v4_1 + 1 := ⟨_, rfl⟩
                        refine lv_iinc (v := z_49) (lv' := [(4, .int z_49), (3, .int z_48), (0, .ref r0), (1, .int a1), (2, .int a2)]) hx hb dX14_lineBegin_78 hl (k := 4) rfl (by rw [ez_49]; rfl) (by decide) rfl (fun ls hl => ?_)
                        have hz_49 : z_49.toInt = v4_1.toInt + 1 := by rw [ez_49]; exact jb_iadd2 (rfl) (by decide) (by omega)
                        refine lv_goto (tgt := 5) hx hb dX14_lineBegin_81 (by decide) ?_
                        exact L5 z_48 z_49 _ _ hh_3 (by refine ⟨by omega, by omega, by omega, by omega, by omega, ?_⟩; exact (jdL.e1 (by omega) (by omega) (Or.inr ⟨by have h9 := hqz_42; omega, fun q => by omega⟩) (by omega) (by omega)).trans hi_3_3) (by omega) _ (lv_sub hl [2, 3, 4, 1, 0] rfl)
                      · skip
                        have c_47' : z_46.toInt < a1.toInt := jb_ge_n (rfl) (rfl) c_47
                        refine lv_aload_n hx hb dX14_lineBegin_61 rfl (lv_at hl 0 rfl) ?_
                        refine lv_iload_n hx hb dX14_lineBegin_62 rfl (lv_at hl 3 rfl) ?_
                        refine lv_iconst (v := 1) hx hb dX14_lineBegin_63 (by decide) ?_
                        refine lv_iadd hx hb dX14_lineBegin_64 ?_
                        refine lv_topi (fun z_50 ez_50 => ?_)
                        have hz_50 : z_50.toInt = v3_3.toInt + 1 := by rw [ez_50]; exact jb_iadd2 (rfl) ((by decide)) (by omega)
                        refine j7_ialdM hx hb hK hh_3 hB194 1 rfl (by decide) hg_r0 (x := z_50.toInt) (rfl) (by omega) (j := 0) rfl dX14_lineBegin_65 (fun z_51 ez_51 (hz_51 : True) => ?_)
                        have hqz_51 : z_51.toInt = jSo f0 ((v3_3.toInt + 1)) := by unfold jSo; rw [ez_51, show z_50.toInt = (v3_3.toInt + 1) by omega]
                        refine lv_bipush (v := 10) hx hb dX14_lineBegin_66 (by decide) ?_
                        refine lv_icmp_ne (tgt := 75) hx hb dX14_lineBegin_68 (by decide) (fun c_52 => ?_) (fun c_52 => ?_)
                        · skip
                          have c_52' : z_51.toInt ≠ 10 := jb_ne (rfl) ((by decide)) c_52
                          refine lv_iconst (v := 1) hx hb dX14_lineBegin_75 (by decide) ?_
                          refine lv_iadd hx hb dX14_lineBegin_76 ?_
                          refine lv_topi (fun z_53 ez_53 => ?_)
                          have hz_53 : z_53.toInt = v3_3.toInt + 1 := by rw [ez_53]; exact jb_iadd2 (rfl) ((by decide)) (by omega)
                          refine lv_istore_n (lv' := [(3, .int z_53), (0, .ref r0), (1, .int a1), (2, .int a2), (4, .int v4_1)]) hx hb dX14_lineBegin_77 rfl hl (by decide) rfl (fun ls hl => ?_)
                          obtain ⟨z_54, ez_54⟩ : ∃ y : Int32, y = v4_1 + 1 := ⟨_, rfl⟩
                          refine lv_iinc (v := z_54) (lv' := [(4, .int z_54), (3, .int z_53), (0, .ref r0), (1, .int a1), (2, .int a2)]) hx hb dX14_lineBegin_78 hl (k := 4) rfl (by rw [ez_54]; rfl) (by decide) rfl (fun ls hl => ?_)
                          have hz_54 : z_54.toInt = v4_1.toInt + 1 := by rw [ez_54]; exact jb_iadd2 (rfl) (by decide) (by omega)
                          refine lv_goto (tgt := 5) hx hb dX14_lineBegin_81 (by decide) ?_
                          exact L5 z_53 z_54 _ _ hh_3 (by refine ⟨by omega, by omega, by omega, by omega, by omega, ?_⟩; exact (jdL.e1 (by omega) (by omega) (Or.inr ⟨by have h9 := hqz_42; omega, fun q => by have h9 := hqz_51; have h8 := q.2; rw [show v3_3.toInt + 1 = z_50.toInt by omega] at h8; omega⟩) (by omega) (by omega)).trans hi_3_3) (by omega) _ (lv_sub hl [2, 3, 4, 1, 0] rfl)
                        · skip
                          have c_52' : z_51.toInt = 10 := jb_ne_n (rfl) ((by decide)) c_52
                          refine lv_iconst (v := 2) hx hb dX14_lineBegin_71 (by decide) ?_
                          refine lv_goto (tgt := 76) hx hb dX14_lineBegin_72 (by decide) ?_
                          refine lv_iadd hx hb dX14_lineBegin_76 ?_
                          refine lv_topi (fun z_55 ez_55 => ?_)
                          have hz_55 : z_55.toInt = v3_3.toInt + 2 := by rw [ez_55]; exact jb_iadd2 (rfl) ((by decide)) (by omega)
                          refine lv_istore_n (lv' := [(3, .int z_55), (0, .ref r0), (1, .int a1), (2, .int a2), (4, .int v4_1)]) hx hb dX14_lineBegin_77 rfl hl (by decide) rfl (fun ls hl => ?_)
                          obtain ⟨z_56, ez_56⟩ : ∃ y : Int32, y = v4_1 + 1 := ⟨_, rfl⟩
                          refine lv_iinc (v := z_56) (lv' := [(4, .int z_56), (3, .int z_55), (0, .ref r0), (1, .int a1), (2, .int a2)]) hx hb dX14_lineBegin_78 hl (k := 4) rfl (by rw [ez_56]; rfl) (by decide) rfl (fun ls hl => ?_)
                          have hz_56 : z_56.toInt = v4_1.toInt + 1 := by rw [ez_56]; exact jb_iadd2 (rfl) (by decide) (by omega)
                          refine lv_goto (tgt := 5) hx hb dX14_lineBegin_81 (by decide) ?_
                          exact L5 z_55 z_56 _ _ hh_3 (by refine ⟨by omega, by omega, by omega, by omega, by omega, ?_⟩; exact (jdL.e2 (by omega) (by have h9 := hqz_42; omega) (by omega) (by have h9 := hqz_51; first | omega | (rw [show v3_3.toInt + 1 = z_50.toInt by omega]; omega)) (by omega) (by omega)).trans hi_3_3) (by omega) _ (lv_sub hl [2, 3, 4, 1, 0] rfl)
                  · skip
                    have c_41' : v3_3.toInt = a1.toInt := jb_ne_n (rfl) (rfl) c_41
                    refine lv_iconst (v := (-1)) hx hb dX14_lineBegin_43 (by decide) ?_
                    rw [hQ]
                    exact W.iret (v := (-1)) hx hb hr (fun t ht hW => ⟨⟨(-1), (), rfl, by refine Or.inr ⟨by omega, ?_⟩; have h9 := hi_3_3; rw [jdL_e (Or.inl (by omega))] at h9; rw [← h9]; dsimp only; omega, hh_3.rt (M1 := []) [] rfl ht⟩, by rw [ht]; try exact hh_3.1.1, fun q h9 hq => by rw [ht]; try exact hh_3.1.2.1 q h9 hq⟩) hh_3.1.2.2 dX14_lineBegin_44
                · skip
                  have c_40' : z_39.toInt ≠ 13 := jb_eq_n (rfl) ((by decide)) c_40
                  obtain ⟨z_57, ez_57⟩ : ∃ y : Int32, y = v3_3 + 1 := ⟨_, rfl⟩
                  refine lv_iinc (v := z_57) (lv' := [(3, .int z_57), (0, .ref r0), (1, .int a1), (2, .int a2), (4, .int v4_1)]) hx hb dX14_lineBegin_32 hl (k := 3) rfl (by rw [ez_57]; rfl) (by decide) rfl (fun ls hl => ?_)
                  have hz_57 : z_57.toInt = v3_3.toInt + 1 := by rw [ez_57]; exact jb_iadd2 (rfl) (by decide) (by omega)
                  refine lv_goto (tgt := 11) hx hb dX14_lineBegin_35 (by decide) ?_
                  exact L11 z_57 _ _ hh_3 (by refine ⟨by omega, by omega, by omega, ?_⟩; exact (jdL.nl (by omega) (by omega) (by have h9 := hqz_21; omega) (by have h9 := hqz_39; omega) (by omega)).trans hi_3_3) (by omega) _ (lv_sub hl [1, 2, 3, 0, 4] rfl)
        exact L11 (a1.toInt - (v3_1 : Int32).toInt : Int).toNat.succ v3_1 _ _ hh_1 (by first | omega | (refine ⟨?_, ?_, ?_, ?_⟩ <;> (first | omega | rfl | assumption | decide | exact Or.inl rfl | exact Or.inr rfl | (simp only; omega)))) (by omega) _ (lv_sub hl [0, 1, 2, 3, 4] rfl)
  exact L5 (a2.toInt - (0 : Int32).toInt : Int).toNat.succ 0 0 _ _ hh (by refine ⟨by omega, by omega, by omega, by omega, by omega, ?_⟩; rw [hk0, Int.sub_zero]) (by omega) _ (lv_sub hl [2, 3, 4, 1, 0] rfl)
set_option maxHeartbeats 4000000 in
set_option maxRecDepth 20000 in
theorem uX14_placeOfV (l : Launch) (dC : Nat → ClassId) (dI : Nat → Nat → Nat) (ca : Nat → ClassId) (base : Nat) (B : jF) (hB : jBok B) (hAp : jAp (dC, dI)) (hB101 : ∀ n G a H, B 101 n G a H ↔ jAr (dC, dI) (ca 1) (fun j z => True) n a H) (hB194 : ∀ n G a H, B 194 n G a H ↔ jAr (dC, dI) (ca 1) (fun j z => True) n a H) (G0 : jT) (H0 : Heap) (r0 : Nat) (a1 : Int32) (a2 : Int32) (a3 : Int32) (n0 : Nat) (f0 : Nat → Int32) : Met l yX14_placeOf (jw yX14_placeOf cX14_placeOf 6 (some .int)) ({ frames := 1, cells := 0, slots := 0, locals := 24 }) (va_Pc [.ref r0, .int a1, .int a2, .int a3] (fun U => U.heap = H0 ∧ jX B base G0 [] H0 ∧ jG dC dI ca base U ∧ G0 r0 = some (194, n0) ∧ jP (dC, dI) G0 H0 [] ∧ jMc (dC, dI) G0 H0 [(r0, 194, n0, ca 1, f0)] ∧ 0 ≤ a1.toInt ∧ a1.toInt ≤ n0 ∧ n0 ≤ 200000 ∧ 0 ≤ a2.toInt ∧ 0 ≤ a3.toInt)) (va_Qi (S := Unit) (fun r u => (-1 ≤ r.toInt ∧ r.toInt ≤ a1.toInt ∧ r.toInt = jdP (jSo f0) a1.toInt a2.toInt a3.toInt)) (fun u t => jRt (dC, dI) B base G0 EX14_placeOfV H0 [] t.heap) (jA base)) 0 0 (jA base) := by
  refine Met.ofW (cc := cX14_placeOf) (maxL := 6) (ret := (some .int)) (by decide) rfl ?_
  intro p e s m args below meth c s₁ Bd hml hv
  obtain ⟨rfl, hH0, hX, hG, hg_r0, hP0, hM0, hp0, hp1, hp2, hp3, hp4⟩ := hv
  have hK := hG.1
  have hx := Bd.exec
  have hb := Bd.bytes
  have hr := Bd.returns
  have hts := atoms_spec (ws := (jw yX14_placeOf cX14_placeOf 6 (some .int))) Bd.pre
  have htw : ∀ w ∈ jWl, w.before _ s = true := fun w h => hts w (List.mem_cons_of_mem _ h)
  have hown : s.vm.findClass RX14 = some m.cls := findClass_of_methodNamed Bd.named
  have hlocks := Bd.notSynchronized
  obtain ⟨Q, hQ⟩ : ∃ Q, Q = MQ below (va_Qi (S := Unit) (fun r u => (-1 ≤ r.toInt ∧ r.toInt ≤ a1.toInt ∧ r.toInt = jdP (jSo f0) a1.toInt a2.toInt a3.toInt)) (fun u t => jRt (dC, dI) B base G0 EX14_placeOfV H0 [] t.heap) (jA base)) ([.ref r0, .int a1, .int a2, .int a3] : List Value).toArray s 0 0 (jA base) := ⟨_, rfl⟩
  rw [← hQ]
  have hl := lv_entry ([.ref r0, .int a1, .int a2, .int a3]) (n := 6) (Nat.le_of_ble_eq_true rfl)
  rw [lg_entry_eq]
  generalize (lg_sl ([.ref r0, .int a1, .int a2, .int a3]) ++ List.replicate (6 - (lg_sl ([.ref r0, .int a1, .int a2, .int a3])).length) Slot.unset).toArray = ls at hl ⊢
  have hl : lv_has ls 6 [(0, .ref r0), (1, .int a1), (2, .int a2), (3, .int a3)] := hl
  generalize hR : (headSpec (jw yX14_placeOf cX14_placeOf 6 (some .int)) ({ frames := 1, cells := 0, slots := 0, locals := 24 })).room = R
  subst hH0
  have hh : jSt (dC, dI) B base G0 G0 EX14_placeOfV s.heap 0 0 [] [(r0, 194, n0, ca 1, f0)] [] s.heap [] := jSt.start hX hP0 hM0 jIs.nil
  clear hX hP0
  have hkm1 : ((-1) : Int32).toInt = (-1) := by decide
  have hk0 : (0 : Int32).toInt = 0 := by decide
  have hk1 : (1 : Int32).toInt = 1 := by decide
  have hk10 : (10 : Int32).toInt = 10 := by decide
  have hk13 : (13 : Int32).toInt = 13 := by decide
  have hrg_a1 := jb_rng a1
  have hrg_a2 := jb_rng a2
  have hrg_a3 := jb_rng a3
  refine lv_aload_n hx hb dX14_placeOf_0 rfl (lv_at hl 0 rfl) ?_
  refine lv_iload_n hx hb dX14_placeOf_1 rfl (lv_at hl 1 rfl) ?_
  refine lv_iload_n hx hb dX14_placeOf_2 rfl (lv_at hl 2 rfl) ?_
  refine va_calli (A0 := jA base) (H0 := s.heap) (va_runS (As := [.ref r0, .int a1, .int a2]) (rest := []) ⟨hx, hb, hml, hown, hts⟩ (uX14_lineBeginV l dC dI ca base B hB hAp hB194 G0 s.heap r0 a1 a2 n0 f0) (va_cwS 3 hts (jgS (jWr_58 _ (List.mem_of_getElem? (i := 20) rfl)) (jWr_58 _ (List.mem_of_getElem? (i := 21) rfl)) (jWr_1 _ (List.mem_of_getElem? (i := 5) rfl)) (jWr_58 _ (List.mem_of_getElem? (i := 22) rfl))) rfl rfl rfl (by decide +kernel) ⟨by rw [← hR]; exact Nat.le_of_ble_eq_true rfl, by rw [← hR]; exact Nat.le_of_ble_eq_true rfl⟩) ⟨fun a U g mk q => by obtain ⟨q0, q1, q2, qK, q10, q11, q12, q13⟩ := q; exact ⟨q0, q1, q2, jG.calling g mk a qK, q10, q11, q12, q13⟩, fun U hU hW => ⟨rfl, hU, hh.2.1, hG.step hW hU hh.1, hg_r0, jP.nil, (hh.2.2.2.2.2.2.2.1.sub (L1 := [(r0, 194, n0, ca 1, f0)]) [0] rfl), by first | omega | (refine ⟨?_, ?_, ?_, ?_⟩ <;> (first | omega | rfl | assumption | decide | exact Or.inl rfl | exact Or.inr rfl | (simp only; omega)))⟩⟩ rfl rfl hl.1 rfl (lv_room (Nat.le_of_ble_eq_true rfl)) dX14_placeOf_3 ⟨Nat.zero_le _, Nat.zero_le _⟩) hh.1 (fun q _ h => h) (fun q h => h) (fun r_2 u_1 t_1 H_1 locs_1 ht_1 hvm_1 hr_2 hb_1 hz_1 hk_1 hS_1 => ?_)
  rw [ht_1] at hb_1
  obtain ⟨hb_11, hb_12, hb_13, hb_14, hb_15⟩ := hb_1
  have hh_1 : jSt (dC, dI) B base G0 G0 EX14_placeOfV s.heap 0 0 [] [(r0, 194, n0, ca 1, f0)] [] H_1 locs_1 := ((hh.call hb_11 hb_12 hb_13 hb_14 hS_1 rfl (L1 := []) [] rfl rfl (M1 := [(r0, 194, n0, ca 1, f0)]) [0] rfl rfl (I1 := []) [] rfl rfl).more hb_15)
  clear hh ht_1 hvm_1 hz_1 hk_1 hS_1 hb_11 hb_12 hb_13 hb_14 hb_15
  have hlb9 := hr_2
  refine lv_istore (lv' := [(4, .int r_2), (0, .ref r0), (1, .int a1), (2, .int a2), (3, .int a3)]) hx hb dX14_placeOf_6 hl (by decide) rfl (fun ls hl => ?_)
  refine lv_iload hx hb dX14_placeOf_8 (lv_at hl 0 rfl) ?_
  refine lv_if_ge (tgt := 15) hx hb dX14_placeOf_10 (by decide) (fun c_3 => ?_) (fun c_3 => ?_)
  · skip
    have c_3' : r_2.toInt ≥ 0 := jb_ge (rfl) ((by decide)) c_3
    first | (have hr_2q := hr_2.resolve_left (by omega); clear hr_2) | (have hr_2q := hr_2.resolve_right (by omega); clear hr_2) | skip
    have hlb8 := hlb9.resolve_right (fun q => by omega)
    refine lv_iload hx hb dX14_placeOf_15 (lv_at hl 0 rfl) ?_
    refine lv_istore (lv' := [(5, .int r_2), (4, .int r_2), (0, .ref r0), (1, .int a1), (2, .int a2), (3, .int a3)]) hx hb dX14_placeOf_17 hl (by decide) rfl (fun ls hl => ?_)
    have L19 : ∀ (N : Nat) (v5_4 : Int32) (kg : Nat) (H_4 : Heap) (locs_4 : List Loc), jSt (dC, dI) B base G0 G0 EX14_placeOfV s.heap 0 0 [] [(r0, 194, n0, ca 1, f0)] [] H_4 locs_4 → (r_2.toInt ≤ v5_4.toInt ∧ v5_4.toInt ≤ a1.toInt ∧ a1.toInt - v5_4.toInt ≤ kg ∧ jdC (jSo f0) a1.toInt r_2.toInt a3.toInt kg v5_4.toInt = jdC (jSo f0) a1.toInt r_2.toInt a3.toInt (a1.toInt).toNat r_2.toInt) → (a1.toInt - v5_4.toInt : Int) < N → ∀ ls : Array Slot, lv_has ls 6 [(0, .ref r0), (1, .int a1), (2, .int a2), (3, .int a3), (4, .int r_2), (5, .int v5_4)] → W p l e R s m ([.ref r0, .int a1, .int a2, .int a3] : List Value).toArray below meth c H_4 locs_4 0 0 Q (F0 m 19 ls []) := by
      intro N
      induction N with
      | zero => intro v5_4 kg H_4 locs_4 hh_4  hi_4 hm; exact absurd hm (by omega)
      | succ N L19 =>
        intro v5_4 kg H_4 locs_4 hh_4  hi_4 hm_4 ls hl
        obtain ⟨hi_4_0, hi_4_1, hi_4_2, hi_4_3⟩ := hi_4
        try clear hr_2
        refine lv_iload hx hb dX14_placeOf_19 (lv_at hl 5 rfl) ?_
        refine lv_iload_n hx hb dX14_placeOf_21 rfl (lv_at hl 1 rfl) ?_
        refine lv_icmp_ge (tgt := 58) hx hb dX14_placeOf_22 (by decide) (fun c_5 => ?_) (fun c_5 => ?_)
        · skip
          have c_5' : v5_4.toInt ≥ a1.toInt := jb_ge (rfl) (rfl) c_5
          refine lv_iload hx hb dX14_placeOf_58 (lv_at hl 5 rfl) ?_
          rw [hQ]
          exact W.iret (v := v5_4) hx hb hr (fun t ht hW => ⟨⟨v5_4, (), rfl, by refine ⟨by omega, by omega, ?_⟩; unfold jdP; rw [if_neg (by omega), hlb8.1, if_neg (by dsimp only; omega)]; exact (jdC_e (Or.inl (by omega))).symm.trans hi_4_3, hh_4.rt (M1 := []) [] rfl ht⟩, by rw [ht]; try exact hh_4.1.1, fun q h9 hq => by rw [ht]; try exact hh_4.1.2.1 q h9 hq⟩) hh_4.1.2.2 dX14_placeOf_60
        · skip
          have c_5' : v5_4.toInt < a1.toInt := jb_ge_n (rfl) (rfl) c_5
          refine lv_iload hx hb dX14_placeOf_25 (lv_at hl 5 rfl) ?_
          refine lv_iload hx hb dX14_placeOf_27 (lv_at hl 4 rfl) ?_
          refine lv_isub hx hb dX14_placeOf_29 ?_
          refine lv_topi (fun z_6 ez_6 => ?_)
          have hz_6 : z_6.toInt = v5_4.toInt - r_2.toInt := by rw [ez_6]; exact jb_isub2 (rfl) (rfl) (by omega)
          refine lv_iload_n hx hb dX14_placeOf_30 rfl (lv_at hl 3 rfl) ?_
          refine lv_icmp_ge (tgt := 58) hx hb dX14_placeOf_31 (by decide) (fun c_7 => ?_) (fun c_7 => ?_)
          · skip
            have c_7' : z_6.toInt ≥ a3.toInt := jb_ge (rfl) (rfl) c_7
            refine lv_iload hx hb dX14_placeOf_58 (lv_at hl 5 rfl) ?_
            rw [hQ]
            exact W.iret (v := v5_4) hx hb hr (fun t ht hW => ⟨⟨v5_4, (), rfl, by refine ⟨by omega, by omega, ?_⟩; unfold jdP; rw [if_neg (by omega), hlb8.1, if_neg (by dsimp only; omega)]; exact (jdC_e (Or.inr (Or.inl (by omega)))).symm.trans hi_4_3, hh_4.rt (M1 := []) [] rfl ht⟩, by rw [ht]; try exact hh_4.1.1, fun q h9 hq => by rw [ht]; try exact hh_4.1.2.1 q h9 hq⟩) hh_4.1.2.2 dX14_placeOf_60
          · skip
            have c_7' : z_6.toInt < a3.toInt := jb_ge_n (rfl) (rfl) c_7
            refine lv_aload_n hx hb dX14_placeOf_34 rfl (lv_at hl 0 rfl) ?_
            refine lv_iload hx hb dX14_placeOf_35 (lv_at hl 5 rfl) ?_
            refine j7_ialdM hx hb hK hh_4 hB194 1 rfl (by decide) hg_r0 (x := v5_4.toInt) (rfl) (by omega) (j := 0) rfl dX14_placeOf_37 (fun z_8 ez_8 (hz_8 : True) => ?_)
            have hqz_8 : z_8.toInt = jSo f0 (v5_4.toInt) := by unfold jSo; rw [ez_8]
            refine lv_bipush (v := 10) hx hb dX14_placeOf_38 (by decide) ?_
            refine lv_icmp_eq (tgt := 58) hx hb dX14_placeOf_40 (by decide) (fun c_9 => ?_) (fun c_9 => ?_)
            · skip
              have c_9' : z_8.toInt = 10 := jb_eq (rfl) ((by decide)) c_9
              refine lv_iload hx hb dX14_placeOf_58 (lv_at hl 5 rfl) ?_
              rw [hQ]
              exact W.iret (v := v5_4) hx hb hr (fun t ht hW => ⟨⟨v5_4, (), rfl, by refine ⟨by omega, by omega, ?_⟩; unfold jdP; rw [if_neg (by omega), hlb8.1, if_neg (by dsimp only; omega)]; exact (jdC_e (Or.inr (Or.inr (Or.inl (by have h9 := hqz_8; omega))))).symm.trans hi_4_3, hh_4.rt (M1 := []) [] rfl ht⟩, by rw [ht]; try exact hh_4.1.1, fun q h9 hq => by rw [ht]; try exact hh_4.1.2.1 q h9 hq⟩) hh_4.1.2.2 dX14_placeOf_60
            · skip
              have c_9' : z_8.toInt ≠ 10 := jb_eq_n (rfl) ((by decide)) c_9
              refine lv_aload_n hx hb dX14_placeOf_43 rfl (lv_at hl 0 rfl) ?_
              refine lv_iload hx hb dX14_placeOf_44 (lv_at hl 5 rfl) ?_
              refine j7_ialdM hx hb hK hh_4 hB194 1 rfl (by decide) hg_r0 (x := v5_4.toInt) (rfl) (by omega) (j := 0) rfl dX14_placeOf_46 (fun z_10 ez_10 (hz_10 : True) => ?_)
              have hqz_10 : z_10.toInt = jSo f0 (v5_4.toInt) := by unfold jSo; rw [ez_10]
              refine lv_bipush (v := 13) hx hb dX14_placeOf_47 (by decide) ?_
              refine lv_icmp_eq (tgt := 58) hx hb dX14_placeOf_49 (by decide) (fun c_11 => ?_) (fun c_11 => ?_)
              · skip
                have c_11' : z_10.toInt = 13 := jb_eq (rfl) ((by decide)) c_11
                refine lv_iload hx hb dX14_placeOf_58 (lv_at hl 5 rfl) ?_
                rw [hQ]
                exact W.iret (v := v5_4) hx hb hr (fun t ht hW => ⟨⟨v5_4, (), rfl, by refine ⟨by omega, by omega, ?_⟩; unfold jdP; rw [if_neg (by omega), hlb8.1, if_neg (by dsimp only; omega)]; exact (jdC_e (Or.inr (Or.inr (Or.inr (by have h9 := hqz_10; omega))))).symm.trans hi_4_3, hh_4.rt (M1 := []) [] rfl ht⟩, by rw [ht]; try exact hh_4.1.1, fun q h9 hq => by rw [ht]; try exact hh_4.1.2.1 q h9 hq⟩) hh_4.1.2.2 dX14_placeOf_60
              · skip
                have c_11' : z_10.toInt ≠ 13 := jb_eq_n (rfl) ((by decide)) c_11
                obtain ⟨z_12, ez_12⟩ : ∃ y : Int32, y = v5_4 + 1 := ⟨_, rfl⟩
                refine lv_iinc (v := z_12) (lv' := [(5, .int z_12), (0, .ref r0), (1, .int a1), (2, .int a2), (3, .int a3), (4, .int r_2)]) hx hb dX14_placeOf_52 hl (k := 5) rfl (by rw [ez_12]; rfl) (by decide) rfl (fun ls hl => ?_)
                have hz_12 : z_12.toInt = v5_4.toInt + 1 := by rw [ez_12]; exact jb_iadd2 (rfl) (by decide) (by omega)
                refine lv_goto (tgt := 19) hx hb dX14_placeOf_55 (by decide) ?_
                exact L19 z_12 (kg - 1) _ _ hh_4 (by refine ⟨by omega, by omega, by omega, ?_⟩; exact (jdC_s (by omega) (by omega) (by have h9 := hqz_8; omega) (by have h9 := hqz_10; omega) (by omega) (by omega)).trans hi_4_3) (by omega) _ (lv_sub hl [1, 2, 3, 4, 5, 0] rfl)
    exact L19 (a1.toInt - (r_2 : Int32).toInt : Int).toNat.succ r_2 ((a1.toInt).toNat) _ _ hh_1 (by refine ⟨by omega, by omega, by omega, rfl⟩) (by omega) _ (lv_sub hl [2, 3, 4, 5, 1, 0] rfl)
  · skip
    have c_3' : r_2.toInt < 0 := jb_ge_n (rfl) ((by decide)) c_3
    first | (have hr_2q := hr_2.resolve_left (by omega); clear hr_2) | (have hr_2q := hr_2.resolve_right (by omega); clear hr_2) | skip
    refine lv_iconst (v := (-1)) hx hb dX14_placeOf_13 (by decide) ?_
    rw [hQ]
    exact W.iret (v := (-1)) hx hb hr (fun t ht hW => ⟨⟨(-1), (), rfl, by refine ⟨by omega, by omega, ?_⟩; unfold jdP; have h9 := hlb9.resolve_left (fun q => by omega); rw [if_neg (by omega), if_pos h9.2]; exact hkm1, hh_1.rt (M1 := []) [] rfl ht⟩, by rw [ht]; try exact hh_1.1.1, fun q h9 hq => by rw [ht]; try exact hh_1.1.2.1 q h9 hq⟩) hh_1.1.2.2 dX14_placeOf_14
set_option maxHeartbeats 4000000 in
set_option maxRecDepth 20000 in
theorem uX14_takeIdW (l : Launch) (dC : Nat → ClassId) (dI : Nat → Nat → Nat) (ca : Nat → ClassId) (base : Nat) (B : jF) (hB : jBok B) (hAp : jAp (dC, dI)) (hB16 : ∀ n G a H, B 16 n G a H ↔ jOb (dC, dI) 16 74 (F16 n G) a H) (hB101 : ∀ n G a H, B 101 n G a H ↔ jAr (dC, dI) (ca 1) (fun j z => True) n a H) (hB117 : ∀ n G a H, B 117 n G a H ↔ jAr (dC, dI) (ca 1) (fun j z => True) n a H) (hB122 : ∀ n G a H, B 122 n G a H ↔ jAr (dC, dI) (ca 1) (fun j z => 0 ≤ z.toInt ∧ z.toInt ≤ 3100) n a H) (hB123 : ∀ n G a H, B 123 n G a H ↔ jAr (dC, dI) (ca 1) (fun j z => 0 ≤ z.toInt ∧ z.toInt ≤ 3100) n a H) (hB125 : ∀ n G a H, B 125 n G a H ↔ jAr (dC, dI) (ca 1) (fun j z => True) n a H) (hB127 : ∀ n G a H, B 127 n G a H ↔ jAr (dC, dI) (ca 1) (fun j z => True) n a H) (G0 : jT) (H0 : Heap) (r0 : Nat) (a1 : Int32) (zm : Nat) (xh : Nat) (xn : Nat) (xf : Nat) (xt : Nat) (xb : Nat) (xe : Nat) (xi : Nat) (xg : Nat) (xp : Nat) (yi : Nat) (T9 : Nat → Int → Int) (nd9 po9 : Int) (ms : Nat → Int32) (mh : Nat → Int32) (mx : Nat → Int32) (mf : Nat → Int32) (mt : Nat → Int32) (mb : Nat → Int32) (me : Nat → Int32) (mi : Nat → Int32) (mn : Nat → Int32) (fu : Nat → Int32) (fi : Nat → Int32) : Met l yX14_takeId (jw yX14_takeId cX14_takeId 3 none) ({ frames := 0, cells := 0, slots := 0, locals := 0 }) (va_Pc [.ref r0, .int a1] (fun U => U.heap = H0 ∧ jX B base G0 [] H0 ∧ jG dC dI ca base U ∧ G0 r0 = some (16, 0) ∧ G0 zm = some (117, 3100) ∧ G0 xh = some (118, 3100) ∧ G0 xn = some (119, 3100) ∧ G0 xf = some (120, 3100) ∧ G0 xt = some (121, 3100) ∧ G0 xb = some (122, 3100) ∧ G0 xe = some (123, 3100) ∧ G0 xi = some (124, 3100) ∧ G0 xg = some (125, 3100) ∧ G0 xp = some (127, 3300) ∧ G0 yi = some (101, 20) ∧ jP (dC, dI) G0 H0 [(r0, 16, 17, .ref zm), (r0, 16, 18, .ref xh), (r0, 16, 19, .ref xn), (r0, 16, 20, .ref xf), (r0, 16, 21, .ref xt), (r0, 16, 22, .ref xb), (r0, 16, 23, .ref xe), (r0, 16, 24, .ref xi), (r0, 16, 25, .ref xg), (r0, 16, 27, .ref xp), (r0, 16, 38, .ref yi)] ∧ jMc (dC, dI) G0 H0 [(zm, 117, 3100, ca 1, ms), (xh, 118, 3100, ca 1, mh), (xn, 119, 3100, ca 1, mx), (xf, 120, 3100, ca 1, mf), (xt, 121, 3100, ca 1, mt), (xb, 122, 3100, ca 1, mb), (xe, 123, 3100, ca 1, me), (xi, 124, 3100, ca 3, mi), (xg, 125, 3100, ca 1, mn), (xp, 127, 3300, ca 1, fu), (yi, 101, 20, ca 1, fi)] ∧ 0 ≤ nd9 ∧ nd9 ≤ 3100 ∧ jjRB T9 nd9 po9 ms mh mx mf mt mb me mi mn fu ∧ a1.toInt < nd9 ∧ (0 ≤ a1.toInt → (jqK T9 nd9 a1.toInt = 4 ∨ (jqK T9 nd9 a1.toInt = 3 ∧ T9 3 a1.toInt ≤ 20))))) (va_Qv (S := Int32 × Int32 × Int32 × (Nat → Int32)) (fun u => (0 ≤ a1.toInt → (0 ≤ u.2.2.1.toInt ∧ u.2.2.1.toInt ≤ 20 ∧ 0 ≤ u.1.toInt ∧ u.1.toInt ≤ 1 ∧ jwIe u.1.toInt u.2.1.toInt u.2.2.2 u.2.2.1.toInt = jwId T9 nd9 a1.toInt))) (fun u t => jRt (dC, dI) B base G0 EX14_takeIdW H0 [(r0, 16, 36, .int u.1), (r0, 16, 37, .int u.2.1), (r0, 16, 39, .int u.2.2.1)] t.heap ∧ jMc (dC, dI) G0 t.heap [(yi, 101, 20, ca 1, u.2.2.2)]) (jA base)) 0 0 (jA base) := by
  refine Met.ofW (cc := cX14_takeId) (maxL := 3) (ret := none) (by decide) rfl ?_
  intro p e s m args below meth c s₁ Bd hml hv
  obtain ⟨rfl, hH0, hX, hG, hg_r0, hg_zm, hg_xh, hg_xn, hg_xf, hg_xt, hg_xb, hg_xe, hg_xi, hg_xg, hg_xp, hg_yi, hP0, hM0, hp0, hp1, hp2, hp3, hp4⟩ := hv
  have hK := hG.1
  have hx := Bd.exec
  have hb := Bd.bytes
  have hr := Bd.returns
  have hts := atoms_spec (ws := (jw yX14_takeId cX14_takeId 3 none)) Bd.pre
  have htw : ∀ w ∈ jWl, w.before _ s = true := fun w h => hts w (List.mem_cons_of_mem _ h)
  have hown : s.vm.findClass RX14 = some m.cls := findClass_of_methodNamed Bd.named
  have hlocks := Bd.notSynchronized
  obtain ⟨Q, hQ⟩ : ∃ Q, Q = MQ below (va_Qv (S := Int32 × Int32 × Int32 × (Nat → Int32)) (fun u => (0 ≤ a1.toInt → (0 ≤ u.2.2.1.toInt ∧ u.2.2.1.toInt ≤ 20 ∧ 0 ≤ u.1.toInt ∧ u.1.toInt ≤ 1 ∧ jwIe u.1.toInt u.2.1.toInt u.2.2.2 u.2.2.1.toInt = jwId T9 nd9 a1.toInt))) (fun u t => jRt (dC, dI) B base G0 EX14_takeIdW H0 [(r0, 16, 36, .int u.1), (r0, 16, 37, .int u.2.1), (r0, 16, 39, .int u.2.2.1)] t.heap ∧ jMc (dC, dI) G0 t.heap [(yi, 101, 20, ca 1, u.2.2.2)]) (jA base)) ([.ref r0, .int a1] : List Value).toArray s 0 0 (jA base) := ⟨_, rfl⟩
  rw [← hQ]
  have hl := lv_entry ([.ref r0, .int a1]) (n := 3) (Nat.le_of_ble_eq_true rfl)
  rw [lg_entry_eq]
  generalize (lg_sl ([.ref r0, .int a1]) ++ List.replicate (3 - (lg_sl ([.ref r0, .int a1])).length) Slot.unset).toArray = ls at hl ⊢
  have hl : lv_has ls 3 [(0, .ref r0), (1, .int a1)] := hl
  generalize hR : (headSpec (jw yX14_takeId cX14_takeId 3 none) ({ frames := 0, cells := 0, slots := 0, locals := 0 })).room = R
  subst hH0
  have hh : jSt (dC, dI) B base G0 G0 EX14_takeIdW s.heap 0 0 [(r0, 16, 17, .ref zm), (r0, 16, 18, .ref xh), (r0, 16, 19, .ref xn), (r0, 16, 20, .ref xf), (r0, 16, 21, .ref xt), (r0, 16, 22, .ref xb), (r0, 16, 23, .ref xe), (r0, 16, 24, .ref xi), (r0, 16, 25, .ref xg), (r0, 16, 27, .ref xp), (r0, 16, 38, .ref yi)] [(zm, 117, 3100, ca 1, ms), (xh, 118, 3100, ca 1, mh), (xn, 119, 3100, ca 1, mx), (xf, 120, 3100, ca 1, mf), (xt, 121, 3100, ca 1, mt), (xb, 122, 3100, ca 1, mb), (xe, 123, 3100, ca 1, me), (xi, 124, 3100, ca 3, mi), (xg, 125, 3100, ca 1, mn), (xp, 127, 3300, ca 1, fu), (yi, 101, 20, ca 1, fi)] [] s.heap [] := jSt.start hX hP0 hM0 jIs.nil
  clear hX hP0
  have hk0 : (0 : Int32).toInt = 0 := by decide
  have hk1 : (1 : Int32).toInt = 1 := by decide
  have hk4 : (4 : Int32).toInt = 4 := by decide
  have hly_16_17 := htw (u_lay RX14 TX14 17) (jWc_wsX140 _ (u_in_lay (by decide)))
  have hly_16_22 := htw (u_lay RX14 TX14 22) (jWc_wsX140 _ (u_in_lay (by decide)))
  have hly_16_23 := htw (u_lay RX14 TX14 23) (jWc_wsX140 _ (u_in_lay (by decide)))
  have hly_16_25 := htw (u_lay RX14 TX14 25) (jWc_wsX140 _ (u_in_lay (by decide)))
  have hly_16_27 := htw (u_lay RX14 TX14 27) (jWc_wsX140 _ (u_in_lay (by decide)))
  have hly_16_36 := htw (u_lay RX14 TX14 36) (jWc_wsX140 _ (u_in_lay (by decide)))
  have hly_16_37 := htw (u_lay RX14 TX14 37) (jWc_wsX140 _ (u_in_lay (by decide)))
  have hly_16_38 := htw (u_lay RX14 TX14 38) (jWc_wsX140 _ (u_in_lay (by decide)))
  have hly_16_39 := htw (u_lay RX14 TX14 39) (jWc_wsX140 _ (u_in_lay (by decide)))
  have hly_16_40 := htw (u_lay RX14 TX14 40) (jWc_wsX140 _ (u_in_lay (by decide)))
  have hlk_374 := (htw (.fieldLink RX14 374 "ProofServerModel" "idNull" "Z") (jWr_50 _ (List.mem_of_getElem? (i := 10) rfl)))
  have hlk_37 := (htw (.fieldLink RX14 37 "ProofServerModel" "sort" "[I") (jWr_11 _ (List.mem_of_getElem? (i := 4) rfl)))
  have hlk_377 := (htw (.fieldLink RX14 377 "ProofServerModel" "idString" "Z") (jWr_53 _ (List.mem_of_getElem? (i := 19) rfl)))
  have hlk_62 := (htw (.fieldLink RX14 62 "ProofServerModel" "ints" "[I") (jWr_11 _ (List.mem_of_getElem? (i := 13) rfl)))
  have hlk_380 := (htw (.fieldLink RX14 380 "ProofServerModel" "idInt" "I") (jWr_53 _ (List.mem_of_getElem? (i := 21) rfl)))
  have hlk_55 := (htw (.fieldLink RX14 55 "ProofServerModel" "to" "[I") (jWr_11 _ (List.mem_of_getElem? (i := 10) rfl)))
  have hlk_52 := (htw (.fieldLink RX14 52 "ProofServerModel" "from" "[I") (jWr_11 _ (List.mem_of_getElem? (i := 9) rfl)))
  have hlk_383 := (htw (.fieldLink RX14 383 "ProofServerModel" "idLength" "I") (jWr_53 _ (List.mem_of_getElem? (i := 20) rfl)))
  have hlk_68 := (htw (.fieldLink RX14 68 "ProofServerModel" "idUnits" "[I") (jWr_11 _ (List.mem_of_getElem? (i := 15) rfl)))
  have hlk_65 := (htw (.fieldLink RX14 65 "ProofServerModel" "pool" "[I") (jWr_11 _ (List.mem_of_getElem? (i := 14) rfl)))
  have hrg_a1 := jb_rng a1
  refine lv_aload_n hx hb dX14_takeId_0 rfl (lv_at hl 0 rfl) ?_
  refine lv_iload_n hx hb dX14_takeId_1 rfl (lv_at hl 1 rfl) ?_
  refine lv_if_ge (tgt := 9) hx hb dX14_takeId_2 (by decide) (fun c_1 => ?_) (fun c_1 => ?_)
  · skip
    have c_1' : a1.toInt ≥ 0 := jb_ge (rfl) ((by decide)) c_1
    refine lv_iconst (v := 0) hx hb dX14_takeId_9 (by decide) ?_
    refine j7_put hx hb hown hK hh hB hAp hB16 (C := RX14) (T := TX14) (N := 74) rfl (by decide) hg_r0 (i := 40) (by decide) hly_16_40 rfl hlk_374 rfl (ty := .boolean) (v := .int 0) (by decide +kernel) (jb_nz (Or.inl rfl)) (jb_fz (Or.inl rfl)) (⟨_, rfl, (Or.inl rfl)⟩) rfl (L1 := [(r0, 16, 17, .ref zm), (r0, 16, 18, .ref xh), (r0, 16, 19, .ref xn), (r0, 16, 20, .ref xf), (r0, 16, 21, .ref xt), (r0, 16, 22, .ref xb), (r0, 16, 23, .ref xe), (r0, 16, 24, .ref xi), (r0, 16, 25, .ref xg), (r0, 16, 27, .ref xp), (r0, 16, 38, .ref yi)]) [0, 1, 2, 3, 4, 5, 6, 7, 8, 9, 10] rfl rfl rfl dX14_takeId_10 (fun H_2 locs_2 hh_2 => ?_)
    clear hh
    refine lv_iload_n hx hb dX14_takeId_13 rfl (lv_at hl 1 rfl) ?_
    refine lv_if_ge (tgt := 18) hx hb dX14_takeId_14 (by decide) (fun c_3 => ?_) (fun c_3 => ?_)
    · skip
      have c_3' : a1.toInt ≥ 0 := jb_ge (rfl) ((by decide)) c_3
      have hid9 := hp4 (by omega)
      have hsr9 := hp2.str (a := a1.toInt) (by omega) (by omega)
      refine lv_aload_n hx hb dX14_takeId_18 rfl (lv_at hl 0 rfl) ?_
      refine lv_aload_n hx hb dX14_takeId_19 rfl (lv_at hl 0 rfl) ?_
      refine j7_read hx hb hown hK (C := RX14) (T := TX14) (N := 74) rfl hly_16_17 hlk_37 (hh_2.at 1 rfl) dX14_takeId_20 ?_
      refine lv_iload_n hx hb dX14_takeId_23 rfl (lv_at hl 1 rfl) ?_
      refine j7_ialdM hx hb hK hh_2 hB117 1 rfl (by decide) hg_zm (x := a1.toInt) (rfl) (by omega) (j := 0) rfl dX14_takeId_24 (fun z_4 ez_4 (hz_4 : True) => ?_)
      have hqz_4 : z_4.toInt = jSo ms (a1.toInt) := by unfold jSo; rw [ez_4]
      refine lv_iconst (v := 4) hx hb dX14_takeId_25 (by decide) ?_
      refine lv_icmp_ne (tgt := 33) hx hb dX14_takeId_26 (by decide) (fun c_5 => ?_) (fun c_5 => ?_)
      · skip
        have c_5' : z_4.toInt ≠ 4 := jb_ne (rfl) ((by decide)) c_5
        have hn3 : jqK T9 nd9 a1.toInt ≠ 3 := (hsr9.resolve_left (fun q => by have h9 := hqz_4; have q1 := q.1; omega)).2
        have hwh9 := (hp2.whl (a := a1.toInt) (by omega) (by omega)).resolve_right (fun q => q.2 (hid9.resolve_right (fun z => hn3 z.1)))
        refine lv_iconst (v := 0) hx hb dX14_takeId_33 (by decide) ?_
        refine j7_put hx hb hown hK hh_2 hB hAp hB16 (C := RX14) (T := TX14) (N := 74) rfl (by decide) hg_r0 (i := 36) (by decide) hly_16_36 rfl hlk_377 rfl (ty := .boolean) (v := .int 0) (by decide +kernel) (jb_nz (Or.inl rfl)) (jb_fz (Or.inl rfl)) (⟨_, rfl, (Or.inl rfl)⟩) rfl (L1 := [(r0, 16, 40, .int 0), (r0, 16, 17, .ref zm), (r0, 16, 18, .ref xh), (r0, 16, 19, .ref xn), (r0, 16, 20, .ref xf), (r0, 16, 21, .ref xt), (r0, 16, 22, .ref xb), (r0, 16, 23, .ref xe), (r0, 16, 24, .ref xi), (r0, 16, 25, .ref xg), (r0, 16, 27, .ref xp), (r0, 16, 38, .ref yi)]) [0, 1, 2, 3, 4, 5, 6, 7, 8, 9, 10, 11] rfl rfl rfl dX14_takeId_34 (fun H_6 locs_6 hh_6 => ?_)
        clear hh_2
        refine lv_aload_n hx hb dX14_takeId_37 rfl (lv_at hl 0 rfl) ?_
        refine lv_aload_n hx hb dX14_takeId_38 rfl (lv_at hl 0 rfl) ?_
        refine j7_read hx hb hown hK (C := RX14) (T := TX14) (N := 74) rfl hly_16_36 hlk_377 (hh_6.at 0 rfl) dX14_takeId_39 ?_
        refine lv_if_eq (tgt := 49) hx hb dX14_takeId_42 (by decide) (fun c_7 => ?_) (fun c_7 => ?_)
        · skip
          refine lv_aload_n hx hb dX14_takeId_49 rfl (lv_at hl 0 rfl) ?_
          refine j7_read hx hb hown hK (C := RX14) (T := TX14) (N := 74) rfl hly_16_25 hlk_62 (hh_6.at 10 rfl) dX14_takeId_50 ?_
          refine lv_iload_n hx hb dX14_takeId_53 rfl (lv_at hl 1 rfl) ?_
          refine j7_ialdM hx hb hK hh_6 hB125 1 rfl (by decide) hg_xg (x := a1.toInt) (rfl) (by omega) (j := 8) rfl dX14_takeId_54 (fun z_8 ez_8 (hz_8 : True) => ?_)
          have hqz_8 : z_8.toInt = jSo mn (a1.toInt) := by unfold jSo; rw [ez_8]
          refine j7_put hx hb hown hK hh_6 hB hAp hB16 (C := RX14) (T := TX14) (N := 74) rfl (by decide) hg_r0 (i := 37) (by decide) hly_16_37 rfl hlk_380 rfl (ty := .int) (v := .int z_8) (by decide +kernel) rfl rfl (⟨_, rfl⟩) rfl (L1 := [(r0, 16, 36, .int 0), (r0, 16, 40, .int 0), (r0, 16, 17, .ref zm), (r0, 16, 18, .ref xh), (r0, 16, 19, .ref xn), (r0, 16, 20, .ref xf), (r0, 16, 21, .ref xt), (r0, 16, 22, .ref xb), (r0, 16, 23, .ref xe), (r0, 16, 24, .ref xi), (r0, 16, 25, .ref xg), (r0, 16, 27, .ref xp), (r0, 16, 38, .ref yi)]) [0, 1, 2, 3, 4, 5, 6, 7, 8, 9, 10, 11, 12] rfl rfl rfl dX14_takeId_55 (fun H_9 locs_9 hh_9 => ?_)
          clear hh_6
          refine lv_aload_n hx hb dX14_takeId_58 rfl (lv_at hl 0 rfl) ?_
          refine lv_aload_n hx hb dX14_takeId_59 rfl (lv_at hl 0 rfl) ?_
          refine j7_read hx hb hown hK (C := RX14) (T := TX14) (N := 74) rfl hly_16_36 hlk_377 (hh_9.at 1 rfl) dX14_takeId_60 ?_
          refine lv_if_eq (tgt := 82) hx hb dX14_takeId_63 (by decide) (fun c_10 => ?_) (fun c_10 => ?_)
          · skip
            refine lv_iconst (v := 0) hx hb dX14_takeId_82 (by decide) ?_
            refine j7_put hx hb hown hK hh_9 hB hAp hB16 (C := RX14) (T := TX14) (N := 74) rfl (by decide) hg_r0 (i := 39) (by decide) hly_16_39 rfl hlk_383 rfl (ty := .int) (v := .int 0) (by decide +kernel) rfl rfl (⟨_, rfl, by omega, by omega⟩) rfl (L1 := [(r0, 16, 37, .int z_8), (r0, 16, 36, .int 0), (r0, 16, 40, .int 0), (r0, 16, 17, .ref zm), (r0, 16, 18, .ref xh), (r0, 16, 19, .ref xn), (r0, 16, 20, .ref xf), (r0, 16, 21, .ref xt), (r0, 16, 22, .ref xb), (r0, 16, 23, .ref xe), (r0, 16, 24, .ref xi), (r0, 16, 25, .ref xg), (r0, 16, 27, .ref xp), (r0, 16, 38, .ref yi)]) [0, 1, 2, 3, 4, 5, 6, 7, 8, 9, 10, 11, 12, 13] rfl rfl rfl dX14_takeId_83 (fun H_11 locs_11 hh_11 => ?_)
            clear hh_9
            refine lv_iconst (v := 0) hx hb dX14_takeId_86 (by decide) ?_
            refine lv_istore_n (lv' := [(2, .int 0), (0, .ref r0), (1, .int a1)]) hx hb dX14_takeId_87 rfl hl (by decide) rfl (fun ls hl => ?_)
            have L88 : ∀ (N : Nat) (v2_12 : Int32) (fi_12 : Nat → Int32) (H_12 : Heap) (locs_12 : List Loc), jSt (dC, dI) B base G0 G0 EX14_takeIdW s.heap 0 0 [(r0, 16, 39, .int 0), (r0, 16, 37, .int z_8), (r0, 16, 36, .int 0), (r0, 16, 40, .int 0), (r0, 16, 17, .ref zm), (r0, 16, 18, .ref xh), (r0, 16, 19, .ref xn), (r0, 16, 20, .ref xf), (r0, 16, 21, .ref xt), (r0, 16, 22, .ref xb), (r0, 16, 23, .ref xe), (r0, 16, 24, .ref xi), (r0, 16, 25, .ref xg), (r0, 16, 27, .ref xp), (r0, 16, 38, .ref yi)] [(yi, 101, 20, ca 1, fi_12), (zm, 117, 3100, ca 1, ms), (xh, 118, 3100, ca 1, mh), (xn, 119, 3100, ca 1, mx), (xf, 120, 3100, ca 1, mf), (xt, 121, 3100, ca 1, mt), (xb, 122, 3100, ca 1, mb), (xe, 123, 3100, ca 1, me), (xi, 124, 3100, ca 3, mi), (xg, 125, 3100, ca 1, mn), (xp, 127, 3300, ca 1, fu)] [] H_12 locs_12 → (0 ≤ v2_12.toInt ∧ v2_12.toInt ≤ 20 ∧ (0 < v2_12.toInt → jqK T9 nd9 a1.toInt = 3) ∧ (∀ j : Int, 0 ≤ j → j < v2_12.toInt → jSo fi_12 j = jqA T9 nd9 a1.toInt j)) → (20 - v2_12.toInt : Int) < N → ∀ ls : Array Slot, lv_has ls 3 [(0, .ref r0), (1, .int a1), (2, .int v2_12)] → W p l e R s m ([.ref r0, .int a1] : List Value).toArray below meth c H_12 locs_12 0 0 Q (F0 m 88 ls []) := by
              intro N
              induction N with
              | zero => intro v2_12 fi_12 H_12 locs_12 hh_12  hi_12 hm; exact absurd hm (by omega)
              | succ N L88 =>
                intro v2_12 fi_12 H_12 locs_12 hh_12  hi_12 hm_12 ls hl
                obtain ⟨hi_12_0, hi_12_1, hi_12_2, hi_12_3⟩ := hi_12
                refine lv_iload_n hx hb dX14_takeId_88 rfl (lv_at hl 2 rfl) ?_
                refine lv_aload_n hx hb dX14_takeId_89 rfl (lv_at hl 0 rfl) ?_
                refine j7_read hx hb hown hK (C := RX14) (T := TX14) (N := 74) rfl hly_16_39 hlk_383 (hh_12.at 0 rfl) dX14_takeId_90 ?_
                refine lv_icmp_ge (tgt := 121) hx hb dX14_takeId_93 (by decide) (fun c_13 => ?_) (fun c_13 => ?_)
                · skip
                  have c_13' : v2_12.toInt ≥ 0 := jb_ge (rfl) ((by decide)) c_13
                  rw [hQ]
                  exact W.vret hx hb hr (fun t ht hW => ⟨⟨(0, z_8, 0, fi_12), rfl, by (try dsimp only); skip; (try dsimp only); exact fun _ => ⟨by omega, by omega, by omega, by omega, jwIe.of (Or.inr ⟨by omega, hn3, by have h1 := hqz_8; have h2 := hwh9.2.2.2; omega⟩)⟩, ⟨hh_12.rt (M1 := [(r0, 16, 36, .int 0), (r0, 16, 37, .int z_8), (r0, 16, 39, .int 0)]) [2, 1, 0] rfl ht, by rw [ht]; exact hh_12.2.2.2.2.2.2.2.1.sub [0] rfl⟩⟩, by rw [ht]; try exact hh_12.1.1, fun q h9 hq => by rw [ht]; try exact hh_12.1.2.1 q h9 hq⟩) hh_12.1.2.2 dX14_takeId_121
                · skip
                  have c_13' : v2_12.toInt < 0 := jb_ge_n (rfl) ((by decide)) c_13
                  exact (by omega : False).elim
            exact L88 (20 - (0 : Int32).toInt : Int).toNat.succ 0 fi _ _ (hh_11.sub (L1 := [(r0, 16, 39, .int 0), (r0, 16, 37, .int z_8), (r0, 16, 36, .int 0), (r0, 16, 40, .int 0), (r0, 16, 17, .ref zm), (r0, 16, 18, .ref xh), (r0, 16, 19, .ref xn), (r0, 16, 20, .ref xf), (r0, 16, 21, .ref xt), (r0, 16, 22, .ref xb), (r0, 16, 23, .ref xe), (r0, 16, 24, .ref xi), (r0, 16, 25, .ref xg), (r0, 16, 27, .ref xp), (r0, 16, 38, .ref yi)]) [0, 1, 2, 3, 4, 5, 6, 7, 8, 9, 10, 11, 12, 13, 14] rfl (M1 := [(yi, 101, 20, ca 1, fi), (zm, 117, 3100, ca 1, ms), (xh, 118, 3100, ca 1, mh), (xn, 119, 3100, ca 1, mx), (xf, 120, 3100, ca 1, mf), (xt, 121, 3100, ca 1, mt), (xb, 122, 3100, ca 1, mb), (xe, 123, 3100, ca 1, me), (xi, 124, 3100, ca 3, mi), (xg, 125, 3100, ca 1, mn), (xp, 127, 3300, ca 1, fu)]) [10, 0, 1, 2, 3, 4, 5, 6, 7, 8, 9] rfl (I1 := []) [] rfl) (⟨by omega, by omega, fun q9 => by have h9 := hk0; omega, fun j h0 h1 => by have h9 := hk0; omega⟩) (by omega) _ (lv_sub hl [1, 2, 0] rfl)
          · skip
            exact absurd c_10 (by decide)
        · skip
          exact absurd c_7 (by decide)
      · skip
        have c_5' : z_4.toInt = 4 := jb_ne_n (rfl) ((by decide)) c_5
        have hk3 : jqK T9 nd9 a1.toInt = 3 := (hsr9.resolve_right (fun q => q.1 (by have h9 := hqz_4; omega))).2.1
        have hst9 := hsr9.resolve_right (fun q => q.2 hk3)
        have h209 := (hid9.resolve_left (fun q => by omega)).2
        have hbr9 := hp2.2.2.2.2.2.1 a1.toInt (by omega) (by omega) (by rw [← (jqK.p (T := T9) (v := nd9) (i := a1.toInt) (by omega)).2.2]; exact hk3)
        refine lv_iconst (v := 1) hx hb dX14_takeId_29 (by decide) ?_
        refine lv_goto (tgt := 34) hx hb dX14_takeId_30 (by decide) ?_
        refine j7_put hx hb hown hK hh_2 hB hAp hB16 (C := RX14) (T := TX14) (N := 74) rfl (by decide) hg_r0 (i := 36) (by decide) hly_16_36 rfl hlk_377 rfl (ty := .boolean) (v := .int 1) (by decide +kernel) (jb_nz (Or.inr rfl)) (jb_fz (Or.inr rfl)) (⟨_, rfl, (Or.inr rfl)⟩) rfl (L1 := [(r0, 16, 40, .int 0), (r0, 16, 17, .ref zm), (r0, 16, 18, .ref xh), (r0, 16, 19, .ref xn), (r0, 16, 20, .ref xf), (r0, 16, 21, .ref xt), (r0, 16, 22, .ref xb), (r0, 16, 23, .ref xe), (r0, 16, 24, .ref xi), (r0, 16, 25, .ref xg), (r0, 16, 27, .ref xp), (r0, 16, 38, .ref yi)]) [0, 1, 2, 3, 4, 5, 6, 7, 8, 9, 10, 11] rfl rfl rfl dX14_takeId_34 (fun H_14 locs_14 hh_14 => ?_)
        clear hh_2
        refine lv_aload_n hx hb dX14_takeId_37 rfl (lv_at hl 0 rfl) ?_
        refine lv_aload_n hx hb dX14_takeId_38 rfl (lv_at hl 0 rfl) ?_
        refine j7_read hx hb hown hK (C := RX14) (T := TX14) (N := 74) rfl hly_16_36 hlk_377 (hh_14.at 0 rfl) dX14_takeId_39 ?_
        refine lv_if_eq (tgt := 49) hx hb dX14_takeId_42 (by decide) (fun c_15 => ?_) (fun c_15 => ?_)
        · skip
          exact absurd c_15 (by decide)
        · skip
          refine lv_iconst (v := 0) hx hb dX14_takeId_45 (by decide) ?_
          refine lv_goto (tgt := 55) hx hb dX14_takeId_46 (by decide) ?_
          refine j7_put hx hb hown hK hh_14 hB hAp hB16 (C := RX14) (T := TX14) (N := 74) rfl (by decide) hg_r0 (i := 37) (by decide) hly_16_37 rfl hlk_380 rfl (ty := .int) (v := .int 0) (by decide +kernel) rfl rfl (⟨_, rfl⟩) rfl (L1 := [(r0, 16, 36, .int 1), (r0, 16, 40, .int 0), (r0, 16, 17, .ref zm), (r0, 16, 18, .ref xh), (r0, 16, 19, .ref xn), (r0, 16, 20, .ref xf), (r0, 16, 21, .ref xt), (r0, 16, 22, .ref xb), (r0, 16, 23, .ref xe), (r0, 16, 24, .ref xi), (r0, 16, 25, .ref xg), (r0, 16, 27, .ref xp), (r0, 16, 38, .ref yi)]) [0, 1, 2, 3, 4, 5, 6, 7, 8, 9, 10, 11, 12] rfl rfl rfl dX14_takeId_55 (fun H_16 locs_16 hh_16 => ?_)
          clear hh_14
          refine lv_aload_n hx hb dX14_takeId_58 rfl (lv_at hl 0 rfl) ?_
          refine lv_aload_n hx hb dX14_takeId_59 rfl (lv_at hl 0 rfl) ?_
          refine j7_read hx hb hown hK (C := RX14) (T := TX14) (N := 74) rfl hly_16_36 hlk_377 (hh_16.at 1 rfl) dX14_takeId_60 ?_
          refine lv_if_eq (tgt := 82) hx hb dX14_takeId_63 (by decide) (fun c_17 => ?_) (fun c_17 => ?_)
          · skip
            exact absurd c_17 (by decide)
          · skip
            refine lv_aload_n hx hb dX14_takeId_66 rfl (lv_at hl 0 rfl) ?_
            refine j7_read hx hb hown hK (C := RX14) (T := TX14) (N := 74) rfl hly_16_23 hlk_55 (hh_16.at 9 rfl) dX14_takeId_67 ?_
            refine lv_iload_n hx hb dX14_takeId_70 rfl (lv_at hl 1 rfl) ?_
            refine j7_ialdM hx hb hK hh_16 hB123 1 rfl (by decide) hg_xe (x := a1.toInt) (rfl) (by omega) (j := 6) rfl dX14_takeId_71 (fun z_18 ez_18 (hz_18 : 0 ≤ z_18.toInt ∧ z_18.toInt ≤ 3100) => ?_)
            have hqz_18 : z_18.toInt = jSo me (a1.toInt) := by unfold jSo; rw [ez_18]
            refine lv_aload_n hx hb dX14_takeId_72 rfl (lv_at hl 0 rfl) ?_
            refine j7_read hx hb hown hK (C := RX14) (T := TX14) (N := 74) rfl hly_16_22 hlk_52 (hh_16.at 8 rfl) dX14_takeId_73 ?_
            refine lv_iload_n hx hb dX14_takeId_76 rfl (lv_at hl 1 rfl) ?_
            refine j7_ialdM hx hb hK hh_16 hB122 1 rfl (by decide) hg_xb (x := a1.toInt) (rfl) (by omega) (j := 5) rfl dX14_takeId_77 (fun z_19 ez_19 (hz_19 : 0 ≤ z_19.toInt ∧ z_19.toInt ≤ 3100) => ?_)
            have hqz_19 : z_19.toInt = jSo mb (a1.toInt) := by unfold jSo; rw [ez_19]
            refine lv_isub hx hb dX14_takeId_78 ?_
            refine lv_topi (fun z_20 ez_20 => ?_)
            have hz_20 : z_20.toInt = z_18.toInt - z_19.toInt := by rw [ez_20]; exact jb_isub2 (rfl) (rfl) (by omega)
            refine lv_goto (tgt := 83) hx hb dX14_takeId_79 (by decide) ?_
            refine j7_put hx hb hown hK hh_16 hB hAp hB16 (C := RX14) (T := TX14) (N := 74) rfl (by decide) hg_r0 (i := 39) (by decide) hly_16_39 rfl hlk_383 rfl (ty := .int) (v := .int z_20) (by decide +kernel) rfl rfl (⟨_, rfl, by omega, by omega⟩) rfl (L1 := [(r0, 16, 37, .int 0), (r0, 16, 36, .int 1), (r0, 16, 40, .int 0), (r0, 16, 17, .ref zm), (r0, 16, 18, .ref xh), (r0, 16, 19, .ref xn), (r0, 16, 20, .ref xf), (r0, 16, 21, .ref xt), (r0, 16, 22, .ref xb), (r0, 16, 23, .ref xe), (r0, 16, 24, .ref xi), (r0, 16, 25, .ref xg), (r0, 16, 27, .ref xp), (r0, 16, 38, .ref yi)]) [0, 1, 2, 3, 4, 5, 6, 7, 8, 9, 10, 11, 12, 13] rfl rfl rfl dX14_takeId_83 (fun H_21 locs_21 hh_21 => ?_)
            clear hh_16
            refine lv_iconst (v := 0) hx hb dX14_takeId_86 (by decide) ?_
            refine lv_istore_n (lv' := [(2, .int 0), (0, .ref r0), (1, .int a1)]) hx hb dX14_takeId_87 rfl hl (by decide) rfl (fun ls hl => ?_)
            have L88 : ∀ (N : Nat) (v2_22 : Int32) (fi_22 : Nat → Int32) (H_22 : Heap) (locs_22 : List Loc), jSt (dC, dI) B base G0 G0 EX14_takeIdW s.heap 0 0 [(r0, 16, 39, .int z_20), (r0, 16, 37, .int 0), (r0, 16, 36, .int 1), (r0, 16, 40, .int 0), (r0, 16, 17, .ref zm), (r0, 16, 18, .ref xh), (r0, 16, 19, .ref xn), (r0, 16, 20, .ref xf), (r0, 16, 21, .ref xt), (r0, 16, 22, .ref xb), (r0, 16, 23, .ref xe), (r0, 16, 24, .ref xi), (r0, 16, 25, .ref xg), (r0, 16, 27, .ref xp), (r0, 16, 38, .ref yi)] [(yi, 101, 20, ca 1, fi_22), (zm, 117, 3100, ca 1, ms), (xh, 118, 3100, ca 1, mh), (xn, 119, 3100, ca 1, mx), (xf, 120, 3100, ca 1, mf), (xt, 121, 3100, ca 1, mt), (xb, 122, 3100, ca 1, mb), (xe, 123, 3100, ca 1, me), (xi, 124, 3100, ca 3, mi), (xg, 125, 3100, ca 1, mn), (xp, 127, 3300, ca 1, fu)] [] H_22 locs_22 → (0 ≤ v2_22.toInt ∧ v2_22.toInt ≤ 20 ∧ (0 < v2_22.toInt → jqK T9 nd9 a1.toInt = 3) ∧ (∀ j : Int, 0 ≤ j → j < v2_22.toInt → jSo fi_22 j = jqA T9 nd9 a1.toInt j)) → (20 - v2_22.toInt : Int) < N → ∀ ls : Array Slot, lv_has ls 3 [(0, .ref r0), (1, .int a1), (2, .int v2_22)] → W p l e R s m ([.ref r0, .int a1] : List Value).toArray below meth c H_22 locs_22 0 0 Q (F0 m 88 ls []) := by
              intro N
              induction N with
              | zero => intro v2_22 fi_22 H_22 locs_22 hh_22  hi_22 hm; exact absurd hm (by omega)
              | succ N L88 =>
                intro v2_22 fi_22 H_22 locs_22 hh_22  hi_22 hm_22 ls hl
                obtain ⟨hi_22_0, hi_22_1, hi_22_2, hi_22_3⟩ := hi_22
                refine lv_iload_n hx hb dX14_takeId_88 rfl (lv_at hl 2 rfl) ?_
                refine lv_aload_n hx hb dX14_takeId_89 rfl (lv_at hl 0 rfl) ?_
                refine j7_read hx hb hown hK (C := RX14) (T := TX14) (N := 74) rfl hly_16_39 hlk_383 (hh_22.at 0 rfl) dX14_takeId_90 ?_
                refine lv_icmp_ge (tgt := 121) hx hb dX14_takeId_93 (by decide) (fun c_23 => ?_) (fun c_23 => ?_)
                · skip
                  have c_23' : v2_22.toInt ≥ z_20.toInt := jb_ge (rfl) (rfl) c_23
                  rw [hQ]
                  exact W.vret hx hb hr (fun t ht hW => ⟨⟨(1, 0, z_20, fi_22), rfl, by (try dsimp only); skip; (try dsimp only); exact fun _ => ⟨by omega, by omega, by omega, by omega, jwIe.of (Or.inl ⟨hk1, hk3, by have h1 := hqz_18; have h2 := hqz_19; have h3 := hst9.2.2.2; omega, fun j h0 h1 => hi_22_3 j h0 (by omega)⟩)⟩, ⟨hh_22.rt (M1 := [(r0, 16, 36, .int 1), (r0, 16, 37, .int 0), (r0, 16, 39, .int z_20)]) [2, 1, 0] rfl ht, by rw [ht]; exact hh_22.2.2.2.2.2.2.2.1.sub [0] rfl⟩⟩, by rw [ht]; try exact hh_22.1.1, fun q h9 hq => by rw [ht]; try exact hh_22.1.2.1 q h9 hq⟩) hh_22.1.2.2 dX14_takeId_121
                · skip
                  have c_23' : v2_22.toInt < z_20.toInt := jb_ge_n (rfl) (rfl) c_23
                  refine lv_aload_n hx hb dX14_takeId_96 rfl (lv_at hl 0 rfl) ?_
                  refine j7_read hx hb hown hK (C := RX14) (T := TX14) (N := 74) rfl hly_16_38 hlk_68 (hh_22.at 14 rfl) dX14_takeId_97 ?_
                  refine lv_iload_n hx hb dX14_takeId_100 rfl (lv_at hl 2 rfl) ?_
                  refine lv_aload_n hx hb dX14_takeId_101 rfl (lv_at hl 0 rfl) ?_
                  refine j7_read hx hb hown hK (C := RX14) (T := TX14) (N := 74) rfl hly_16_27 hlk_65 (hh_22.at 13 rfl) dX14_takeId_102 ?_
                  refine lv_aload_n hx hb dX14_takeId_105 rfl (lv_at hl 0 rfl) ?_
                  refine j7_read hx hb hown hK (C := RX14) (T := TX14) (N := 74) rfl hly_16_22 hlk_52 (hh_22.at 9 rfl) dX14_takeId_106 ?_
                  refine lv_iload_n hx hb dX14_takeId_109 rfl (lv_at hl 1 rfl) ?_
                  refine j7_ialdM hx hb hK hh_22 hB122 1 rfl (by decide) hg_xb (x := a1.toInt) (rfl) (by omega) (j := 6) rfl dX14_takeId_110 (fun z_24 ez_24 (hz_24 : 0 ≤ z_24.toInt ∧ z_24.toInt ≤ 3100) => ?_)
                  have hqz_24 : z_24.toInt = jSo mb (a1.toInt) := by unfold jSo; rw [ez_24]
                  refine lv_iload_n hx hb dX14_takeId_111 rfl (lv_at hl 2 rfl) ?_
                  refine lv_iadd hx hb dX14_takeId_112 ?_
                  refine lv_topi (fun z_25 ez_25 => ?_)
                  have hz_25 : z_25.toInt = z_24.toInt + v2_22.toInt := by rw [ez_25]; exact jb_iadd2 (rfl) (rfl) (by omega)
                  refine j7_ialdM hx hb hK hh_22 hB127 1 rfl (by decide) hg_xp (x := z_25.toInt) (rfl) (by omega) (j := 10) rfl dX14_takeId_113 (fun z_26 ez_26 (hz_26 : True) => ?_)
                  have hqz_26 : z_26.toInt = jSo fu ((z_24.toInt + v2_22.toInt)) := by unfold jSo; rw [ez_26, show z_25.toInt = (z_24.toInt + v2_22.toInt) by omega]
                  refine j7_iastU hx hb hK hh_22 hB hB101 1 rfl (by decide) (by decide) rfl 0 rfl (M1 := [(zm, 117, 3100, ca 1, ms), (xh, 118, 3100, ca 1, mh), (xn, 119, 3100, ca 1, mx), (xf, 120, 3100, ca 1, mf), (xt, 121, 3100, ca 1, mt), (xb, 122, 3100, ca 1, mb), (xe, 123, 3100, ca 1, me), (xi, 124, 3100, ca 3, mi), (xg, 125, 3100, ca 1, mn), (xp, 127, 3300, ca 1, fu)]) [1, 2, 3, 4, 5, 6, 7, 8, 9, 10] rfl rfl rfl hg_yi (x := v2_22.toInt) (rfl) (by omega) (trivial) dX14_takeId_114 (fun H_27 locs_27 fs_28 hv_27 ho_27 hh_27 => ?_)
                  have hv_27 : jSo fs_28 (v2_22.toInt) = z_26.toInt := by unfold jSo; rw [hv_27]; try exact rfl
                  clear hh_22
                  obtain ⟨z_29, ez_29⟩ : ∃ y : Int32, y = v2_22 + 1 := ⟨_, rfl⟩
                  refine lv_iinc (v := z_29) (lv' := [(2, .int z_29), (0, .ref r0), (1, .int a1)]) hx hb dX14_takeId_115 hl (k := 2) rfl (by rw [ez_29]; rfl) (by decide) rfl (fun ls hl => ?_)
                  have hz_29 : z_29.toInt = v2_22.toInt + 1 := by rw [ez_29]; exact jb_iadd2 (rfl) (by decide) (by omega)
                  refine lv_goto (tgt := 88) hx hb dX14_takeId_118 (by decide) ?_
                  exact L88 z_29 fs_28 _ _ hh_27 (⟨by omega, by omega, fun _ => hk3, fun j h0 h1 => by by_cases jj9 : j < v2_22.toInt; exact (jst ho_27 j h0 (by omega) (by omega) (by omega)).trans (hi_22_3 j h0 jj9); rw [show j = v2_22.toInt by omega, hv_27, hqz_26, ← hp2.un hk3 (by omega) (by have h1 := hqz_18; have h2 := hqz_19; have h3 := hst9.2.2.2; omega)]; congr 1; have h9 := hqz_24; have h8 := hst9.2.2.1; omega⟩) (by omega) _ (lv_sub hl [1, 2, 0] rfl)
            exact L88 (20 - (0 : Int32).toInt : Int).toNat.succ 0 fi _ _ (hh_21.sub (L1 := [(r0, 16, 39, .int z_20), (r0, 16, 37, .int 0), (r0, 16, 36, .int 1), (r0, 16, 40, .int 0), (r0, 16, 17, .ref zm), (r0, 16, 18, .ref xh), (r0, 16, 19, .ref xn), (r0, 16, 20, .ref xf), (r0, 16, 21, .ref xt), (r0, 16, 22, .ref xb), (r0, 16, 23, .ref xe), (r0, 16, 24, .ref xi), (r0, 16, 25, .ref xg), (r0, 16, 27, .ref xp), (r0, 16, 38, .ref yi)]) [0, 1, 2, 3, 4, 5, 6, 7, 8, 9, 10, 11, 12, 13, 14] rfl (M1 := [(yi, 101, 20, ca 1, fi), (zm, 117, 3100, ca 1, ms), (xh, 118, 3100, ca 1, mh), (xn, 119, 3100, ca 1, mx), (xf, 120, 3100, ca 1, mf), (xt, 121, 3100, ca 1, mt), (xb, 122, 3100, ca 1, mb), (xe, 123, 3100, ca 1, me), (xi, 124, 3100, ca 3, mi), (xg, 125, 3100, ca 1, mn), (xp, 127, 3300, ca 1, fu)]) [10, 0, 1, 2, 3, 4, 5, 6, 7, 8, 9] rfl (I1 := []) [] rfl) (⟨by omega, by omega, fun q9 => by have h9 := hk0; omega, fun j h0 h1 => by have h9 := hk0; omega⟩) (by omega) _ (lv_sub hl [1, 2, 0] rfl)
    · skip
      have c_3' : a1.toInt < 0 := jb_ge_n (rfl) ((by decide)) c_3
      rw [hQ]
      obtain ⟨v_30, hv_30, hh_31⟩ := hh_2.pin (C := RX14) (T := TX14) (N := 74) hB16 rfl (by decide) hg_r0 (i := 36) (by decide) rfl
      obtain ⟨idString_32, rfl, hzidString_32⟩ := hv_30
      have hzidString_32' := jb_01 hzidString_32
      obtain ⟨v_33, hv_33, hh_34⟩ := hh_31.pin (C := RX14) (T := TX14) (N := 74) hB16 rfl (by decide) hg_r0 (i := 37) (by decide) rfl
      obtain ⟨idInt_35, rfl⟩ := hv_33
      obtain ⟨v_36, hv_36, hh_37⟩ := hh_34.pin (C := RX14) (T := TX14) (N := 74) hB16 rfl (by decide) hg_r0 (i := 39) (by decide) rfl
      obtain ⟨idLength_38, rfl, hloidLength_38, hhiidLength_38⟩ := hv_36
      exact W.vret hx hb hr (fun t ht hW => ⟨⟨(idString_32, idInt_35, idLength_38, fi), rfl, by (try dsimp only); skip; (try dsimp only); exact fun q9 => absurd q9 (by omega), ⟨hh_37.rt (M1 := [(r0, 16, 36, .int idString_32), (r0, 16, 37, .int idInt_35), (r0, 16, 39, .int idLength_38)]) [2, 1, 0] rfl ht, by rw [ht]; exact hh_37.2.2.2.2.2.2.2.1.sub [10] rfl⟩⟩, by rw [ht]; try exact hh_37.1.1, fun q h9 hq => by rw [ht]; try exact hh_37.1.2.1 q h9 hq⟩) hh_37.1.2.2 dX14_takeId_17
  · skip
    have c_1' : a1.toInt < 0 := jb_ge_n (rfl) ((by decide)) c_1
    refine lv_iconst (v := 1) hx hb dX14_takeId_5 (by decide) ?_
    refine lv_goto (tgt := 10) hx hb dX14_takeId_6 (by decide) ?_
    refine j7_put hx hb hown hK hh hB hAp hB16 (C := RX14) (T := TX14) (N := 74) rfl (by decide) hg_r0 (i := 40) (by decide) hly_16_40 rfl hlk_374 rfl (ty := .boolean) (v := .int 1) (by decide +kernel) (jb_nz (Or.inr rfl)) (jb_fz (Or.inr rfl)) (⟨_, rfl, (Or.inr rfl)⟩) rfl (L1 := [(r0, 16, 17, .ref zm), (r0, 16, 18, .ref xh), (r0, 16, 19, .ref xn), (r0, 16, 20, .ref xf), (r0, 16, 21, .ref xt), (r0, 16, 22, .ref xb), (r0, 16, 23, .ref xe), (r0, 16, 24, .ref xi), (r0, 16, 25, .ref xg), (r0, 16, 27, .ref xp), (r0, 16, 38, .ref yi)]) [0, 1, 2, 3, 4, 5, 6, 7, 8, 9, 10] rfl rfl rfl dX14_takeId_10 (fun H_39 locs_39 hh_39 => ?_)
    clear hh
    refine lv_iload_n hx hb dX14_takeId_13 rfl (lv_at hl 1 rfl) ?_
    refine lv_if_ge (tgt := 18) hx hb dX14_takeId_14 (by decide) (fun c_40 => ?_) (fun c_40 => ?_)
    · skip
      have c_40' : a1.toInt ≥ 0 := jb_ge (rfl) ((by decide)) c_40
      have hid9 := hp4 (by omega)
      have hsr9 := hp2.str (a := a1.toInt) (by omega) (by omega)
      refine lv_aload_n hx hb dX14_takeId_18 rfl (lv_at hl 0 rfl) ?_
      refine lv_aload_n hx hb dX14_takeId_19 rfl (lv_at hl 0 rfl) ?_
      refine j7_read hx hb hown hK (C := RX14) (T := TX14) (N := 74) rfl hly_16_17 hlk_37 (hh_39.at 1 rfl) dX14_takeId_20 ?_
      refine lv_iload_n hx hb dX14_takeId_23 rfl (lv_at hl 1 rfl) ?_
      refine j7_ialdM hx hb hK hh_39 hB117 1 rfl (by decide) hg_zm (x := a1.toInt) (rfl) (by omega) (j := 0) rfl dX14_takeId_24 (fun z_41 ez_41 (hz_41 : True) => ?_)
      have hqz_41 : z_41.toInt = jSo ms (a1.toInt) := by unfold jSo; rw [ez_41]
      refine lv_iconst (v := 4) hx hb dX14_takeId_25 (by decide) ?_
      refine lv_icmp_ne (tgt := 33) hx hb dX14_takeId_26 (by decide) (fun c_42 => ?_) (fun c_42 => ?_)
      · skip
        have c_42' : z_41.toInt ≠ 4 := jb_ne (rfl) ((by decide)) c_42
        have hn3 : jqK T9 nd9 a1.toInt ≠ 3 := (hsr9.resolve_left (fun q => by have h9 := hqz_41; have q1 := q.1; omega)).2
        have hwh9 := (hp2.whl (a := a1.toInt) (by omega) (by omega)).resolve_right (fun q => q.2 (hid9.resolve_right (fun z => hn3 z.1)))
        refine lv_iconst (v := 0) hx hb dX14_takeId_33 (by decide) ?_
        refine j7_put hx hb hown hK hh_39 hB hAp hB16 (C := RX14) (T := TX14) (N := 74) rfl (by decide) hg_r0 (i := 36) (by decide) hly_16_36 rfl hlk_377 rfl (ty := .boolean) (v := .int 0) (by decide +kernel) (jb_nz (Or.inl rfl)) (jb_fz (Or.inl rfl)) (⟨_, rfl, (Or.inl rfl)⟩) rfl (L1 := [(r0, 16, 40, .int 1), (r0, 16, 17, .ref zm), (r0, 16, 18, .ref xh), (r0, 16, 19, .ref xn), (r0, 16, 20, .ref xf), (r0, 16, 21, .ref xt), (r0, 16, 22, .ref xb), (r0, 16, 23, .ref xe), (r0, 16, 24, .ref xi), (r0, 16, 25, .ref xg), (r0, 16, 27, .ref xp), (r0, 16, 38, .ref yi)]) [0, 1, 2, 3, 4, 5, 6, 7, 8, 9, 10, 11] rfl rfl rfl dX14_takeId_34 (fun H_43 locs_43 hh_43 => ?_)
        clear hh_39
        refine lv_aload_n hx hb dX14_takeId_37 rfl (lv_at hl 0 rfl) ?_
        refine lv_aload_n hx hb dX14_takeId_38 rfl (lv_at hl 0 rfl) ?_
        refine j7_read hx hb hown hK (C := RX14) (T := TX14) (N := 74) rfl hly_16_36 hlk_377 (hh_43.at 0 rfl) dX14_takeId_39 ?_
        refine lv_if_eq (tgt := 49) hx hb dX14_takeId_42 (by decide) (fun c_44 => ?_) (fun c_44 => ?_)
        · skip
          refine lv_aload_n hx hb dX14_takeId_49 rfl (lv_at hl 0 rfl) ?_
          refine j7_read hx hb hown hK (C := RX14) (T := TX14) (N := 74) rfl hly_16_25 hlk_62 (hh_43.at 10 rfl) dX14_takeId_50 ?_
          refine lv_iload_n hx hb dX14_takeId_53 rfl (lv_at hl 1 rfl) ?_
          refine j7_ialdM hx hb hK hh_43 hB125 1 rfl (by decide) hg_xg (x := a1.toInt) (rfl) (by omega) (j := 8) rfl dX14_takeId_54 (fun z_45 ez_45 (hz_45 : True) => ?_)
          have hqz_45 : z_45.toInt = jSo mn (a1.toInt) := by unfold jSo; rw [ez_45]
          refine j7_put hx hb hown hK hh_43 hB hAp hB16 (C := RX14) (T := TX14) (N := 74) rfl (by decide) hg_r0 (i := 37) (by decide) hly_16_37 rfl hlk_380 rfl (ty := .int) (v := .int z_45) (by decide +kernel) rfl rfl (⟨_, rfl⟩) rfl (L1 := [(r0, 16, 36, .int 0), (r0, 16, 40, .int 1), (r0, 16, 17, .ref zm), (r0, 16, 18, .ref xh), (r0, 16, 19, .ref xn), (r0, 16, 20, .ref xf), (r0, 16, 21, .ref xt), (r0, 16, 22, .ref xb), (r0, 16, 23, .ref xe), (r0, 16, 24, .ref xi), (r0, 16, 25, .ref xg), (r0, 16, 27, .ref xp), (r0, 16, 38, .ref yi)]) [0, 1, 2, 3, 4, 5, 6, 7, 8, 9, 10, 11, 12] rfl rfl rfl dX14_takeId_55 (fun H_46 locs_46 hh_46 => ?_)
          clear hh_43
          refine lv_aload_n hx hb dX14_takeId_58 rfl (lv_at hl 0 rfl) ?_
          refine lv_aload_n hx hb dX14_takeId_59 rfl (lv_at hl 0 rfl) ?_
          refine j7_read hx hb hown hK (C := RX14) (T := TX14) (N := 74) rfl hly_16_36 hlk_377 (hh_46.at 1 rfl) dX14_takeId_60 ?_
          refine lv_if_eq (tgt := 82) hx hb dX14_takeId_63 (by decide) (fun c_47 => ?_) (fun c_47 => ?_)
          · skip
            refine lv_iconst (v := 0) hx hb dX14_takeId_82 (by decide) ?_
            refine j7_put hx hb hown hK hh_46 hB hAp hB16 (C := RX14) (T := TX14) (N := 74) rfl (by decide) hg_r0 (i := 39) (by decide) hly_16_39 rfl hlk_383 rfl (ty := .int) (v := .int 0) (by decide +kernel) rfl rfl (⟨_, rfl, by omega, by omega⟩) rfl (L1 := [(r0, 16, 37, .int z_45), (r0, 16, 36, .int 0), (r0, 16, 40, .int 1), (r0, 16, 17, .ref zm), (r0, 16, 18, .ref xh), (r0, 16, 19, .ref xn), (r0, 16, 20, .ref xf), (r0, 16, 21, .ref xt), (r0, 16, 22, .ref xb), (r0, 16, 23, .ref xe), (r0, 16, 24, .ref xi), (r0, 16, 25, .ref xg), (r0, 16, 27, .ref xp), (r0, 16, 38, .ref yi)]) [0, 1, 2, 3, 4, 5, 6, 7, 8, 9, 10, 11, 12, 13] rfl rfl rfl dX14_takeId_83 (fun H_48 locs_48 hh_48 => ?_)
            clear hh_46
            refine lv_iconst (v := 0) hx hb dX14_takeId_86 (by decide) ?_
            refine lv_istore_n (lv' := [(2, .int 0), (0, .ref r0), (1, .int a1)]) hx hb dX14_takeId_87 rfl hl (by decide) rfl (fun ls hl => ?_)
            have L88 : ∀ (N : Nat) (v2_49 : Int32) (fi_49 : Nat → Int32) (H_49 : Heap) (locs_49 : List Loc), jSt (dC, dI) B base G0 G0 EX14_takeIdW s.heap 0 0 [(r0, 16, 39, .int 0), (r0, 16, 37, .int z_45), (r0, 16, 36, .int 0), (r0, 16, 40, .int 1), (r0, 16, 17, .ref zm), (r0, 16, 18, .ref xh), (r0, 16, 19, .ref xn), (r0, 16, 20, .ref xf), (r0, 16, 21, .ref xt), (r0, 16, 22, .ref xb), (r0, 16, 23, .ref xe), (r0, 16, 24, .ref xi), (r0, 16, 25, .ref xg), (r0, 16, 27, .ref xp), (r0, 16, 38, .ref yi)] [(yi, 101, 20, ca 1, fi_49), (zm, 117, 3100, ca 1, ms), (xh, 118, 3100, ca 1, mh), (xn, 119, 3100, ca 1, mx), (xf, 120, 3100, ca 1, mf), (xt, 121, 3100, ca 1, mt), (xb, 122, 3100, ca 1, mb), (xe, 123, 3100, ca 1, me), (xi, 124, 3100, ca 3, mi), (xg, 125, 3100, ca 1, mn), (xp, 127, 3300, ca 1, fu)] [] H_49 locs_49 → (0 ≤ v2_49.toInt ∧ v2_49.toInt ≤ 20 ∧ (0 < v2_49.toInt → jqK T9 nd9 a1.toInt = 3) ∧ (∀ j : Int, 0 ≤ j → j < v2_49.toInt → jSo fi_49 j = jqA T9 nd9 a1.toInt j)) → (20 - v2_49.toInt : Int) < N → ∀ ls : Array Slot, lv_has ls 3 [(0, .ref r0), (1, .int a1), (2, .int v2_49)] → W p l e R s m ([.ref r0, .int a1] : List Value).toArray below meth c H_49 locs_49 0 0 Q (F0 m 88 ls []) := by
              intro N
              induction N with
              | zero => intro v2_49 fi_49 H_49 locs_49 hh_49  hi_49 hm; exact absurd hm (by omega)
              | succ N L88 =>
                intro v2_49 fi_49 H_49 locs_49 hh_49  hi_49 hm_49 ls hl
                obtain ⟨hi_49_0, hi_49_1, hi_49_2, hi_49_3⟩ := hi_49
                refine lv_iload_n hx hb dX14_takeId_88 rfl (lv_at hl 2 rfl) ?_
                refine lv_aload_n hx hb dX14_takeId_89 rfl (lv_at hl 0 rfl) ?_
                refine j7_read hx hb hown hK (C := RX14) (T := TX14) (N := 74) rfl hly_16_39 hlk_383 (hh_49.at 0 rfl) dX14_takeId_90 ?_
                refine lv_icmp_ge (tgt := 121) hx hb dX14_takeId_93 (by decide) (fun c_50 => ?_) (fun c_50 => ?_)
                · skip
                  have c_50' : v2_49.toInt ≥ 0 := jb_ge (rfl) ((by decide)) c_50
                  rw [hQ]
                  exact W.vret hx hb hr (fun t ht hW => ⟨⟨(0, z_45, 0, fi_49), rfl, by (try dsimp only); skip; (try dsimp only); exact fun _ => ⟨by omega, by omega, by omega, by omega, jwIe.of (Or.inr ⟨by omega, hn3, by have h1 := hqz_45; have h2 := hwh9.2.2.2; omega⟩)⟩, ⟨hh_49.rt (M1 := [(r0, 16, 36, .int 0), (r0, 16, 37, .int z_45), (r0, 16, 39, .int 0)]) [2, 1, 0] rfl ht, by rw [ht]; exact hh_49.2.2.2.2.2.2.2.1.sub [0] rfl⟩⟩, by rw [ht]; try exact hh_49.1.1, fun q h9 hq => by rw [ht]; try exact hh_49.1.2.1 q h9 hq⟩) hh_49.1.2.2 dX14_takeId_121
                · skip
                  have c_50' : v2_49.toInt < 0 := jb_ge_n (rfl) ((by decide)) c_50
                  exact (by omega : False).elim
            exact L88 (20 - (0 : Int32).toInt : Int).toNat.succ 0 fi _ _ (hh_48.sub (L1 := [(r0, 16, 39, .int 0), (r0, 16, 37, .int z_45), (r0, 16, 36, .int 0), (r0, 16, 40, .int 1), (r0, 16, 17, .ref zm), (r0, 16, 18, .ref xh), (r0, 16, 19, .ref xn), (r0, 16, 20, .ref xf), (r0, 16, 21, .ref xt), (r0, 16, 22, .ref xb), (r0, 16, 23, .ref xe), (r0, 16, 24, .ref xi), (r0, 16, 25, .ref xg), (r0, 16, 27, .ref xp), (r0, 16, 38, .ref yi)]) [0, 1, 2, 3, 4, 5, 6, 7, 8, 9, 10, 11, 12, 13, 14] rfl (M1 := [(yi, 101, 20, ca 1, fi), (zm, 117, 3100, ca 1, ms), (xh, 118, 3100, ca 1, mh), (xn, 119, 3100, ca 1, mx), (xf, 120, 3100, ca 1, mf), (xt, 121, 3100, ca 1, mt), (xb, 122, 3100, ca 1, mb), (xe, 123, 3100, ca 1, me), (xi, 124, 3100, ca 3, mi), (xg, 125, 3100, ca 1, mn), (xp, 127, 3300, ca 1, fu)]) [10, 0, 1, 2, 3, 4, 5, 6, 7, 8, 9] rfl (I1 := []) [] rfl) (⟨by omega, by omega, fun q9 => by have h9 := hk0; omega, fun j h0 h1 => by have h9 := hk0; omega⟩) (by omega) _ (lv_sub hl [1, 2, 0] rfl)
          · skip
            exact absurd c_47 (by decide)
        · skip
          exact absurd c_44 (by decide)
      · skip
        have c_42' : z_41.toInt = 4 := jb_ne_n (rfl) ((by decide)) c_42
        have hk3 : jqK T9 nd9 a1.toInt = 3 := (hsr9.resolve_right (fun q => q.1 (by have h9 := hqz_41; omega))).2.1
        have hst9 := hsr9.resolve_right (fun q => q.2 hk3)
        have h209 := (hid9.resolve_left (fun q => by omega)).2
        have hbr9 := hp2.2.2.2.2.2.1 a1.toInt (by omega) (by omega) (by rw [← (jqK.p (T := T9) (v := nd9) (i := a1.toInt) (by omega)).2.2]; exact hk3)
        refine lv_iconst (v := 1) hx hb dX14_takeId_29 (by decide) ?_
        refine lv_goto (tgt := 34) hx hb dX14_takeId_30 (by decide) ?_
        refine j7_put hx hb hown hK hh_39 hB hAp hB16 (C := RX14) (T := TX14) (N := 74) rfl (by decide) hg_r0 (i := 36) (by decide) hly_16_36 rfl hlk_377 rfl (ty := .boolean) (v := .int 1) (by decide +kernel) (jb_nz (Or.inr rfl)) (jb_fz (Or.inr rfl)) (⟨_, rfl, (Or.inr rfl)⟩) rfl (L1 := [(r0, 16, 40, .int 1), (r0, 16, 17, .ref zm), (r0, 16, 18, .ref xh), (r0, 16, 19, .ref xn), (r0, 16, 20, .ref xf), (r0, 16, 21, .ref xt), (r0, 16, 22, .ref xb), (r0, 16, 23, .ref xe), (r0, 16, 24, .ref xi), (r0, 16, 25, .ref xg), (r0, 16, 27, .ref xp), (r0, 16, 38, .ref yi)]) [0, 1, 2, 3, 4, 5, 6, 7, 8, 9, 10, 11] rfl rfl rfl dX14_takeId_34 (fun H_51 locs_51 hh_51 => ?_)
        clear hh_39
        refine lv_aload_n hx hb dX14_takeId_37 rfl (lv_at hl 0 rfl) ?_
        refine lv_aload_n hx hb dX14_takeId_38 rfl (lv_at hl 0 rfl) ?_
        refine j7_read hx hb hown hK (C := RX14) (T := TX14) (N := 74) rfl hly_16_36 hlk_377 (hh_51.at 0 rfl) dX14_takeId_39 ?_
        refine lv_if_eq (tgt := 49) hx hb dX14_takeId_42 (by decide) (fun c_52 => ?_) (fun c_52 => ?_)
        · skip
          exact absurd c_52 (by decide)
        · skip
          refine lv_iconst (v := 0) hx hb dX14_takeId_45 (by decide) ?_
          refine lv_goto (tgt := 55) hx hb dX14_takeId_46 (by decide) ?_
          refine j7_put hx hb hown hK hh_51 hB hAp hB16 (C := RX14) (T := TX14) (N := 74) rfl (by decide) hg_r0 (i := 37) (by decide) hly_16_37 rfl hlk_380 rfl (ty := .int) (v := .int 0) (by decide +kernel) rfl rfl (⟨_, rfl⟩) rfl (L1 := [(r0, 16, 36, .int 1), (r0, 16, 40, .int 1), (r0, 16, 17, .ref zm), (r0, 16, 18, .ref xh), (r0, 16, 19, .ref xn), (r0, 16, 20, .ref xf), (r0, 16, 21, .ref xt), (r0, 16, 22, .ref xb), (r0, 16, 23, .ref xe), (r0, 16, 24, .ref xi), (r0, 16, 25, .ref xg), (r0, 16, 27, .ref xp), (r0, 16, 38, .ref yi)]) [0, 1, 2, 3, 4, 5, 6, 7, 8, 9, 10, 11, 12] rfl rfl rfl dX14_takeId_55 (fun H_53 locs_53 hh_53 => ?_)
          clear hh_51
          refine lv_aload_n hx hb dX14_takeId_58 rfl (lv_at hl 0 rfl) ?_
          refine lv_aload_n hx hb dX14_takeId_59 rfl (lv_at hl 0 rfl) ?_
          refine j7_read hx hb hown hK (C := RX14) (T := TX14) (N := 74) rfl hly_16_36 hlk_377 (hh_53.at 1 rfl) dX14_takeId_60 ?_
          refine lv_if_eq (tgt := 82) hx hb dX14_takeId_63 (by decide) (fun c_54 => ?_) (fun c_54 => ?_)
          · skip
            exact absurd c_54 (by decide)
          · skip
            refine lv_aload_n hx hb dX14_takeId_66 rfl (lv_at hl 0 rfl) ?_
            refine j7_read hx hb hown hK (C := RX14) (T := TX14) (N := 74) rfl hly_16_23 hlk_55 (hh_53.at 9 rfl) dX14_takeId_67 ?_
            refine lv_iload_n hx hb dX14_takeId_70 rfl (lv_at hl 1 rfl) ?_
            refine j7_ialdM hx hb hK hh_53 hB123 1 rfl (by decide) hg_xe (x := a1.toInt) (rfl) (by omega) (j := 6) rfl dX14_takeId_71 (fun z_55 ez_55 (hz_55 : 0 ≤ z_55.toInt ∧ z_55.toInt ≤ 3100) => ?_)
            have hqz_55 : z_55.toInt = jSo me (a1.toInt) := by unfold jSo; rw [ez_55]
            refine lv_aload_n hx hb dX14_takeId_72 rfl (lv_at hl 0 rfl) ?_
            refine j7_read hx hb hown hK (C := RX14) (T := TX14) (N := 74) rfl hly_16_22 hlk_52 (hh_53.at 8 rfl) dX14_takeId_73 ?_
            refine lv_iload_n hx hb dX14_takeId_76 rfl (lv_at hl 1 rfl) ?_
            refine j7_ialdM hx hb hK hh_53 hB122 1 rfl (by decide) hg_xb (x := a1.toInt) (rfl) (by omega) (j := 5) rfl dX14_takeId_77 (fun z_56 ez_56 (hz_56 : 0 ≤ z_56.toInt ∧ z_56.toInt ≤ 3100) => ?_)
            have hqz_56 : z_56.toInt = jSo mb (a1.toInt) := by unfold jSo; rw [ez_56]
            refine lv_isub hx hb dX14_takeId_78 ?_
            refine lv_topi (fun z_57 ez_57 => ?_)
            have hz_57 : z_57.toInt = z_55.toInt - z_56.toInt := by rw [ez_57]; exact jb_isub2 (rfl) (rfl) (by omega)
            refine lv_goto (tgt := 83) hx hb dX14_takeId_79 (by decide) ?_
            refine j7_put hx hb hown hK hh_53 hB hAp hB16 (C := RX14) (T := TX14) (N := 74) rfl (by decide) hg_r0 (i := 39) (by decide) hly_16_39 rfl hlk_383 rfl (ty := .int) (v := .int z_57) (by decide +kernel) rfl rfl (⟨_, rfl, by omega, by omega⟩) rfl (L1 := [(r0, 16, 37, .int 0), (r0, 16, 36, .int 1), (r0, 16, 40, .int 1), (r0, 16, 17, .ref zm), (r0, 16, 18, .ref xh), (r0, 16, 19, .ref xn), (r0, 16, 20, .ref xf), (r0, 16, 21, .ref xt), (r0, 16, 22, .ref xb), (r0, 16, 23, .ref xe), (r0, 16, 24, .ref xi), (r0, 16, 25, .ref xg), (r0, 16, 27, .ref xp), (r0, 16, 38, .ref yi)]) [0, 1, 2, 3, 4, 5, 6, 7, 8, 9, 10, 11, 12, 13] rfl rfl rfl dX14_takeId_83 (fun H_58 locs_58 hh_58 => ?_)
            clear hh_53
            refine lv_iconst (v := 0) hx hb dX14_takeId_86 (by decide) ?_
            refine lv_istore_n (lv' := [(2, .int 0), (0, .ref r0), (1, .int a1)]) hx hb dX14_takeId_87 rfl hl (by decide) rfl (fun ls hl => ?_)
            have L88 : ∀ (N : Nat) (v2_59 : Int32) (fi_59 : Nat → Int32) (H_59 : Heap) (locs_59 : List Loc), jSt (dC, dI) B base G0 G0 EX14_takeIdW s.heap 0 0 [(r0, 16, 39, .int z_57), (r0, 16, 37, .int 0), (r0, 16, 36, .int 1), (r0, 16, 40, .int 1), (r0, 16, 17, .ref zm), (r0, 16, 18, .ref xh), (r0, 16, 19, .ref xn), (r0, 16, 20, .ref xf), (r0, 16, 21, .ref xt), (r0, 16, 22, .ref xb), (r0, 16, 23, .ref xe), (r0, 16, 24, .ref xi), (r0, 16, 25, .ref xg), (r0, 16, 27, .ref xp), (r0, 16, 38, .ref yi)] [(yi, 101, 20, ca 1, fi_59), (zm, 117, 3100, ca 1, ms), (xh, 118, 3100, ca 1, mh), (xn, 119, 3100, ca 1, mx), (xf, 120, 3100, ca 1, mf), (xt, 121, 3100, ca 1, mt), (xb, 122, 3100, ca 1, mb), (xe, 123, 3100, ca 1, me), (xi, 124, 3100, ca 3, mi), (xg, 125, 3100, ca 1, mn), (xp, 127, 3300, ca 1, fu)] [] H_59 locs_59 → (0 ≤ v2_59.toInt ∧ v2_59.toInt ≤ 20 ∧ (0 < v2_59.toInt → jqK T9 nd9 a1.toInt = 3) ∧ (∀ j : Int, 0 ≤ j → j < v2_59.toInt → jSo fi_59 j = jqA T9 nd9 a1.toInt j)) → (20 - v2_59.toInt : Int) < N → ∀ ls : Array Slot, lv_has ls 3 [(0, .ref r0), (1, .int a1), (2, .int v2_59)] → W p l e R s m ([.ref r0, .int a1] : List Value).toArray below meth c H_59 locs_59 0 0 Q (F0 m 88 ls []) := by
              intro N
              induction N with
              | zero => intro v2_59 fi_59 H_59 locs_59 hh_59  hi_59 hm; exact absurd hm (by omega)
              | succ N L88 =>
                intro v2_59 fi_59 H_59 locs_59 hh_59  hi_59 hm_59 ls hl
                obtain ⟨hi_59_0, hi_59_1, hi_59_2, hi_59_3⟩ := hi_59
                refine lv_iload_n hx hb dX14_takeId_88 rfl (lv_at hl 2 rfl) ?_
                refine lv_aload_n hx hb dX14_takeId_89 rfl (lv_at hl 0 rfl) ?_
                refine j7_read hx hb hown hK (C := RX14) (T := TX14) (N := 74) rfl hly_16_39 hlk_383 (hh_59.at 0 rfl) dX14_takeId_90 ?_
                refine lv_icmp_ge (tgt := 121) hx hb dX14_takeId_93 (by decide) (fun c_60 => ?_) (fun c_60 => ?_)
                · skip
                  have c_60' : v2_59.toInt ≥ z_57.toInt := jb_ge (rfl) (rfl) c_60
                  rw [hQ]
                  exact W.vret hx hb hr (fun t ht hW => ⟨⟨(1, 0, z_57, fi_59), rfl, by (try dsimp only); skip; (try dsimp only); exact fun _ => ⟨by omega, by omega, by omega, by omega, jwIe.of (Or.inl ⟨hk1, hk3, by have h1 := hqz_55; have h2 := hqz_56; have h3 := hst9.2.2.2; omega, fun j h0 h1 => hi_59_3 j h0 (by omega)⟩)⟩, ⟨hh_59.rt (M1 := [(r0, 16, 36, .int 1), (r0, 16, 37, .int 0), (r0, 16, 39, .int z_57)]) [2, 1, 0] rfl ht, by rw [ht]; exact hh_59.2.2.2.2.2.2.2.1.sub [0] rfl⟩⟩, by rw [ht]; try exact hh_59.1.1, fun q h9 hq => by rw [ht]; try exact hh_59.1.2.1 q h9 hq⟩) hh_59.1.2.2 dX14_takeId_121
                · skip
                  have c_60' : v2_59.toInt < z_57.toInt := jb_ge_n (rfl) (rfl) c_60
                  refine lv_aload_n hx hb dX14_takeId_96 rfl (lv_at hl 0 rfl) ?_
                  refine j7_read hx hb hown hK (C := RX14) (T := TX14) (N := 74) rfl hly_16_38 hlk_68 (hh_59.at 14 rfl) dX14_takeId_97 ?_
                  refine lv_iload_n hx hb dX14_takeId_100 rfl (lv_at hl 2 rfl) ?_
                  refine lv_aload_n hx hb dX14_takeId_101 rfl (lv_at hl 0 rfl) ?_
                  refine j7_read hx hb hown hK (C := RX14) (T := TX14) (N := 74) rfl hly_16_27 hlk_65 (hh_59.at 13 rfl) dX14_takeId_102 ?_
                  refine lv_aload_n hx hb dX14_takeId_105 rfl (lv_at hl 0 rfl) ?_
                  refine j7_read hx hb hown hK (C := RX14) (T := TX14) (N := 74) rfl hly_16_22 hlk_52 (hh_59.at 9 rfl) dX14_takeId_106 ?_
                  refine lv_iload_n hx hb dX14_takeId_109 rfl (lv_at hl 1 rfl) ?_
                  refine j7_ialdM hx hb hK hh_59 hB122 1 rfl (by decide) hg_xb (x := a1.toInt) (rfl) (by omega) (j := 6) rfl dX14_takeId_110 (fun z_61 ez_61 (hz_61 : 0 ≤ z_61.toInt ∧ z_61.toInt ≤ 3100) => ?_)
                  have hqz_61 : z_61.toInt = jSo mb (a1.toInt) := by unfold jSo; rw [ez_61]
                  refine lv_iload_n hx hb dX14_takeId_111 rfl (lv_at hl 2 rfl) ?_
                  refine lv_iadd hx hb dX14_takeId_112 ?_
                  refine lv_topi (fun z_62 ez_62 => ?_)
                  have hz_62 : z_62.toInt = z_61.toInt + v2_59.toInt := by rw [ez_62]; exact jb_iadd2 (rfl) (rfl) (by omega)
                  refine j7_ialdM hx hb hK hh_59 hB127 1 rfl (by decide) hg_xp (x := z_62.toInt) (rfl) (by omega) (j := 10) rfl dX14_takeId_113 (fun z_63 ez_63 (hz_63 : True) => ?_)
                  have hqz_63 : z_63.toInt = jSo fu ((z_61.toInt + v2_59.toInt)) := by unfold jSo; rw [ez_63, show z_62.toInt = (z_61.toInt + v2_59.toInt) by omega]
                  refine j7_iastU hx hb hK hh_59 hB hB101 1 rfl (by decide) (by decide) rfl 0 rfl (M1 := [(zm, 117, 3100, ca 1, ms), (xh, 118, 3100, ca 1, mh), (xn, 119, 3100, ca 1, mx), (xf, 120, 3100, ca 1, mf), (xt, 121, 3100, ca 1, mt), (xb, 122, 3100, ca 1, mb), (xe, 123, 3100, ca 1, me), (xi, 124, 3100, ca 3, mi), (xg, 125, 3100, ca 1, mn), (xp, 127, 3300, ca 1, fu)]) [1, 2, 3, 4, 5, 6, 7, 8, 9, 10] rfl rfl rfl hg_yi (x := v2_59.toInt) (rfl) (by omega) (trivial) dX14_takeId_114 (fun H_64 locs_64 fs_65 hv_64 ho_64 hh_64 => ?_)
                  have hv_64 : jSo fs_65 (v2_59.toInt) = z_63.toInt := by unfold jSo; rw [hv_64]; try exact rfl
                  clear hh_59
                  obtain ⟨z_66, ez_66⟩ : ∃ y : Int32, y = v2_59 + 1 := ⟨_, rfl⟩
                  refine lv_iinc (v := z_66) (lv' := [(2, .int z_66), (0, .ref r0), (1, .int a1)]) hx hb dX14_takeId_115 hl (k := 2) rfl (by rw [ez_66]; rfl) (by decide) rfl (fun ls hl => ?_)
                  have hz_66 : z_66.toInt = v2_59.toInt + 1 := by rw [ez_66]; exact jb_iadd2 (rfl) (by decide) (by omega)
                  refine lv_goto (tgt := 88) hx hb dX14_takeId_118 (by decide) ?_
                  exact L88 z_66 fs_65 _ _ hh_64 (⟨by omega, by omega, fun _ => hk3, fun j h0 h1 => by by_cases jj9 : j < v2_59.toInt; exact (jst ho_64 j h0 (by omega) (by omega) (by omega)).trans (hi_59_3 j h0 jj9); rw [show j = v2_59.toInt by omega, hv_64, hqz_63, ← hp2.un hk3 (by omega) (by have h1 := hqz_55; have h2 := hqz_56; have h3 := hst9.2.2.2; omega)]; congr 1; have h9 := hqz_61; have h8 := hst9.2.2.1; omega⟩) (by omega) _ (lv_sub hl [1, 2, 0] rfl)
            exact L88 (20 - (0 : Int32).toInt : Int).toNat.succ 0 fi _ _ (hh_58.sub (L1 := [(r0, 16, 39, .int z_57), (r0, 16, 37, .int 0), (r0, 16, 36, .int 1), (r0, 16, 40, .int 1), (r0, 16, 17, .ref zm), (r0, 16, 18, .ref xh), (r0, 16, 19, .ref xn), (r0, 16, 20, .ref xf), (r0, 16, 21, .ref xt), (r0, 16, 22, .ref xb), (r0, 16, 23, .ref xe), (r0, 16, 24, .ref xi), (r0, 16, 25, .ref xg), (r0, 16, 27, .ref xp), (r0, 16, 38, .ref yi)]) [0, 1, 2, 3, 4, 5, 6, 7, 8, 9, 10, 11, 12, 13, 14] rfl (M1 := [(yi, 101, 20, ca 1, fi), (zm, 117, 3100, ca 1, ms), (xh, 118, 3100, ca 1, mh), (xn, 119, 3100, ca 1, mx), (xf, 120, 3100, ca 1, mf), (xt, 121, 3100, ca 1, mt), (xb, 122, 3100, ca 1, mb), (xe, 123, 3100, ca 1, me), (xi, 124, 3100, ca 3, mi), (xg, 125, 3100, ca 1, mn), (xp, 127, 3300, ca 1, fu)]) [10, 0, 1, 2, 3, 4, 5, 6, 7, 8, 9] rfl (I1 := []) [] rfl) (⟨by omega, by omega, fun q9 => by have h9 := hk0; omega, fun j h0 h1 => by have h9 := hk0; omega⟩) (by omega) _ (lv_sub hl [1, 2, 0] rfl)
    · skip
      have c_40' : a1.toInt < 0 := jb_ge_n (rfl) ((by decide)) c_40
      rw [hQ]
      obtain ⟨v_67, hv_67, hh_68⟩ := hh_39.pin (C := RX14) (T := TX14) (N := 74) hB16 rfl (by decide) hg_r0 (i := 36) (by decide) rfl
      obtain ⟨idString_69, rfl, hzidString_69⟩ := hv_67
      have hzidString_69' := jb_01 hzidString_69
      obtain ⟨v_70, hv_70, hh_71⟩ := hh_68.pin (C := RX14) (T := TX14) (N := 74) hB16 rfl (by decide) hg_r0 (i := 37) (by decide) rfl
      obtain ⟨idInt_72, rfl⟩ := hv_70
      obtain ⟨v_73, hv_73, hh_74⟩ := hh_71.pin (C := RX14) (T := TX14) (N := 74) hB16 rfl (by decide) hg_r0 (i := 39) (by decide) rfl
      obtain ⟨idLength_75, rfl, hloidLength_75, hhiidLength_75⟩ := hv_73
      exact W.vret hx hb hr (fun t ht hW => ⟨⟨(idString_69, idInt_72, idLength_75, fi), rfl, by (try dsimp only); skip; (try dsimp only); exact fun q9 => absurd q9 (by omega), ⟨hh_74.rt (M1 := [(r0, 16, 36, .int idString_69), (r0, 16, 37, .int idInt_72), (r0, 16, 39, .int idLength_75)]) [2, 1, 0] rfl ht, by rw [ht]; exact hh_74.2.2.2.2.2.2.2.1.sub [10] rfl⟩⟩, by rw [ht]; try exact hh_74.1.1, fun q h9 hq => by rw [ht]; try exact hh_74.1.2.1 q h9 hq⟩) hh_74.1.2.2 dX14_takeId_17
end
