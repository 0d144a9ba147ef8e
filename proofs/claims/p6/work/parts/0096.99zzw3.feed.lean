section
def EX14_feedP : List (Nat × Nat) := [(16, 1), (111, 0)]
set_option maxHeartbeats 4000000 in
set_option maxRecDepth 20000 in
theorem uX14_feedP (l : Launch) (dC : Nat → ClassId) (dI : Nat → Nat → Nat) (ca : Nat → ClassId) (base : Nat) (B : jF) (hB : jBok B) (hAp : jAp (dC, dI)) (hB16 : ∀ n G a H, B 16 n G a H ↔ jOb (dC, dI) 16 74 (F16 n G) a H) (hB111 : ∀ n G a H, B 111 n G a H ↔ jAr (dC, dI) (ca 1) (fun j z => 0 ≤ z.toInt ∧ z.toInt ≤ 255) n a H) (G0 : jT) (H0 : Heap) (r0 : Nat) (a1 : Int32) (a2 : Int32) (a3 : Int32) (a4 : Int32) (a5 : Int32) (pd : Int32) (tp_ : Nat) (fg : Nat → Int32) : Met l yX14_feed (jw yX14_feed cX14_feed 8 (some .int)) ({ frames := 0, cells := 0, slots := 0, locals := 0 }) (va_Pc [.ref r0, .int a1, .int a2, .int a3, .int a4, .int a5] (fun U => U.heap = H0 ∧ jX B base G0 [] H0 ∧ jG dC dI ca base U ∧ G0 r0 = some (16, 0) ∧ G0 tp_ = some (111, 4000) ∧ jP (dC, dI) G0 H0 [(r0, 16, 1, .int pd), (r0, 16, 0, .ref tp_)] ∧ jMc (dC, dI) G0 H0 [(tp_, 111, 4000, ca 1, fg)] ∧ 0 ≤ pd.toInt ∧ pd.toInt ≤ 4000)) (va_Qi (S := Int32 × (Nat → Int32)) (fun r u => (((3980 < pd.toInt ∧ r.toInt = -1 ∧ u.1.toInt = pd.toInt) ∨ (pd.toInt ≤ 3980 ∧ r.toInt = pd.toInt + 20 ∧ u.1.toInt = pd.toInt + 20)) ∧ jVff fg u.2 pd.toInt u.1.toInt a1.toInt a2.toInt a3.toInt a4.toInt a5.toInt)) (fun u t => jRt (dC, dI) B base G0 EX14_feedP H0 [(r0, 16, 1, .int u.1)] t.heap ∧ jMc (dC, dI) G0 t.heap [(tp_, 111, 4000, ca 1, u.2)]) (jA base)) 0 0 (jA base) := by
  refine Met.ofW (cc := cX14_feed) (maxL := 8) (ret := (some .int)) (by decide) rfl ?_
  intro p e s m args below meth c s₁ Bd hml hv
  obtain ⟨rfl, hH0, hX, hG, hg_r0, hg_tp_, hP0, hM0, hp0, hp1⟩ := hv
  have hK := hG.1
  have hx := Bd.exec
  have hb := Bd.bytes
  have hr := Bd.returns
  have hts := atoms_spec (ws := (jw yX14_feed cX14_feed 8 (some .int))) Bd.pre
  have htw : ∀ w ∈ jWl, w.before _ s = true := fun w h => hts w (List.mem_cons_of_mem _ h)
  have hown : s.vm.findClass RX14 = some m.cls := findClass_of_methodNamed Bd.named
  have hlocks := Bd.notSynchronized
  obtain ⟨Q, hQ⟩ : ∃ Q, Q = MQ below (va_Qi (S := Int32 × (Nat → Int32)) (fun r u => (((3980 < pd.toInt ∧ r.toInt = -1 ∧ u.1.toInt = pd.toInt) ∨ (pd.toInt ≤ 3980 ∧ r.toInt = pd.toInt + 20 ∧ u.1.toInt = pd.toInt + 20)) ∧ jVff fg u.2 pd.toInt u.1.toInt a1.toInt a2.toInt a3.toInt a4.toInt a5.toInt)) (fun u t => jRt (dC, dI) B base G0 EX14_feedP H0 [(r0, 16, 1, .int u.1)] t.heap ∧ jMc (dC, dI) G0 t.heap [(tp_, 111, 4000, ca 1, u.2)]) (jA base)) ([.ref r0, .int a1, .int a2, .int a3, .int a4, .int a5] : List Value).toArray s 0 0 (jA base) := ⟨_, rfl⟩
  rw [← hQ]
  have hl := lv_entry ([.ref r0, .int a1, .int a2, .int a3, .int a4, .int a5]) (n := 8) (Nat.le_of_ble_eq_true rfl)
  rw [lg_entry_eq]
  generalize (lg_sl ([.ref r0, .int a1, .int a2, .int a3, .int a4, .int a5]) ++ List.replicate (8 - (lg_sl ([.ref r0, .int a1, .int a2, .int a3, .int a4, .int a5])).length) Slot.unset).toArray = ls at hl ⊢
  have hl : lv_has ls 8 [(0, .ref r0), (1, .int a1), (2, .int a2), (3, .int a3), (4, .int a4), (5, .int a5)] := hl
  generalize hR : (headSpec (jw yX14_feed cX14_feed 8 (some .int)) ({ frames := 0, cells := 0, slots := 0, locals := 0 })).room = R
  subst hH0
  have hh : jSt (dC, dI) B base G0 G0 EX14_feedP s.heap 0 0 [(r0, 16, 1, .int pd), (r0, 16, 0, .ref tp_)] [(tp_, 111, 4000, ca 1, fg)] [] s.heap [] := jSt.start hX hP0 hM0 jIs.nil
  clear hX hP0
  have hkm1 : ((-1) : Int32).toInt = (-1) := by decide
  have hk0 : (0 : Int32).toInt = 0 := by decide
  have hk1 : (1 : Int32).toInt = 1 := by decide
  have hk4 : (4 : Int32).toInt = 4 := by decide
  have hk8 : (8 : Int32).toInt = 8 := by decide
  have hk12 : (12 : Int32).toInt = 12 := by decide
  have hk16 : (16 : Int32).toInt = 16 := by decide
  have hk20 : (20 : Int32).toInt = 20 := by decide
  have hk24 : (24 : Int32).toInt = 24 := by decide
  have hk255 : (255 : Int32).toInt = 255 := by decide
  have hk4000 : (4000 : Int32).toInt = 4000 := by decide
  have hly_16_0 := htw (u_lay RX14 TX14 0) (jWc_wsX140 _ (u_in_lay (by decide)))
  have hly_16_1 := htw (u_lay RX14 TX14 1) (jWc_wsX140 _ (u_in_lay (by decide)))
  have hlk_217 := (htw (.fieldLink RX14 217 "ProofServerModel" "taped" "I") (jWr_17 _ (List.mem_of_getElem? (i := 2) rfl)))
  have hlk_9 := (htw (.fieldLink RX14 9 "ProofServerModel" "tape" "[I") (jWr_10 _ (List.mem_of_getElem? (i := 17) rfl)))
  have hrg_a1 := jb_rng a1
  have hrg_a2 := jb_rng a2
  have hrg_a3 := jb_rng a3
  have hrg_a4 := jb_rng a4
  have hrg_a5 := jb_rng a5
  obtain ⟨fz0, hfz0⟩ : ∃ q : Nat → Int32, q = fg := ⟨_, rfl⟩
  refine lv_aload_n hx hb dX14_feed_0 rfl (lv_at hl 0 rfl) ?_
  refine j7_read hx hb hown hK (C := RX14) (T := TX14) (N := 74) rfl hly_16_1 hlk_217 (hh.at 0 rfl) dX14_feed_1 ?_
  refine lv_bipush (v := 20) hx hb dX14_feed_4 (by decide) ?_
  refine lv_iadd hx hb dX14_feed_6 ?_
  refine lv_topi (fun z_1 ez_1 => ?_)
  have hz_1 : z_1.toInt = pd.toInt + 20 := by rw [ez_1]; exact jb_iadd2 (rfl) ((by decide)) (by omega)
  refine lv_sipush (v := 4000) hx hb dX14_feed_7 (by decide) ?_
  refine lv_icmp_le (tgt := 15) hx hb dX14_feed_10 (by decide) (fun c_2 => ?_) (fun c_2 => ?_)
  · skip
    have c_2' : z_1.toInt ≤ 4000 := jb_le (rfl) ((by decide)) c_2
    refine lv_iconst (v := 0) hx hb dX14_feed_15 (by decide) ?_
    refine lv_istore (lv' := [(6, .int 0), (0, .ref r0), (1, .int a1), (2, .int a2), (3, .int a3), (4, .int a4), (5, .int a5)]) hx hb dX14_feed_16 hl (by decide) rfl (fun ls hl => ?_)
    have L18 : ∀ (N : Nat) (v6_3 : Int32) (fg_3 : Nat → Int32) (H_3 : Heap) (locs_3 : List Loc), jSt (dC, dI) B base G0 G0 EX14_feedP s.heap 0 0 [(r0, 16, 1, .int pd), (r0, 16, 0, .ref tp_)] [(tp_, 111, 4000, ca 1, fg_3)] [] H_3 locs_3 → (0 ≤ v6_3.toInt ∧ v6_3.toInt ≤ 20 ∧ jVfd fz0 fg_3 pd.toInt a1.toInt a2.toInt a3.toInt a4.toInt a5.toInt v6_3.toInt) → (20 - v6_3.toInt : Int) < N → ∀ ls : Array Slot, lv_has ls 8 [(0, .ref r0), (1, .int a1), (2, .int a2), (3, .int a3), (4, .int a4), (5, .int a5), (6, .int v6_3)] → W p l e R s m ([.ref r0, .int a1, .int a2, .int a3, .int a4, .int a5] : List Value).toArray below meth c H_3 locs_3 0 0 Q (F0 m 18 ls []) := by
      intro N
      induction N with
      | zero => intro v6_3 fg_3 H_3 locs_3 hh_3  hi_3 hm; exact absurd hm (by omega)
      | succ N L18 =>
        intro v6_3 fg_3 H_3 locs_3 hh_3  hi_3 hm_3 ls hl
        obtain ⟨hi_3_0, hi_3_1, hi_3_2⟩ := hi_3
        refine lv_iload hx hb dX14_feed_18 (lv_at hl 6 rfl) ?_
        refine lv_bipush (v := 20) hx hb dX14_feed_20 (by decide) ?_
        refine lv_icmp_ge (tgt := 108) hx hb dX14_feed_22 (by decide) (fun c_4 => ?_) (fun c_4 => ?_)
        · skip
          have c_4' : v6_3.toInt ≥ 20 := jb_ge (rfl) ((by decide)) c_4
          refine lv_aload_n hx hb dX14_feed_108 rfl (lv_at hl 0 rfl) ?_
          refine lv_dup hx hb dX14_feed_109 rfl ?_
          refine j7_read hx hb hown hK (C := RX14) (T := TX14) (N := 74) rfl hly_16_1 hlk_217 (hh_3.at 0 rfl) dX14_feed_110 ?_
          refine lv_bipush (v := 20) hx hb dX14_feed_113 (by decide) ?_
          refine lv_iadd hx hb dX14_feed_115 ?_
          refine lv_topi (fun z_5 ez_5 => ?_)
          have hz_5 : z_5.toInt = pd.toInt + 20 := by rw [ez_5]; exact jb_iadd2 (rfl) ((by decide)) (by omega)
          refine j7_put hx hb hown hK hh_3 hB hAp hB16 (C := RX14) (T := TX14) (N := 74) rfl (by decide) hg_r0 (i := 1) (by decide) hly_16_1 rfl hlk_217 rfl (ty := .int) (v := .int z_5) (by decide +kernel) rfl rfl (⟨_, rfl, by omega, by omega⟩) rfl (L1 := [(r0, 16, 0, .ref tp_)]) [1] rfl rfl rfl dX14_feed_116 (fun H_6 locs_6 hh_6 => ?_)
          clear hh_3
          refine lv_aload_n hx hb dX14_feed_119 rfl (lv_at hl 0 rfl) ?_
          refine j7_read hx hb hown hK (C := RX14) (T := TX14) (N := 74) rfl hly_16_1 hlk_217 (hh_6.at 0 rfl) dX14_feed_120 ?_
          rw [hQ]
          exact W.iret (v := z_5) hx hb hr (fun t ht hW => ⟨⟨z_5, (z_5, fg_3), rfl, by (try dsimp only); refine ⟨by omega, Or.inr ⟨by omega, by omega, ?_⟩⟩; have h9 := hi_3_2; rw [hfz0, show v6_3.toInt = 20 by omega] at h9; exact h9, ⟨hh_6.rt (M1 := [(r0, 16, 1, .int z_5)]) [0] rfl ht, by rw [ht]; exact hh_6.2.2.2.2.2.2.2.1.sub [0] rfl⟩⟩, by rw [ht]; try exact hh_6.1.1, fun q h9 hq => by rw [ht]; try exact hh_6.1.2.1 q h9 hq⟩) hh_6.1.2.2 dX14_feed_123
        · skip
          have c_4' : v6_3.toInt < 20 := jb_ge_n (rfl) ((by decide)) c_4
          refine lv_iload hx hb dX14_feed_25 (lv_at hl 6 rfl) ?_
          refine lv_iconst (v := 4) hx hb dX14_feed_27 (by decide) ?_
          refine lv_icmp_ge (tgt := 35) hx hb dX14_feed_28 (by decide) (fun c_7 => ?_) (fun c_7 => ?_)
          · skip
            have c_7' : v6_3.toInt ≥ 4 := jb_ge (rfl) ((by decide)) c_7
            refine lv_iload hx hb dX14_feed_35 (lv_at hl 6 rfl) ?_
            refine lv_bipush (v := 8) hx hb dX14_feed_37 (by decide) ?_
            refine lv_icmp_ge (tgt := 46) hx hb dX14_feed_39 (by decide) (fun c_8 => ?_) (fun c_8 => ?_)
            · skip
              have c_8' : v6_3.toInt ≥ 8 := jb_ge (rfl) ((by decide)) c_8
              refine lv_iload hx hb dX14_feed_46 (lv_at hl 6 rfl) ?_
              refine lv_bipush (v := 12) hx hb dX14_feed_48 (by decide) ?_
              refine lv_icmp_ge (tgt := 57) hx hb dX14_feed_50 (by decide) (fun c_9 => ?_) (fun c_9 => ?_)
              · skip
                have c_9' : v6_3.toInt ≥ 12 := jb_ge (rfl) ((by decide)) c_9
                refine lv_iload hx hb dX14_feed_57 (lv_at hl 6 rfl) ?_
                refine lv_bipush (v := 16) hx hb dX14_feed_59 (by decide) ?_
                refine lv_icmp_ge (tgt := 69) hx hb dX14_feed_61 (by decide) (fun c_10 => ?_) (fun c_10 => ?_)
                · skip
                  have c_10' : v6_3.toInt ≥ 16 := jb_ge (rfl) ((by decide)) c_10
                  refine lv_iload hx hb dX14_feed_69 (lv_at hl 5 rfl) ?_
                  refine lv_istore (lv' := [(7, .int a5), (0, .ref r0), (1, .int a1), (2, .int a2), (3, .int a3), (4, .int a4), (5, .int a5), (6, .int v6_3)]) hx hb dX14_feed_71 hl (by decide) rfl (fun ls hl => ?_)
                  refine lv_aload_n hx hb dX14_feed_73 rfl (lv_at hl 1 rfl) ?_
                  refine j7_read hx hb hown hK (C := RX14) (T := TX14) (N := 74) rfl hly_16_0 hlk_9 (hh_3.at 1 rfl) dX14_feed_74 ?_
                  refine lv_aload_n hx hb dX14_feed_77 rfl (lv_at hl 1 rfl) ?_
                  refine j7_read hx hb hown hK (C := RX14) (T := TX14) (N := 74) rfl hly_16_1 hlk_217 (hh_3.at 0 rfl) dX14_feed_78 ?_
                  refine lv_iload hx hb dX14_feed_81 (lv_at hl 7 rfl) ?_
                  refine lv_iadd hx hb dX14_feed_83 ?_
                  refine lv_topi (fun z_11 ez_11 => ?_)
                  have hz_11 : z_11.toInt = pd.toInt + v6_3.toInt := by rw [ez_11]; exact jb_iadd2 (rfl) (rfl) (by omega)
                  refine lv_iload hx hb dX14_feed_84 (lv_at hl 0 rfl) ?_
                  refine lv_bipush (v := 24) hx hb dX14_feed_86 (by decide) ?_
                  refine lv_bipush (v := 8) hx hb dX14_feed_88 (by decide) ?_
                  refine lv_iload hx hb dX14_feed_90 (lv_at hl 7 rfl) ?_
                  refine lv_iconst (v := 4) hx hb dX14_feed_92 (by decide) ?_
                  refine lv_irem hx hb dX14_feed_93 (by decide) ?_
                  refine lv_topi (fun z_12 ez_12 => ?_)
                  have hz_12 := jb_irem (n := 4) ez_12 (by decide) (by decide)
                  refine lv_imul hx hb dX14_feed_94 ?_
                  refine lv_topi (fun z_13 ez_13 => ?_)
                  have hz_13 : z_13.toInt = 8 * z_12.toInt := by rw [ez_13]; exact jb_imul2 ((by decide)) (rfl) (by omega)
                  refine lv_isub hx hb dX14_feed_95 ?_
                  refine lv_topi (fun z_14 ez_14 => ?_)
                  have hz_14 : z_14.toInt = 24 - z_13.toInt := by rw [ez_14]; exact jb_isub2 ((by decide)) (rfl) (by omega)
                  refine lv_ishr hx hb dX14_feed_96 ?_
                  refine lv_topi (fun z_15 ez_15 => ?_)
                  refine lv_sipush (v := 255) hx hb dX14_feed_97 (by decide) ?_
                  refine lv_iand hx hb dX14_feed_100 ?_
                  refine lv_topi (fun z_16 ez_16 => ?_)
                  have hz_16 : 0 ≤ z_16.toInt ∧ z_16.toInt ≤ 255 := by rw [ez_16]; exact jb_and z_15 (m := 255) (k := 8) (by decide) (by decide)
                  refine j7_iastU hx hb hK hh_3 hB hB111 1 rfl (by decide) (by decide) rfl 0 rfl (M1 := []) [] rfl rfl rfl hg_tp_ (x := z_11.toInt) (rfl) (by omega) (by first | omega | (refine ⟨?_, ?_⟩ <;> (first | omega | rfl | assumption | decide | exact Or.inl rfl | exact Or.inr rfl | (simp only; omega)))) dX14_feed_101 (fun H_17 locs_17 fs_18 hv_17 ho_17 hh_17 => ?_)
                  have hv_17 : jSo fs_18 (z_11.toInt) = z_16.toInt := by unfold jSo; rw [hv_17]; try exact rfl
                  rw [show z_11.toInt = (pd.toInt + v6_3.toInt) by omega] at hv_17 ho_17
                  clear hh_3
                  obtain ⟨z_19, ez_19⟩ : ∃ y : Int32, y = v6_3 + 1 := ⟨_, rfl⟩
                  refine lv_iinc (v := z_19) (lv' := [(6, .int z_19), (7, .int a5), (0, .ref r0), (1, .int a1), (2, .int a2), (3, .int a3), (4, .int a4), (5, .int a5)]) hx hb dX14_feed_102 hl (k := 7) rfl (by rw [ez_19]; rfl) (by decide) rfl (fun ls hl => ?_)
                  have hz_19 : z_19.toInt = v6_3.toInt + 1 := by rw [ez_19]; exact jb_iadd2 (rfl) (by decide) (by omega)
                  refine lv_goto (tgt := 18) hx hb dX14_feed_105 (by decide) ?_
                  exact L18 z_19 fs_18 _ _ hh_17 (by refine ⟨by omega, by omega, ?_⟩; exact hi_3_2.step (by omega) (by omega) (by omega) (by omega) (hv_17.trans (jb_a255 ez_16)) (jVby.of ez_15 rfl (by omega)) (by omega) (by first | rw [if_pos (by omega)] | rw [if_neg (by omega), if_pos (by omega)] | rw [if_neg (by omega), if_neg (by omega), if_pos (by omega)] | rw [if_neg (by omega), if_neg (by omega), if_neg (by omega), if_pos (by omega)] | rw [if_neg (by omega), if_neg (by omega), if_neg (by omega), if_neg (by omega)]) (jOth.mk (n := 4000) ho_17 rfl (by omega)) (by omega)) (by omega) _ (lv_sub hl [2, 3, 4, 5, 6, 7, 0] rfl)
                · skip
                  have c_10' : v6_3.toInt < 16 := jb_ge_n (rfl) ((by decide)) c_10
                  refine lv_iload hx hb dX14_feed_64 (lv_at hl 4 rfl) ?_
                  refine lv_goto (tgt := 71) hx hb dX14_feed_66 (by decide) ?_
                  refine lv_istore (lv' := [(7, .int a4), (0, .ref r0), (1, .int a1), (2, .int a2), (3, .int a3), (4, .int a4), (5, .int a5), (6, .int v6_3)]) hx hb dX14_feed_71 hl (by decide) rfl (fun ls hl => ?_)
                  refine lv_aload_n hx hb dX14_feed_73 rfl (lv_at hl 1 rfl) ?_
                  refine j7_read hx hb hown hK (C := RX14) (T := TX14) (N := 74) rfl hly_16_0 hlk_9 (hh_3.at 1 rfl) dX14_feed_74 ?_
                  refine lv_aload_n hx hb dX14_feed_77 rfl (lv_at hl 1 rfl) ?_
                  refine j7_read hx hb hown hK (C := RX14) (T := TX14) (N := 74) rfl hly_16_1 hlk_217 (hh_3.at 0 rfl) dX14_feed_78 ?_
                  refine lv_iload hx hb dX14_feed_81 (lv_at hl 7 rfl) ?_
                  refine lv_iadd hx hb dX14_feed_83 ?_
                  refine lv_topi (fun z_20 ez_20 => ?_)
                  have hz_20 : z_20.toInt = pd.toInt + v6_3.toInt := by rw [ez_20]; exact jb_iadd2 (rfl) (rfl) (by omega)
                  refine lv_iload hx hb dX14_feed_84 (lv_at hl 0 rfl) ?_
                  refine lv_bipush (v := 24) hx hb dX14_feed_86 (by decide) ?_
                  refine lv_bipush (v := 8) hx hb dX14_feed_88 (by decide) ?_
                  refine lv_iload hx hb dX14_feed_90 (lv_at hl 7 rfl) ?_
                  refine lv_iconst (v := 4) hx hb dX14_feed_92 (by decide) ?_
                  refine lv_irem hx hb dX14_feed_93 (by decide) ?_
                  refine lv_topi (fun z_21 ez_21 => ?_)
                  have hz_21 := jb_irem (n := 4) ez_21 (by decide) (by decide)
                  refine lv_imul hx hb dX14_feed_94 ?_
                  refine lv_topi (fun z_22 ez_22 => ?_)
                  have hz_22 : z_22.toInt = 8 * z_21.toInt := by rw [ez_22]; exact jb_imul2 ((by decide)) (rfl) (by omega)
                  refine lv_isub hx hb dX14_feed_95 ?_
                  refine lv_topi (fun z_23 ez_23 => ?_)
                  have hz_23 : z_23.toInt = 24 - z_22.toInt := by rw [ez_23]; exact jb_isub2 ((by decide)) (rfl) (by omega)
                  refine lv_ishr hx hb dX14_feed_96 ?_
                  refine lv_topi (fun z_24 ez_24 => ?_)
                  refine lv_sipush (v := 255) hx hb dX14_feed_97 (by decide) ?_
                  refine lv_iand hx hb dX14_feed_100 ?_
                  refine lv_topi (fun z_25 ez_25 => ?_)
                  have hz_25 : 0 ≤ z_25.toInt ∧ z_25.toInt ≤ 255 := by rw [ez_25]; exact jb_and z_24 (m := 255) (k := 8) (by decide) (by decide)
                  refine j7_iastU hx hb hK hh_3 hB hB111 1 rfl (by decide) (by decide) rfl 0 rfl (M1 := []) [] rfl rfl rfl hg_tp_ (x := z_20.toInt) (rfl) (by omega) (by first | omega | (refine ⟨?_, ?_⟩ <;> (first | omega | rfl | assumption | decide | exact Or.inl rfl | exact Or.inr rfl | (simp only; omega)))) dX14_feed_101 (fun H_26 locs_26 fs_27 hv_26 ho_26 hh_26 => ?_)
                  have hv_26 : jSo fs_27 (z_20.toInt) = z_25.toInt := by unfold jSo; rw [hv_26]; try exact rfl
                  rw [show z_20.toInt = (pd.toInt + v6_3.toInt) by omega] at hv_26 ho_26
                  clear hh_3
                  obtain ⟨z_28, ez_28⟩ : ∃ y : Int32, y = v6_3 + 1 := ⟨_, rfl⟩
                  refine lv_iinc (v := z_28) (lv' := [(6, .int z_28), (7, .int a4), (0, .ref r0), (1, .int a1), (2, .int a2), (3, .int a3), (4, .int a4), (5, .int a5)]) hx hb dX14_feed_102 hl (k := 7) rfl (by rw [ez_28]; rfl) (by decide) rfl (fun ls hl => ?_)
                  have hz_28 : z_28.toInt = v6_3.toInt + 1 := by rw [ez_28]; exact jb_iadd2 (rfl) (by decide) (by omega)
                  refine lv_goto (tgt := 18) hx hb dX14_feed_105 (by decide) ?_
                  exact L18 z_28 fs_27 _ _ hh_26 (by refine ⟨by omega, by omega, ?_⟩; exact hi_3_2.step (by omega) (by omega) (by omega) (by omega) (hv_26.trans (jb_a255 ez_25)) (jVby.of ez_24 rfl (by omega)) (by omega) (by first | rw [if_pos (by omega)] | rw [if_neg (by omega), if_pos (by omega)] | rw [if_neg (by omega), if_neg (by omega), if_pos (by omega)] | rw [if_neg (by omega), if_neg (by omega), if_neg (by omega), if_pos (by omega)] | rw [if_neg (by omega), if_neg (by omega), if_neg (by omega), if_neg (by omega)]) (jOth.mk (n := 4000) ho_26 rfl (by omega)) (by omega)) (by omega) _ (lv_sub hl [2, 3, 4, 5, 6, 7, 0] rfl)
              · skip
                have c_9' : v6_3.toInt < 12 := jb_ge_n (rfl) ((by decide)) c_9
                refine lv_iload_n hx hb dX14_feed_53 rfl (lv_at hl 3 rfl) ?_
                refine lv_goto (tgt := 71) hx hb dX14_feed_54 (by decide) ?_
                refine lv_istore (lv' := [(7, .int a3), (0, .ref r0), (1, .int a1), (2, .int a2), (3, .int a3), (4, .int a4), (5, .int a5), (6, .int v6_3)]) hx hb dX14_feed_71 hl (by decide) rfl (fun ls hl => ?_)
                refine lv_aload_n hx hb dX14_feed_73 rfl (lv_at hl 1 rfl) ?_
                refine j7_read hx hb hown hK (C := RX14) (T := TX14) (N := 74) rfl hly_16_0 hlk_9 (hh_3.at 1 rfl) dX14_feed_74 ?_
                refine lv_aload_n hx hb dX14_feed_77 rfl (lv_at hl 1 rfl) ?_
                refine j7_read hx hb hown hK (C := RX14) (T := TX14) (N := 74) rfl hly_16_1 hlk_217 (hh_3.at 0 rfl) dX14_feed_78 ?_
                refine lv_iload hx hb dX14_feed_81 (lv_at hl 7 rfl) ?_
                refine lv_iadd hx hb dX14_feed_83 ?_
                refine lv_topi (fun z_29 ez_29 => ?_)
                have hz_29 : z_29.toInt = pd.toInt + v6_3.toInt := by rw [ez_29]; exact jb_iadd2 (rfl) (rfl) (by omega)
                refine lv_iload hx hb dX14_feed_84 (lv_at hl 0 rfl) ?_
                refine lv_bipush (v := 24) hx hb dX14_feed_86 (by decide) ?_
                refine lv_bipush (v := 8) hx hb dX14_feed_88 (by decide) ?_
                refine lv_iload hx hb dX14_feed_90 (lv_at hl 7 rfl) ?_
                refine lv_iconst (v := 4) hx hb dX14_feed_92 (by decide) ?_
                refine lv_irem hx hb dX14_feed_93 (by decide) ?_
                refine lv_topi (fun z_30 ez_30 => ?_)
                have hz_30 := jb_irem (n := 4) ez_30 (by decide) (by decide)
                refine lv_imul hx hb dX14_feed_94 ?_
                refine lv_topi (fun z_31 ez_31 => ?_)
                have hz_31 : z_31.toInt = 8 * z_30.toInt := by rw [ez_31]; exact jb_imul2 ((by decide)) (rfl) (by omega)
                refine lv_isub hx hb dX14_feed_95 ?_
                refine lv_topi (fun z_32 ez_32 => ?_)
                have hz_32 : z_32.toInt = 24 - z_31.toInt := by rw [ez_32]; exact jb_isub2 ((by decide)) (rfl) (by omega)
                refine lv_ishr hx hb dX14_feed_96 ?_
                refine lv_topi (fun z_33 ez_33 => ?_)
                refine lv_sipush (v := 255) hx hb dX14_feed_97 (by decide) ?_
                refine lv_iand hx hb dX14_feed_100 ?_
                refine lv_topi (fun z_34 ez_34 => ?_)
                have hz_34 : 0 ≤ z_34.toInt ∧ z_34.toInt ≤ 255 := by rw [ez_34]; exact jb_and z_33 (m := 255) (k := 8) (by decide) (by decide)
                refine j7_iastU hx hb hK hh_3 hB hB111 1 rfl (by decide) (by decide) rfl 0 rfl (M1 := []) [] rfl rfl rfl hg_tp_ (x := z_29.toInt) (rfl) (by omega) (by first | omega | (refine ⟨?_, ?_⟩ <;> (first | omega | rfl | assumption | decide | exact Or.inl rfl | exact Or.inr rfl | (simp only; omega)))) dX14_feed_101 (fun H_35 locs_35 fs_36 hv_35 ho_35 hh_35 => ?_)
                have hv_35 : jSo fs_36 (z_29.toInt) = z_34.toInt := by unfold jSo; rw [hv_35]; try exact rfl
                rw [show z_29.toInt = (pd.toInt + v6_3.toInt) by omega] at hv_35 ho_35
                clear hh_3
                obtain ⟨z_37, ez_37⟩ : ∃ y : Int32, y = v6_3 + 1 := ⟨_, rfl⟩
                refine lv_iinc (v := z_37) (lv' := [(6, .int z_37), (7, .int a3), (0, .ref r0), (1, .int a1), (2, .int a2), (3, .int a3), (4, .int a4), (5, .int a5)]) hx hb dX14_feed_102 hl (k := 7) rfl (by rw [ez_37]; rfl) (by decide) rfl (fun ls hl => ?_)
                have hz_37 : z_37.toInt = v6_3.toInt + 1 := by rw [ez_37]; exact jb_iadd2 (rfl) (by decide) (by omega)
                refine lv_goto (tgt := 18) hx hb dX14_feed_105 (by decide) ?_
                exact L18 z_37 fs_36 _ _ hh_35 (by refine ⟨by omega, by omega, ?_⟩; exact hi_3_2.step (by omega) (by omega) (by omega) (by omega) (hv_35.trans (jb_a255 ez_34)) (jVby.of ez_33 rfl (by omega)) (by omega) (by first | rw [if_pos (by omega)] | rw [if_neg (by omega), if_pos (by omega)] | rw [if_neg (by omega), if_neg (by omega), if_pos (by omega)] | rw [if_neg (by omega), if_neg (by omega), if_neg (by omega), if_pos (by omega)] | rw [if_neg (by omega), if_neg (by omega), if_neg (by omega), if_neg (by omega)]) (jOth.mk (n := 4000) ho_35 rfl (by omega)) (by omega)) (by omega) _ (lv_sub hl [2, 3, 4, 5, 6, 7, 0] rfl)
            · skip
              have c_8' : v6_3.toInt < 8 := jb_ge_n (rfl) ((by decide)) c_8
              refine lv_iload_n hx hb dX14_feed_42 rfl (lv_at hl 2 rfl) ?_
              refine lv_goto (tgt := 71) hx hb dX14_feed_43 (by decide) ?_
              refine lv_istore (lv' := [(7, .int a2), (0, .ref r0), (1, .int a1), (2, .int a2), (3, .int a3), (4, .int a4), (5, .int a5), (6, .int v6_3)]) hx hb dX14_feed_71 hl (by decide) rfl (fun ls hl => ?_)
              refine lv_aload_n hx hb dX14_feed_73 rfl (lv_at hl 1 rfl) ?_
              refine j7_read hx hb hown hK (C := RX14) (T := TX14) (N := 74) rfl hly_16_0 hlk_9 (hh_3.at 1 rfl) dX14_feed_74 ?_
              refine lv_aload_n hx hb dX14_feed_77 rfl (lv_at hl 1 rfl) ?_
              refine j7_read hx hb hown hK (C := RX14) (T := TX14) (N := 74) rfl hly_16_1 hlk_217 (hh_3.at 0 rfl) dX14_feed_78 ?_
              refine lv_iload hx hb dX14_feed_81 (lv_at hl 7 rfl) ?_
              refine lv_iadd hx hb dX14_feed_83 ?_
              refine lv_topi (fun z_38 ez_38 => ?_)
              have hz_38 : z_38.toInt = pd.toInt + v6_3.toInt := by rw [ez_38]; exact jb_iadd2 (rfl) (rfl) (by omega)
              refine lv_iload hx hb dX14_feed_84 (lv_at hl 0 rfl) ?_
              refine lv_bipush (v := 24) hx hb dX14_feed_86 (by decide) ?_
              refine lv_bipush (v := 8) hx hb dX14_feed_88 (by decide) ?_
              refine lv_iload hx hb dX14_feed_90 (lv_at hl 7 rfl) ?_
              refine lv_iconst (v := 4) hx hb dX14_feed_92 (by decide) ?_
              refine lv_irem hx hb dX14_feed_93 (by decide) ?_
              refine lv_topi (fun z_39 ez_39 => ?_)
              have hz_39 := jb_irem (n := 4) ez_39 (by decide) (by decide)
              refine lv_imul hx hb dX14_feed_94 ?_
              refine lv_topi (fun z_40 ez_40 => ?_)
              have hz_40 : z_40.toInt = 8 * z_39.toInt := by rw [ez_40]; exact jb_imul2 ((by decide)) (rfl) (by omega)
              refine lv_isub hx hb dX14_feed_95 ?_
              refine lv_topi (fun z_41 ez_41 => ?_)
              have hz_41 : z_41.toInt = 24 - z_40.toInt := by rw [ez_41]; exact jb_isub2 ((by decide)) (rfl) (by omega)
              refine lv_ishr hx hb dX14_feed_96 ?_
              refine lv_topi (fun z_42 ez_42 => ?_)
              refine lv_sipush (v := 255) hx hb dX14_feed_97 (by decide) ?_
              refine lv_iand hx hb dX14_feed_100 ?_
              refine lv_topi (fun z_43 ez_43 => ?_)
              have hz_43 : 0 ≤ z_43.toInt ∧ z_43.toInt ≤ 255 := by rw [ez_43]; exact jb_and z_42 (m := 255) (k := 8) (by decide) (by decide)
              refine j7_iastU hx hb hK hh_3 hB hB111 1 rfl (by decide) (by decide) rfl 0 rfl (M1 := []) [] rfl rfl rfl hg_tp_ (x := z_38.toInt) (rfl) (by omega) (by first | omega | (refine ⟨?_, ?_⟩ <;> (first | omega | rfl | assumption | decide | exact Or.inl rfl | exact Or.inr rfl | (simp only; omega)))) dX14_feed_101 (fun H_44 locs_44 fs_45 hv_44 ho_44 hh_44 => ?_)
              have hv_44 : jSo fs_45 (z_38.toInt) = z_43.toInt := by unfold jSo; rw [hv_44]; try exact rfl
              rw [show z_38.toInt = (pd.toInt + v6_3.toInt) by omega] at hv_44 ho_44
              clear hh_3
              obtain ⟨z_46, ez_46⟩ : ∃ y : Int32, y = v6_3 + 1 := ⟨_, rfl⟩
              refine lv_iinc (v := z_46) (lv' := [(6, .int z_46), (7, .int a2), (0, .ref r0), (1, .int a1), (2, .int a2), (3, .int a3), (4, .int a4), (5, .int a5)]) hx hb dX14_feed_102 hl (k := 7) rfl (by rw [ez_46]; rfl) (by decide) rfl (fun ls hl => ?_)
              have hz_46 : z_46.toInt = v6_3.toInt + 1 := by rw [ez_46]; exact jb_iadd2 (rfl) (by decide) (by omega)
              refine lv_goto (tgt := 18) hx hb dX14_feed_105 (by decide) ?_
              exact L18 z_46 fs_45 _ _ hh_44 (by refine ⟨by omega, by omega, ?_⟩; exact hi_3_2.step (by omega) (by omega) (by omega) (by omega) (hv_44.trans (jb_a255 ez_43)) (jVby.of ez_42 rfl (by omega)) (by omega) (by first | rw [if_pos (by omega)] | rw [if_neg (by omega), if_pos (by omega)] | rw [if_neg (by omega), if_neg (by omega), if_pos (by omega)] | rw [if_neg (by omega), if_neg (by omega), if_neg (by omega), if_pos (by omega)] | rw [if_neg (by omega), if_neg (by omega), if_neg (by omega), if_neg (by omega)]) (jOth.mk (n := 4000) ho_44 rfl (by omega)) (by omega)) (by omega) _ (lv_sub hl [2, 3, 4, 5, 6, 7, 0] rfl)
          · skip
            have c_7' : v6_3.toInt < 4 := jb_ge_n (rfl) ((by decide)) c_7
            refine lv_iload_n hx hb dX14_feed_31 rfl (lv_at hl 1 rfl) ?_
            refine lv_goto (tgt := 71) hx hb dX14_feed_32 (by decide) ?_
            refine lv_istore (lv' := [(7, .int a1), (0, .ref r0), (1, .int a1), (2, .int a2), (3, .int a3), (4, .int a4), (5, .int a5), (6, .int v6_3)]) hx hb dX14_feed_71 hl (by decide) rfl (fun ls hl => ?_)
            refine lv_aload_n hx hb dX14_feed_73 rfl (lv_at hl 1 rfl) ?_
            refine j7_read hx hb hown hK (C := RX14) (T := TX14) (N := 74) rfl hly_16_0 hlk_9 (hh_3.at 1 rfl) dX14_feed_74 ?_
            refine lv_aload_n hx hb dX14_feed_77 rfl (lv_at hl 1 rfl) ?_
            refine j7_read hx hb hown hK (C := RX14) (T := TX14) (N := 74) rfl hly_16_1 hlk_217 (hh_3.at 0 rfl) dX14_feed_78 ?_
            refine lv_iload hx hb dX14_feed_81 (lv_at hl 7 rfl) ?_
            refine lv_iadd hx hb dX14_feed_83 ?_
            refine lv_topi (fun z_47 ez_47 => ?_)
            have hz_47 : z_47.toInt = pd.toInt + v6_3.toInt := by rw [ez_47]; exact jb_iadd2 (rfl) (rfl) (by omega)
            refine lv_iload hx hb dX14_feed_84 (lv_at hl 0 rfl) ?_
            refine lv_bipush (v := 24) hx hb dX14_feed_86 (by decide) ?_
            refine lv_bipush (v := 8) hx hb dX14_feed_88 (by decide) ?_
            refine lv_iload hx hb dX14_feed_90 (lv_at hl 7 rfl) ?_
            refine lv_iconst (v := 4) hx hb dX14_feed_92 (by decide) ?_
            refine lv_irem hx hb dX14_feed_93 (by decide) ?_
            refine lv_topi (fun z_48 ez_48 => ?_)
            have hz_48 := jb_irem (n := 4) ez_48 (by decide) (by decide)
            refine lv_imul hx hb dX14_feed_94 ?_
            refine lv_topi (fun z_49 ez_49 => ?_)
            have hz_49 : z_49.toInt = 8 * z_48.toInt := by rw [ez_49]; exact jb_imul2 ((by decide)) (rfl) (by omega)
            refine lv_isub hx hb dX14_feed_95 ?_
            refine lv_topi (fun z_50 ez_50 => ?_)
            have hz_50 : z_50.toInt = 24 - z_49.toInt := by rw [ez_50]; exact jb_isub2 ((by decide)) (rfl) (by omega)
            refine lv_ishr hx hb dX14_feed_96 ?_
            refine lv_topi (fun z_51 ez_51 => ?_)
            refine lv_sipush (v := 255) hx hb dX14_feed_97 (by decide) ?_
            refine lv_iand hx hb dX14_feed_100 ?_
            refine lv_topi (fun z_52 ez_52 => ?_)
            have hz_52 : 0 ≤ z_52.toInt ∧ z_52.toInt ≤ 255 := by rw [ez_52]; exact jb_and z_51 (m := 255) (k := 8) (by decide) (by decide)
            refine j7_iastU hx hb hK hh_3 hB hB111 1 rfl (by decide) (by decide) rfl 0 rfl (M1 := []) [] rfl rfl rfl hg_tp_ (x := z_47.toInt) (rfl) (by omega) (by first | omega | (refine ⟨?_, ?_⟩ <;> (first | omega | rfl | assumption | decide | exact Or.inl rfl | exact Or.inr rfl | (simp only; omega)))) dX14_feed_101 (fun H_53 locs_53 fs_54 hv_53 ho_53 hh_53 => ?_)
            have hv_53 : jSo fs_54 (z_47.toInt) = z_52.toInt := by unfold jSo; rw [hv_53]; try exact rfl
            rw [show z_47.toInt = (pd.toInt + v6_3.toInt) by omega] at hv_53 ho_53
            clear hh_3
            obtain ⟨z_55, ez_55⟩ : ∃ y : Int32, y = v6_3 + 1 := ⟨_, rfl⟩
            refine lv_iinc (v := z_55) (lv' := [(6, .int z_55), (7, .int a1), (0, .ref r0), (1, .int a1), (2, .int a2), (3, .int a3), (4, .int a4), (5, .int a5)]) hx hb dX14_feed_102 hl (k := 7) rfl (by rw [ez_55]; rfl) (by decide) rfl (fun ls hl => ?_)
            have hz_55 : z_55.toInt = v6_3.toInt + 1 := by rw [ez_55]; exact jb_iadd2 (rfl) (by decide) (by omega)
            refine lv_goto (tgt := 18) hx hb dX14_feed_105 (by decide) ?_
            exact L18 z_55 fs_54 _ _ hh_53 (by refine ⟨by omega, by omega, ?_⟩; exact hi_3_2.step (by omega) (by omega) (by omega) (by omega) (hv_53.trans (jb_a255 ez_52)) (jVby.of ez_51 rfl (by omega)) (by omega) (by first | rw [if_pos (by omega)] | rw [if_neg (by omega), if_pos (by omega)] | rw [if_neg (by omega), if_neg (by omega), if_pos (by omega)] | rw [if_neg (by omega), if_neg (by omega), if_neg (by omega), if_pos (by omega)] | rw [if_neg (by omega), if_neg (by omega), if_neg (by omega), if_neg (by omega)]) (jOth.mk (n := 4000) ho_53 rfl (by omega)) (by omega)) (by omega) _ (lv_sub hl [2, 3, 4, 5, 6, 7, 0] rfl)
    exact L18 (20 - (0 : Int32).toInt : Int).toNat.succ 0 fg _ _ hh (by refine ⟨by omega, by omega, ?_⟩; rw [hk0, hfz0]; exact jVfd.start _ _ _ _ _ _ _) (by omega) _ (lv_sub hl [1, 2, 3, 4, 5, 6, 0] rfl)
  · skip
    have c_2' : z_1.toInt > 4000 := jb_le_n (rfl) ((by decide)) c_2
    refine lv_iconst (v := (-1)) hx hb dX14_feed_13 (by decide) ?_
    rw [hQ]
    exact W.iret (v := (-1)) hx hb hr (fun t ht hW => ⟨⟨(-1), (pd, fg), rfl, by (try dsimp only); refine ⟨by omega, Or.inl ⟨by omega, by omega, rfl⟩⟩, ⟨hh.rt (M1 := [(r0, 16, 1, .int pd)]) [0] rfl ht, by rw [ht]; exact hh.2.2.2.2.2.2.2.1.sub [0] rfl⟩⟩, by rw [ht]; try exact hh.1.1, fun q h9 hq => by rw [ht]; try exact hh.1.2.1 q h9 hq⟩) hh.1.2.2 dX14_feed_14
end
