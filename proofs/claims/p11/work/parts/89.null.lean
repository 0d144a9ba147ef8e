theorem dX14_numberOf_0 : decode cX14_numberOf 0 = .ok (.iconst 0, 1) := by decide +kernel
theorem dX14_numberOf_1 : decode cX14_numberOf 1 = .ok (.istore_n 2, 1) := by decide +kernel
theorem dX14_numberOf_2 : decode cX14_numberOf 2 = .ok (.iload_n 2, 1) := by decide +kernel
theorem dX14_numberOf_3 : decode cX14_numberOf 3 = .ok (.aload_n 0, 1) := by decide +kernel
theorem dX14_numberOf_4 : decode cX14_numberOf 4 = .ok (.getfield 505, 3) := by decide +kernel
theorem dX14_numberOf_7 : decode cX14_numberOf 7 = .ok (.if_icmp .ge 21, 3) := by decide +kernel
theorem dX14_numberOf_10 : decode cX14_numberOf 10 = .ok (.aload_n 0, 1) := by decide +kernel
theorem dX14_numberOf_11 : decode cX14_numberOf 11 = .ok (.getfield 74, 3) := by decide +kernel
theorem dX14_numberOf_14 : decode cX14_numberOf 14 = .ok (.iload_n 2, 1) := by decide +kernel
theorem dX14_numberOf_15 : decode cX14_numberOf 15 = .ok (.aaload, 1) := by decide +kernel
theorem dX14_numberOf_16 : decode cX14_numberOf 16 = .ok (.aload_n 1, 1) := by decide +kernel
theorem dX14_numberOf_17 : decode cX14_numberOf 17 = .ok (.if_acmp .ne 5, 3) := by decide +kernel
theorem dX14_numberOf_20 : decode cX14_numberOf 20 = .ok (.iload_n 2, 1) := by decide +kernel
theorem dX14_numberOf_21 : decode cX14_numberOf 21 = .ok (.ireturn, 1) := by decide +kernel
theorem dX14_numberOf_22 : decode cX14_numberOf 22 = .ok (.iinc 2 1, 3) := by decide +kernel
theorem dX14_numberOf_25 : decode cX14_numberOf 25 = .ok (.goto (-23), 3) := by decide +kernel
theorem dX14_numberOf_28 : decode cX14_numberOf 28 = .ok (.iconst (-1), 1) := by decide +kernel
theorem dX14_numberOf_29 : decode cX14_numberOf 29 = .ok (.ireturn, 1) := by decide +kernel
theorem dX14_state_0 : decode cX14_state 0 = .ok (.iload_n 1, 1) := by decide +kernel
theorem dX14_state_1 : decode cX14_state 1 = .ok (.tableswitch 152 0 12 #[67, 80, 85, 90, 95, 100, 105, 110, 115, 120, 125, 130, 141], 67) := by decide +kernel
theorem dX14_state_68 : decode cX14_state 68 = .ok (.aload_n 0, 1) := by decide +kernel
theorem dX14_state_69 : decode cX14_state 69 = .ok (.getfield 202, 3) := by decide +kernel
theorem dX14_state_72 : decode cX14_state 72 = .ok (.ifCond .eq 7, 3) := by decide +kernel
theorem dX14_state_75 : decode cX14_state 75 = .ok (.iconst 1, 1) := by decide +kernel
theorem dX14_state_76 : decode cX14_state 76 = .ok (.goto 4, 3) := by decide +kernel
theorem dX14_state_79 : decode cX14_state 79 = .ok (.iconst 0, 1) := by decide +kernel
theorem dX14_state_80 : decode cX14_state 80 = .ok (.ireturn, 1) := by decide +kernel
theorem dX14_state_81 : decode cX14_state 81 = .ok (.aload_n 0, 1) := by decide +kernel
theorem dX14_state_82 : decode cX14_state 82 = .ok (.getfield 258, 3) := by decide +kernel
theorem dX14_state_85 : decode cX14_state 85 = .ok (.ireturn, 1) := by decide +kernel
theorem dX14_state_86 : decode cX14_state 86 = .ok (.aload_n 0, 1) := by decide +kernel
theorem dX14_state_87 : decode cX14_state 87 = .ok (.getfield 264, 3) := by decide +kernel
theorem dX14_state_90 : decode cX14_state 90 = .ok (.ireturn, 1) := by decide +kernel
theorem dX14_state_91 : decode cX14_state 91 = .ok (.aload_n 0, 1) := by decide +kernel
theorem dX14_state_92 : decode cX14_state 92 = .ok (.getfield 505, 3) := by decide +kernel
theorem dX14_state_95 : decode cX14_state 95 = .ok (.ireturn, 1) := by decide +kernel
theorem dX14_state_96 : decode cX14_state 96 = .ok (.aload_n 0, 1) := by decide +kernel
theorem dX14_state_97 : decode cX14_state 97 = .ok (.getfield 711, 3) := by decide +kernel
theorem dX14_state_100 : decode cX14_state 100 = .ok (.ireturn, 1) := by decide +kernel
theorem dX14_state_101 : decode cX14_state 101 = .ok (.aload_n 0, 1) := by decide +kernel
theorem dX14_state_102 : decode cX14_state 102 = .ok (.getfield 769, 3) := by decide +kernel
theorem dX14_state_105 : decode cX14_state 105 = .ok (.ireturn, 1) := by decide +kernel
theorem dX14_state_106 : decode cX14_state 106 = .ok (.aload_n 0, 1) := by decide +kernel
theorem dX14_state_107 : decode cX14_state 107 = .ok (.getfield 799, 3) := by decide +kernel
theorem dX14_state_110 : decode cX14_state 110 = .ok (.ireturn, 1) := by decide +kernel
theorem dX14_state_111 : decode cX14_state 111 = .ok (.aload_n 0, 1) := by decide +kernel
theorem dX14_state_112 : decode cX14_state 112 = .ok (.getfield 796, 3) := by decide +kernel
theorem dX14_state_115 : decode cX14_state 115 = .ok (.ireturn, 1) := by decide +kernel
theorem dX14_state_116 : decode cX14_state 116 = .ok (.aload_n 0, 1) := by decide +kernel
theorem dX14_state_117 : decode cX14_state 117 = .ok (.getfield 214, 3) := by decide +kernel
theorem dX14_state_120 : decode cX14_state 120 = .ok (.ireturn, 1) := by decide +kernel
theorem dX14_state_121 : decode cX14_state 121 = .ok (.aload_n 0, 1) := by decide +kernel
theorem dX14_state_122 : decode cX14_state 122 = .ok (.getfield 217, 3) := by decide +kernel
theorem dX14_state_125 : decode cX14_state 125 = .ok (.ireturn, 1) := by decide +kernel
theorem dX14_state_126 : decode cX14_state 126 = .ok (.aload_n 0, 1) := by decide +kernel
theorem dX14_state_127 : decode cX14_state 127 = .ok (.getfield 211, 3) := by decide +kernel
theorem dX14_state_130 : decode cX14_state 130 = .ok (.ireturn, 1) := by decide +kernel
theorem dX14_state_131 : decode cX14_state 131 = .ok (.aload_n 0, 1) := by decide +kernel
theorem dX14_state_132 : decode cX14_state 132 = .ok (.aload_n 0, 1) := by decide +kernel
theorem dX14_state_133 : decode cX14_state 133 = .ok (.getfield 129, 3) := by decide +kernel
theorem dX14_state_136 : decode cX14_state 136 = .ok (.iconst 0, 1) := by decide +kernel
theorem dX14_state_137 : decode cX14_state 137 = .ok (.aaload, 1) := by decide +kernel
theorem dX14_state_138 : decode cX14_state 138 = .ok (.invokevirtual 811, 3) := by decide +kernel
theorem dX14_state_141 : decode cX14_state 141 = .ok (.ireturn, 1) := by decide +kernel
theorem dX14_state_142 : decode cX14_state 142 = .ok (.aload_n 0, 1) := by decide +kernel
theorem dX14_state_143 : decode cX14_state 143 = .ok (.aload_n 0, 1) := by decide +kernel
theorem dX14_state_144 : decode cX14_state 144 = .ok (.getfield 129, 3) := by decide +kernel
theorem dX14_state_147 : decode cX14_state 147 = .ok (.iconst 1, 1) := by decide +kernel
theorem dX14_state_148 : decode cX14_state 148 = .ok (.aaload, 1) := by decide +kernel
theorem dX14_state_149 : decode cX14_state 149 = .ok (.invokevirtual 811, 3) := by decide +kernel
theorem dX14_state_152 : decode cX14_state 152 = .ok (.ireturn, 1) := by decide +kernel
theorem dX14_state_153 : decode cX14_state 153 = .ok (.iconst (-1), 1) := by decide +kernel
theorem dX14_state_154 : decode cX14_state 154 = .ok (.ireturn, 1) := by decide +kernel
def EX14_numberOf : List (Nat × Nat) := []
def EX14_numberOfZ : List (Nat × Nat) := []
def EX14_state : List (Nat × Nat) := []
set_option maxHeartbeats 4000000 in
set_option maxRecDepth 20000 in
theorem uX14_numberOf (l : Launch) (dC : Nat → ClassId) (dI : Nat → Nat → Nat) (ca : Nat → ClassId) (base : Nat) (B : jF) (hB : jBok B) (hAp : jAp (dC, dI)) (hB14 : ∀ n G a H, B 14 n G a H ↔ jOb (dC, dI) 14 11 (F14 n G) a H) (hB16 : ∀ n G a H, B 16 n G a H ↔ jOb (dC, dI) 16 74 (F16 n G) a H) (hB201 : ∀ n G a H, B 201 n G a H ↔ jAq (dC, dI) (ca 4) (jQs 14 0) n G a H) (G0 : jT) (H0 : Heap) (r0 : Nat) (r1 : Nat) : Met l yX14_numberOf (jw yX14_numberOf cX14_numberOf 3 (some .int)) ({ frames := 0, cells := 0, slots := 0, locals := 0 }) (va_Pc [.ref r0, .ref r1] (fun U => U.heap = H0 ∧ jX B base G0 [] H0 ∧ jG dC dI ca base U ∧ jK2 dC dI ca U ∧ G0 r1 = some (14, 0) ∧ G0 r0 = some (16, 0) ∧ jP (dC, dI) G0 H0 [] ∧ True)) (va_Qi (S := Unit) (fun r u => (-1 ≤ r.toInt ∧ r.toInt ≤ 2)) (fun u t => jRt (dC, dI) B base G0 EX14_numberOf H0 [] t.heap) (jA base)) 0 0 (jA base) := by
  refine Met.ofW (cc := cX14_numberOf) (maxL := 3) (ret := (some .int)) (by decide) rfl ?_
  intro p e s m args below meth c s₁ Bd hml hv
  obtain ⟨rfl, hH0, hX, hG, hK2, hg_r1, hg_r0, hP0, hp0⟩ := hv
  have hK := hG.1
  have hx := Bd.exec
  have hb := Bd.bytes
  have hr := Bd.returns
  have hts := atoms_spec (ws := (jw yX14_numberOf cX14_numberOf 3 (some .int))) Bd.pre
  have htw : ∀ w ∈ jWl, w.before _ s = true := fun w h => hts w (List.mem_cons_of_mem _ h)
  have hown : s.vm.findClass RX14 = some m.cls := findClass_of_methodNamed Bd.named
  have hlocks := Bd.notSynchronized
  obtain ⟨Q, hQ⟩ : ∃ Q, Q = MQ below (va_Qi (S := Unit) (fun r u => (-1 ≤ r.toInt ∧ r.toInt ≤ 2)) (fun u t => jRt (dC, dI) B base G0 EX14_numberOf H0 [] t.heap) (jA base)) ([.ref r0, .ref r1] : List Value).toArray s 0 0 (jA base) := ⟨_, rfl⟩
  rw [← hQ]
  have hl := lv_entry ([.ref r0, .ref r1]) (n := 3) (Nat.le_of_ble_eq_true rfl)
  rw [lg_entry_eq]
  generalize (lg_sl ([.ref r0, .ref r1]) ++ List.replicate (3 - (lg_sl ([.ref r0, .ref r1])).length) Slot.unset).toArray = ls at hl ⊢
  have hl : lv_has ls 3 [(0, .ref r0), (1, .ref r1)] := hl
  generalize hR : (headSpec (jw yX14_numberOf cX14_numberOf 3 (some .int)) ({ frames := 0, cells := 0, slots := 0, locals := 0 })).room = R
  subst hH0
  have hh : jSt (dC, dI) B base G0 G0 EX14_numberOf s.heap 0 0 [] [] [] s.heap [] := jSt.start hX hP0 jMc.nil jIs.nil
  clear hX hP0
  have hkm1 : ((-1) : Int32).toInt = (-1) := by decide
  have hk0 : (0 : Int32).toInt = 0 := by decide
  have hk1 : (1 : Int32).toInt = 1 := by decide
  have hly_16_41 := htw (u_lay RX14 TX14 41) (jWc_wsX140 _ (u_in_lay (by decide)))
  have hly_16_42 := htw (u_lay RX14 TX14 42) (jWc_wsX140 _ (u_in_lay (by decide)))
  have hlk_505 := (htw (.fieldLink RX14 505 "ProofServerModel" "documentCount" "I") (jWr_57 _ (List.mem_of_getElem? (i := 5) rfl)))
  have hlk_74 := (htw (.fieldLink RX14 74 "ProofServerModel" "documents" "[LProofServerModel$Document;") (jWr_11 _ (List.mem_of_getElem? (i := 19) rfl)))
  refine lv_iconst (v := 0) hx hb dX14_numberOf_0 (by decide) ?_
  refine lv_istore_n (lv' := [(2, .int 0), (0, .ref r0), (1, .ref r1)]) hx hb dX14_numberOf_1 rfl hl (by decide) rfl (fun ls hl => ?_)
  obtain ⟨v_1, hv_1, hh_2⟩ := hh.pin (C := RX14) (T := TX14) (N := 74) hB16 rfl (by decide) hg_r0 (i := 42) (by decide) rfl
  obtain ⟨documentCount_3, rfl, hlodocumentCount_3, hhidocumentCount_3⟩ := hv_1
  have L2 : ∀ (N : Nat) (v2_4 : Int32) (H_4 : Heap) (locs_4 : List Loc), jSt (dC, dI) B base G0 G0 EX14_numberOf s.heap 0 0 [(r0, 16, 42, .int documentCount_3)] [] [] H_4 locs_4 → (0 ≤ v2_4.toInt ∧ v2_4.toInt ≤ documentCount_3.toInt) → (documentCount_3.toInt - v2_4.toInt : Int) < N → ∀ ls : Array Slot, lv_has ls 3 [(0, .ref r0), (1, .ref r1), (2, .int v2_4)] → W p l e R s m ([.ref r0, .ref r1] : List Value).toArray below meth c H_4 locs_4 0 0 Q (F0 m 2 ls []) := by
    intro N
    induction N with
    | zero => intro v2_4 H_4 locs_4 hh_4  hi_4 hm; exact absurd hm (by omega)
    | succ N L2 =>
      intro v2_4 H_4 locs_4 hh_4  hi_4 hm_4 ls hl
      obtain ⟨hi_4_0, hi_4_1⟩ := hi_4
      refine lv_iload_n hx hb dX14_numberOf_2 rfl (lv_at hl 2 rfl) ?_
      refine lv_aload_n hx hb dX14_numberOf_3 rfl (lv_at hl 0 rfl) ?_
      refine j7_read hx hb hown hK (C := RX14) (T := TX14) (N := 74) rfl hly_16_42 hlk_505 (hh_4.at 0 rfl) dX14_numberOf_4 ?_
      refine lv_icmp_ge (tgt := 28) hx hb dX14_numberOf_7 (by decide) (fun c_5 => ?_) (fun c_5 => ?_)
      · skip
        have c_5' : v2_4.toInt ≥ documentCount_3.toInt := jb_ge (rfl) (rfl) c_5
        refine lv_iconst (v := (-1)) hx hb dX14_numberOf_28 (by decide) ?_
        rw [hQ]
        exact W.iret (v := (-1)) hx hb hr (fun t ht hW => ⟨⟨(-1), (), rfl, by first | omega | (refine ⟨?_, ?_⟩ <;> (first | omega | rfl | assumption | decide | exact Or.inl rfl | exact Or.inr rfl | (simp only; omega))), hh_4.rt (M1 := []) [] rfl ht⟩, by rw [ht]; try exact hh_4.1.1, fun q h9 hq => by rw [ht]; try exact hh_4.1.2.1 q h9 hq⟩) hh_4.1.2.2 dX14_numberOf_29
      · skip
        have c_5' : v2_4.toInt < documentCount_3.toInt := jb_ge_n (rfl) (rfl) c_5
        refine lv_aload_n hx hb dX14_numberOf_10 rfl (lv_at hl 0 rfl) ?_
        obtain ⟨v_6, hv_6, hh_7⟩ := hh_4.pin (C := RX14) (T := TX14) (N := 74) hB16 rfl (by decide) hg_r0 (i := 41) (by decide) rfl
        clear hh_4
        obtain ⟨documents_8, rfl, hg_documents_8⟩ := hv_6
        refine j7_read hx hb hown hK (C := RX14) (T := TX14) (N := 74) rfl hly_16_41 hlk_74 (hh_7.at 0 rfl) dX14_numberOf_11 ?_
        refine lv_iload_n hx hb dX14_numberOf_14 rfl (lv_at hl 2 rfl) ?_
        refine j7_qald hx hb hK2 hh_7 hB201 0 rfl (by decide) hg_documents_8 (x := v2_4.toInt) (rfl) (by omega) dX14_numberOf_15 (fun o_9 ho_9 => ?_)
        obtain ⟨el_10, rfl, hg_el_10⟩ := ho_9
        simp only [va_rf]
        refine lv_aload_n hx hb dX14_numberOf_16 rfl (lv_at hl 1 rfl) ?_
        refine lv_acmp_ne (rx := (some el_10)) (ry := (some r1)) (tgt := 22) hx hb dX14_numberOf_17 (by decide) (fun c_11 => ?_) (fun c_11 => ?_)
        · skip
          obtain ⟨z_12, ez_12⟩ : ∃ y : Int32, y = v2_4 + 1 := ⟨_, rfl⟩
          refine lv_iinc (v := z_12) (lv' := [(2, .int z_12), (0, .ref r0), (1, .ref r1)]) hx hb dX14_numberOf_22 hl (k := 2) rfl (by rw [ez_12]; rfl) (by decide) rfl (fun ls hl => ?_)
          have hz_12 : z_12.toInt = v2_4.toInt + 1 := by rw [ez_12]; exact jb_iadd2 (rfl) (by decide) (by omega)
          refine lv_goto (tgt := 2) hx hb dX14_numberOf_25 (by decide) ?_
          exact L2 z_12 _ _ (hh_7.sub (L1 := [(r0, 16, 42, .int documentCount_3)]) [1] rfl (M1 := []) [] rfl (I1 := []) [] rfl) (by first | omega | (refine ⟨?_, ?_⟩ <;> (first | omega | rfl | assumption | decide | exact Or.inl rfl | exact Or.inr rfl | (simp only; omega)))) (by omega) _ (lv_sub hl [1, 2, 0] rfl)
        · skip
          refine lv_iload_n hx hb dX14_numberOf_20 rfl (lv_at hl 2 rfl) ?_
          rw [hQ]
          exact W.iret (v := v2_4) hx hb hr (fun t ht hW => ⟨⟨v2_4, (), rfl, by first | omega | (refine ⟨?_, ?_⟩ <;> (first | omega | rfl | assumption | decide | exact Or.inl rfl | exact Or.inr rfl | (simp only; omega))), hh_7.rt (M1 := []) [] rfl ht⟩, by rw [ht]; try exact hh_7.1.1, fun q h9 hq => by rw [ht]; try exact hh_7.1.2.1 q h9 hq⟩) hh_7.1.2.2 dX14_numberOf_21
  exact L2 (documentCount_3.toInt - (0 : Int32).toInt : Int).toNat.succ 0 _ _ hh_2 (by first | omega | (refine ⟨?_, ?_⟩ <;> (first | omega | rfl | assumption | decide | exact Or.inl rfl | exact Or.inr rfl | (simp only; omega)))) (by omega) _ (lv_sub hl [1, 2, 0] rfl)
set_option maxHeartbeats 4000000 in
set_option maxRecDepth 20000 in
theorem uX14_numberOfZ (l : Launch) (dC : Nat → ClassId) (dI : Nat → Nat → Nat) (ca : Nat → ClassId) (base : Nat) (B : jF) (hB : jBok B) (hAp : jAp (dC, dI)) (hB14 : ∀ n G a H, B 14 n G a H ↔ jOb (dC, dI) 14 11 (F14 n G) a H) (hB16 : ∀ n G a H, B 16 n G a H ↔ jOb (dC, dI) 16 74 (F16 n G) a H) (hB201 : ∀ n G a H, B 201 n G a H ↔ jAq (dC, dI) (ca 4) (jQs 14 0) n G a H) (G0 : jT) (H0 : Heap) (r0 : Nat) : Met l yX14_numberOf (jw yX14_numberOf cX14_numberOf 3 (some .int)) ({ frames := 0, cells := 0, slots := 0, locals := 0 }) (va_Pc [.ref r0, .null] (fun U => U.heap = H0 ∧ jX B base G0 [] H0 ∧ jG dC dI ca base U ∧ jK2 dC dI ca U ∧ G0 r0 = some (16, 0) ∧ jP (dC, dI) G0 H0 [] ∧ True)) (va_Qi (S := Unit) (fun r u => (-1 ≤ r.toInt ∧ r.toInt ≤ 2)) (fun u t => jRt (dC, dI) B base G0 EX14_numberOfZ H0 [] t.heap) (jA base)) 0 0 (jA base) := by
  refine Met.ofW (cc := cX14_numberOf) (maxL := 3) (ret := (some .int)) (by decide) rfl ?_
  intro p e s m args below meth c s₁ Bd hml hv
  obtain ⟨rfl, hH0, hX, hG, hK2, hg_r0, hP0, hp0⟩ := hv
  have hK := hG.1
  have hx := Bd.exec
  have hb := Bd.bytes
  have hr := Bd.returns
  have hts := atoms_spec (ws := (jw yX14_numberOf cX14_numberOf 3 (some .int))) Bd.pre
  have htw : ∀ w ∈ jWl, w.before _ s = true := fun w h => hts w (List.mem_cons_of_mem _ h)
  have hown : s.vm.findClass RX14 = some m.cls := findClass_of_methodNamed Bd.named
  have hlocks := Bd.notSynchronized
  obtain ⟨Q, hQ⟩ : ∃ Q, Q = MQ below (va_Qi (S := Unit) (fun r u => (-1 ≤ r.toInt ∧ r.toInt ≤ 2)) (fun u t => jRt (dC, dI) B base G0 EX14_numberOfZ H0 [] t.heap) (jA base)) ([.ref r0, .null] : List Value).toArray s 0 0 (jA base) := ⟨_, rfl⟩
  rw [← hQ]
  have hl := lv_entry ([.ref r0, .null]) (n := 3) (Nat.le_of_ble_eq_true rfl)
  rw [lg_entry_eq]
  generalize (lg_sl ([.ref r0, .null]) ++ List.replicate (3 - (lg_sl ([.ref r0, .null])).length) Slot.unset).toArray = ls at hl ⊢
  have hl : lv_has ls 3 [(0, .ref r0), (1, .null)] := hl
  generalize hR : (headSpec (jw yX14_numberOf cX14_numberOf 3 (some .int)) ({ frames := 0, cells := 0, slots := 0, locals := 0 })).room = R
  subst hH0
  have hh : jSt (dC, dI) B base G0 G0 EX14_numberOfZ s.heap 0 0 [] [] [] s.heap [] := jSt.start hX hP0 jMc.nil jIs.nil
  clear hX hP0
  have hkm1 : ((-1) : Int32).toInt = (-1) := by decide
  have hk0 : (0 : Int32).toInt = 0 := by decide
  have hk1 : (1 : Int32).toInt = 1 := by decide
  have hly_16_41 := htw (u_lay RX14 TX14 41) (jWc_wsX140 _ (u_in_lay (by decide)))
  have hly_16_42 := htw (u_lay RX14 TX14 42) (jWc_wsX140 _ (u_in_lay (by decide)))
  have hlk_505 := (htw (.fieldLink RX14 505 "ProofServerModel" "documentCount" "I") (jWr_57 _ (List.mem_of_getElem? (i := 5) rfl)))
  have hlk_74 := (htw (.fieldLink RX14 74 "ProofServerModel" "documents" "[LProofServerModel$Document;") (jWr_11 _ (List.mem_of_getElem? (i := 19) rfl)))
  refine lv_iconst (v := 0) hx hb dX14_numberOf_0 (by decide) ?_
  refine lv_istore_n (lv' := [(2, .int 0), (0, .ref r0), (1, .null)]) hx hb dX14_numberOf_1 rfl hl (by decide) rfl (fun ls hl => ?_)
  obtain ⟨v_1, hv_1, hh_2⟩ := hh.pin (C := RX14) (T := TX14) (N := 74) hB16 rfl (by decide) hg_r0 (i := 42) (by decide) rfl
  obtain ⟨documentCount_3, rfl, hlodocumentCount_3, hhidocumentCount_3⟩ := hv_1
  have L2 : ∀ (N : Nat) (v2_4 : Int32) (H_4 : Heap) (locs_4 : List Loc), jSt (dC, dI) B base G0 G0 EX14_numberOfZ s.heap 0 0 [(r0, 16, 42, .int documentCount_3)] [] [] H_4 locs_4 → (0 ≤ v2_4.toInt ∧ v2_4.toInt ≤ documentCount_3.toInt) → (documentCount_3.toInt - v2_4.toInt : Int) < N → ∀ ls : Array Slot, lv_has ls 3 [(0, .ref r0), (1, .null), (2, .int v2_4)] → W p l e R s m ([.ref r0, .null] : List Value).toArray below meth c H_4 locs_4 0 0 Q (F0 m 2 ls []) := by
    intro N
    induction N with
    | zero => intro v2_4 H_4 locs_4 hh_4  hi_4 hm; exact absurd hm (by omega)
    | succ N L2 =>
      intro v2_4 H_4 locs_4 hh_4  hi_4 hm_4 ls hl
      obtain ⟨hi_4_0, hi_4_1⟩ := hi_4
      refine lv_iload_n hx hb dX14_numberOf_2 rfl (lv_at hl 2 rfl) ?_
      refine lv_aload_n hx hb dX14_numberOf_3 rfl (lv_at hl 0 rfl) ?_
      refine j7_read hx hb hown hK (C := RX14) (T := TX14) (N := 74) rfl hly_16_42 hlk_505 (hh_4.at 0 rfl) dX14_numberOf_4 ?_
      refine lv_icmp_ge (tgt := 28) hx hb dX14_numberOf_7 (by decide) (fun c_5 => ?_) (fun c_5 => ?_)
      · skip
        have c_5' : v2_4.toInt ≥ documentCount_3.toInt := jb_ge (rfl) (rfl) c_5
        refine lv_iconst (v := (-1)) hx hb dX14_numberOf_28 (by decide) ?_
        rw [hQ]
        exact W.iret (v := (-1)) hx hb hr (fun t ht hW => ⟨⟨(-1), (), rfl, by first | omega | (refine ⟨?_, ?_⟩ <;> (first | omega | rfl | assumption | decide | exact Or.inl rfl | exact Or.inr rfl | (simp only; omega))), hh_4.rt (M1 := []) [] rfl ht⟩, by rw [ht]; try exact hh_4.1.1, fun q h9 hq => by rw [ht]; try exact hh_4.1.2.1 q h9 hq⟩) hh_4.1.2.2 dX14_numberOf_29
      · skip
        have c_5' : v2_4.toInt < documentCount_3.toInt := jb_ge_n (rfl) (rfl) c_5
        refine lv_aload_n hx hb dX14_numberOf_10 rfl (lv_at hl 0 rfl) ?_
        obtain ⟨v_6, hv_6, hh_7⟩ := hh_4.pin (C := RX14) (T := TX14) (N := 74) hB16 rfl (by decide) hg_r0 (i := 41) (by decide) rfl
        clear hh_4
        obtain ⟨documents_8, rfl, hg_documents_8⟩ := hv_6
        refine j7_read hx hb hown hK (C := RX14) (T := TX14) (N := 74) rfl hly_16_41 hlk_74 (hh_7.at 0 rfl) dX14_numberOf_11 ?_
        refine lv_iload_n hx hb dX14_numberOf_14 rfl (lv_at hl 2 rfl) ?_
        refine j7_qald hx hb hK2 hh_7 hB201 0 rfl (by decide) hg_documents_8 (x := v2_4.toInt) (rfl) (by omega) dX14_numberOf_15 (fun o_9 ho_9 => ?_)
        obtain ⟨el_10, rfl, hg_el_10⟩ := ho_9
        simp only [va_rf]
        refine j7_nld_n hx hb dX14_numberOf_16 rfl (lv_at hl 1 rfl) ?_
        refine lv_acmp_ne (rx := (some el_10)) (ry := none) (tgt := 22) hx hb dX14_numberOf_17 (by decide) (fun c_11 => ?_) (fun c_11 => ?_)
        · skip
          obtain ⟨z_12, ez_12⟩ : ∃ y : Int32, y = v2_4 + 1 := ⟨_, rfl⟩
          refine lv_iinc (v := z_12) (lv' := [(2, .int z_12), (0, .ref r0), (1, .null)]) hx hb dX14_numberOf_22 hl (k := 2) rfl (by rw [ez_12]; rfl) (by decide) rfl (fun ls hl => ?_)
          have hz_12 : z_12.toInt = v2_4.toInt + 1 := by rw [ez_12]; exact jb_iadd2 (rfl) (by decide) (by omega)
          refine lv_goto (tgt := 2) hx hb dX14_numberOf_25 (by decide) ?_
          exact L2 z_12 _ _ (hh_7.sub (L1 := [(r0, 16, 42, .int documentCount_3)]) [1] rfl (M1 := []) [] rfl (I1 := []) [] rfl) (by first | omega | (refine ⟨?_, ?_⟩ <;> (first | omega | rfl | assumption | decide | exact Or.inl rfl | exact Or.inr rfl | (simp only; omega)))) (by omega) _ (lv_sub hl [1, 2, 0] rfl)
        · skip
          cases c_11
  exact L2 (documentCount_3.toInt - (0 : Int32).toInt : Int).toNat.succ 0 _ _ hh_2 (by first | omega | (refine ⟨?_, ?_⟩ <;> (first | omega | rfl | assumption | decide | exact Or.inl rfl | exact Or.inr rfl | (simp only; omega)))) (by omega) _ (lv_sub hl [1, 2, 0] rfl)
set_option maxHeartbeats 4000000 in
set_option maxRecDepth 20000 in
theorem uX14_state (l : Launch) (dC : Nat → ClassId) (dI : Nat → Nat → Nat) (ca : Nat → ClassId) (base : Nat) (B : jF) (hB : jBok B) (hAp : jAp (dC, dI)) (hB14 : ∀ n G a H, B 14 n G a H ↔ jOb (dC, dI) 14 11 (F14 n G) a H) (hB16 : ∀ n G a H, B 16 n G a H ↔ jOb (dC, dI) 16 74 (F16 n G) a H) (hB201 : ∀ n G a H, B 201 n G a H ↔ jAq (dC, dI) (ca 4) (jQs 14 0) n G a H) (hB208 : ∀ n G a H, B 208 n G a H ↔ jAq (dC, dI) (ca 4) (jQn 14 0) n G a H) (G0 : jT) (H0 : Heap) (r0 : Nat) (a1 : Int32) : Met l yX14_state (jw yX14_state cX14_state 2 (some .int)) ({ frames := 1, cells := 0, slots := 0, locals := 22 }) (va_Pc [.ref r0, .int a1] (fun U => U.heap = H0 ∧ jX B base G0 [] H0 ∧ jG dC dI ca base U ∧ jK2 dC dI ca U ∧ G0 r0 = some (16, 0) ∧ jP (dC, dI) G0 H0 [] ∧ True)) (va_Qi (S := Unit) (fun r u => (True)) (fun u t => jRt (dC, dI) B base G0 EX14_state H0 [] t.heap) (jA base)) 0 0 (jA base) := by
  refine Met.ofW (cc := cX14_state) (maxL := 2) (ret := (some .int)) (by decide) rfl ?_
  intro p e s m args below meth c s₁ Bd hml hv
  obtain ⟨rfl, hH0, hX, hG, hK2, hg_r0, hP0, hp0⟩ := hv
  have hK := hG.1
  have hx := Bd.exec
  have hb := Bd.bytes
  have hr := Bd.returns
  have hts := atoms_spec (ws := (jw yX14_state cX14_state 2 (some .int))) Bd.pre
  have htw : ∀ w ∈ jWl, w.before _ s = true := fun w h => hts w (List.mem_cons_of_mem _ h)
  have hown : s.vm.findClass RX14 = some m.cls := findClass_of_methodNamed Bd.named
  have hlocks := Bd.notSynchronized
  obtain ⟨Q, hQ⟩ : ∃ Q, Q = MQ below (va_Qi (S := Unit) (fun r u => (True)) (fun u t => jRt (dC, dI) B base G0 EX14_state H0 [] t.heap) (jA base)) ([.ref r0, .int a1] : List Value).toArray s 0 0 (jA base) := ⟨_, rfl⟩
  rw [← hQ]
  have hl := lv_entry ([.ref r0, .int a1]) (n := 2) (Nat.le_of_ble_eq_true rfl)
  rw [lg_entry_eq]
  generalize (lg_sl ([.ref r0, .int a1]) ++ List.replicate (2 - (lg_sl ([.ref r0, .int a1])).length) Slot.unset).toArray = ls at hl ⊢
  have hl : lv_has ls 2 [(0, .ref r0), (1, .int a1)] := hl
  generalize hR : (headSpec (jw yX14_state cX14_state 2 (some .int)) ({ frames := 1, cells := 0, slots := 0, locals := 22 })).room = R
  subst hH0
  have hh : jSt (dC, dI) B base G0 G0 EX14_state s.heap 0 0 [] [] [] s.heap [] := jSt.start hX hP0 jMc.nil jIs.nil
  clear hX hP0
  have hkm1 : ((-1) : Int32).toInt = (-1) := by decide
  have hk0 : (0 : Int32).toInt = 0 := by decide
  have hk1 : (1 : Int32).toInt = 1 := by decide
  have hly_16_1 := htw (u_lay RX14 TX14 1) (jWc_wsX140 _ (u_in_lay (by decide)))
  have hly_16_3 := htw (u_lay RX14 TX14 3) (jWc_wsX140 _ (u_in_lay (by decide)))
  have hly_16_4 := htw (u_lay RX14 TX14 4) (jWc_wsX140 _ (u_in_lay (by decide)))
  have hly_16_7 := htw (u_lay RX14 TX14 7) (jWc_wsX140 _ (u_in_lay (by decide)))
  have hly_16_8 := htw (u_lay RX14 TX14 8) (jWc_wsX140 _ (u_in_lay (by decide)))
  have hly_16_10 := htw (u_lay RX14 TX14 10) (jWc_wsX140 _ (u_in_lay (by decide)))
  have hly_16_42 := htw (u_lay RX14 TX14 42) (jWc_wsX140 _ (u_in_lay (by decide)))
  have hly_16_48 := htw (u_lay RX14 TX14 48) (jWc_wsX140 _ (u_in_lay (by decide)))
  have hly_16_60 := htw (u_lay RX14 TX14 60) (jWc_wsX140 _ (u_in_lay (by decide)))
  have hly_16_64 := htw (u_lay RX14 TX14 64) (jWc_wsX140 _ (u_in_lay (by decide)))
  have hly_16_65 := htw (u_lay RX14 TX14 65) (jWc_wsX140 _ (u_in_lay (by decide)))
  have hly_16_66 := htw (u_lay RX14 TX14 66) (jWc_wsX140 _ (u_in_lay (by decide)))
  have hlk_202 := (htw (.fieldLink RX14 202 "ProofServerModel" "broken" "Z") (jWr_44 _ (List.mem_of_getElem? (i := 9) rfl)))
  have hlk_258 := (htw (.fieldLink RX14 258 "ProofServerModel" "keptBytes" "I") (jWr_44 _ (List.mem_of_getElem? (i := 16) rfl)))
  have hlk_264 := (htw (.fieldLink RX14 264 "ProofServerModel" "messages" "I") (jWr_44 _ (List.mem_of_getElem? (i := 19) rfl)))
  have hlk_505 := (htw (.fieldLink RX14 505 "ProofServerModel" "documentCount" "I") (jWr_57 _ (List.mem_of_getElem? (i := 5) rfl)))
  have hlk_711 := (htw (.fieldLink RX14 711 "ProofServerModel" "waits" "I") (jWr_58 _ (List.mem_of_getElem? (i := 11) rfl)))
  have hlk_769 := (htw (.fieldLink RX14 769 "ProofServerModel" "cached" "I") (jWr_90 _ (List.mem_of_getElem? (i := 22) rfl)))
  have hlk_799 := (htw (.fieldLink RX14 799 "ProofServerModel" "steps" "I") (jWr_90 _ (List.mem_of_getElem? (i := 8) rfl)))
  have hlk_796 := (htw (.fieldLink RX14 796 "ProofServerModel" "cachedChecks" "I") (jWr_91 _ (List.mem_of_getElem? (i := 11) rfl)))
  have hlk_214 := (htw (.fieldLink RX14 214 "ProofServerModel" "lost" "I") (jWr_55 _ (List.mem_of_getElem? (i := 14) rfl)))
  have hlk_217 := (htw (.fieldLink RX14 217 "ProofServerModel" "taped" "I") (jWr_17 _ (List.mem_of_getElem? (i := 2) rfl)))
  have hlk_211 := (htw (.fieldLink RX14 211 "ProofServerModel" "outs" "I") (jWr_44 _ (List.mem_of_getElem? (i := 10) rfl)))
  have hlk_129 := (htw (.fieldLink RX14 129 "ProofServerModel" "checkOf" "[LProofServerModel$Document;") (jWr_12 _ (List.mem_of_getElem? (i := 15) rfl)))
  have hrg_a1 := jb_rng a1
  refine lv_iload_n hx hb dX14_state_0 rfl (lv_at hl 1 rfl) ?_
  rcases (by omega : (a1.toInt < 0 ∨ 12 < a1.toInt) ∨ a1.toInt = 0 ∨ a1.toInt = 1 ∨ a1.toInt = 2 ∨ a1.toInt = 3 ∨ a1.toInt = 4 ∨ a1.toInt = 5 ∨ a1.toInt = 6 ∨ a1.toInt = 7 ∨ a1.toInt = 8 ∨ a1.toInt = 9 ∨ a1.toInt = 10 ∨ a1.toInt = 11 ∨ a1.toInt = 12) with c_1 | c_1 | c_1 | c_1 | c_1 | c_1 | c_1 | c_1 | c_1 | c_1 | c_1 | c_1 | c_1 | c_1
  · refine lv_tableOut (tgt := 153) hx hb dX14_state_1 c_1 (by decide) ?_
    refine lv_iconst (v := (-1)) hx hb dX14_state_153 (by decide) ?_
    rw [hQ]
    exact W.iret (v := (-1)) hx hb hr (fun t ht hW => ⟨⟨(-1), (), rfl, trivial, hh.rt (M1 := []) [] rfl ht⟩, by rw [ht]; try exact hh.1.1, fun q h9 hq => by rw [ht]; try exact hh.1.2.1 q h9 hq⟩) hh.1.2.2 dX14_state_154
  · refine lv_tableIn (off := 67) (tgt := 68) hx hb dX14_state_1 (by omega) (by omega) (by rw [c_1]; rfl) (by decide) ?_
    refine lv_aload_n hx hb dX14_state_68 rfl (lv_at hl 0 rfl) ?_
    obtain ⟨v_2, hv_2, hh_3⟩ := hh.pin (C := RX14) (T := TX14) (N := 74) hB16 rfl (by decide) hg_r0 (i := 7) (by decide) rfl
    clear hh
    obtain ⟨broken_4, rfl, hzbroken_4⟩ := hv_2
    have hzbroken_4' := jb_01 hzbroken_4
    refine j7_read hx hb hown hK (C := RX14) (T := TX14) (N := 74) rfl hly_16_7 hlk_202 (hh_3.at 0 rfl) dX14_state_69 ?_
    refine lv_if_eq (tgt := 79) hx hb dX14_state_72 (by decide) (fun c_5 => ?_) (fun c_5 => ?_)
    · skip
      have c_5' : broken_4.toInt = 0 := jb_eq (rfl) ((by decide)) c_5
      refine lv_iconst (v := 0) hx hb dX14_state_79 (by decide) ?_
      rw [hQ]
      exact W.iret (v := 0) hx hb hr (fun t ht hW => ⟨⟨0, (), rfl, trivial, hh_3.rt (M1 := []) [] rfl ht⟩, by rw [ht]; try exact hh_3.1.1, fun q h9 hq => by rw [ht]; try exact hh_3.1.2.1 q h9 hq⟩) hh_3.1.2.2 dX14_state_80
    · skip
      have c_5' : broken_4.toInt ≠ 0 := jb_eq_n (rfl) ((by decide)) c_5
      refine lv_iconst (v := 1) hx hb dX14_state_75 (by decide) ?_
      refine lv_goto (tgt := 80) hx hb dX14_state_76 (by decide) ?_
      rw [hQ]
      exact W.iret (v := 1) hx hb hr (fun t ht hW => ⟨⟨1, (), rfl, trivial, hh_3.rt (M1 := []) [] rfl ht⟩, by rw [ht]; try exact hh_3.1.1, fun q h9 hq => by rw [ht]; try exact hh_3.1.2.1 q h9 hq⟩) hh_3.1.2.2 dX14_state_80
  · refine lv_tableIn (off := 80) (tgt := 81) hx hb dX14_state_1 (by omega) (by omega) (by rw [c_1]; rfl) (by decide) ?_
    refine lv_aload_n hx hb dX14_state_81 rfl (lv_at hl 0 rfl) ?_
    obtain ⟨v_6, hv_6, hh_7⟩ := hh.pin (C := RX14) (T := TX14) (N := 74) hB16 rfl (by decide) hg_r0 (i := 10) (by decide) rfl
    clear hh
    obtain ⟨keptBytes_8, rfl⟩ := hv_6
    refine j7_read hx hb hown hK (C := RX14) (T := TX14) (N := 74) rfl hly_16_10 hlk_258 (hh_7.at 0 rfl) dX14_state_82 ?_
    rw [hQ]
    exact W.iret (v := keptBytes_8) hx hb hr (fun t ht hW => ⟨⟨keptBytes_8, (), rfl, trivial, hh_7.rt (M1 := []) [] rfl ht⟩, by rw [ht]; try exact hh_7.1.1, fun q h9 hq => by rw [ht]; try exact hh_7.1.2.1 q h9 hq⟩) hh_7.1.2.2 dX14_state_85
  · refine lv_tableIn (off := 85) (tgt := 86) hx hb dX14_state_1 (by omega) (by omega) (by rw [c_1]; rfl) (by decide) ?_
    refine lv_aload_n hx hb dX14_state_86 rfl (lv_at hl 0 rfl) ?_
    obtain ⟨v_9, hv_9, hh_10⟩ := hh.pin (C := RX14) (T := TX14) (N := 74) hB16 rfl (by decide) hg_r0 (i := 8) (by decide) rfl
    clear hh
    obtain ⟨messages_11, rfl⟩ := hv_9
    refine j7_read hx hb hown hK (C := RX14) (T := TX14) (N := 74) rfl hly_16_8 hlk_264 (hh_10.at 0 rfl) dX14_state_87 ?_
    rw [hQ]
    exact W.iret (v := messages_11) hx hb hr (fun t ht hW => ⟨⟨messages_11, (), rfl, trivial, hh_10.rt (M1 := []) [] rfl ht⟩, by rw [ht]; try exact hh_10.1.1, fun q h9 hq => by rw [ht]; try exact hh_10.1.2.1 q h9 hq⟩) hh_10.1.2.2 dX14_state_90
  · refine lv_tableIn (off := 90) (tgt := 91) hx hb dX14_state_1 (by omega) (by omega) (by rw [c_1]; rfl) (by decide) ?_
    refine lv_aload_n hx hb dX14_state_91 rfl (lv_at hl 0 rfl) ?_
    obtain ⟨v_12, hv_12, hh_13⟩ := hh.pin (C := RX14) (T := TX14) (N := 74) hB16 rfl (by decide) hg_r0 (i := 42) (by decide) rfl
    clear hh
    obtain ⟨documentCount_14, rfl, hlodocumentCount_14, hhidocumentCount_14⟩ := hv_12
    refine j7_read hx hb hown hK (C := RX14) (T := TX14) (N := 74) rfl hly_16_42 hlk_505 (hh_13.at 0 rfl) dX14_state_92 ?_
    rw [hQ]
    exact W.iret (v := documentCount_14) hx hb hr (fun t ht hW => ⟨⟨documentCount_14, (), rfl, trivial, hh_13.rt (M1 := []) [] rfl ht⟩, by rw [ht]; try exact hh_13.1.1, fun q h9 hq => by rw [ht]; try exact hh_13.1.2.1 q h9 hq⟩) hh_13.1.2.2 dX14_state_95
  · refine lv_tableIn (off := 95) (tgt := 96) hx hb dX14_state_1 (by omega) (by omega) (by rw [c_1]; rfl) (by decide) ?_
    refine lv_aload_n hx hb dX14_state_96 rfl (lv_at hl 0 rfl) ?_
    obtain ⟨v_15, hv_15, hh_16⟩ := hh.pin (C := RX14) (T := TX14) (N := 74) hB16 rfl (by decide) hg_r0 (i := 48) (by decide) rfl
    clear hh
    obtain ⟨waits_17, rfl, hlowaits_17, hhiwaits_17⟩ := hv_15
    refine j7_read hx hb hown hK (C := RX14) (T := TX14) (N := 74) rfl hly_16_48 hlk_711 (hh_16.at 0 rfl) dX14_state_97 ?_
    rw [hQ]
    exact W.iret (v := waits_17) hx hb hr (fun t ht hW => ⟨⟨waits_17, (), rfl, trivial, hh_16.rt (M1 := []) [] rfl ht⟩, by rw [ht]; try exact hh_16.1.1, fun q h9 hq => by rw [ht]; try exact hh_16.1.2.1 q h9 hq⟩) hh_16.1.2.2 dX14_state_100
  · refine lv_tableIn (off := 100) (tgt := 101) hx hb dX14_state_1 (by omega) (by omega) (by rw [c_1]; rfl) (by decide) ?_
    refine lv_aload_n hx hb dX14_state_101 rfl (lv_at hl 0 rfl) ?_
    obtain ⟨v_18, hv_18, hh_19⟩ := hh.pin (C := RX14) (T := TX14) (N := 74) hB16 rfl (by decide) hg_r0 (i := 66) (by decide) rfl
    clear hh
    obtain ⟨cached_20, rfl, hlocached_20, hhicached_20⟩ := hv_18
    refine j7_read hx hb hown hK (C := RX14) (T := TX14) (N := 74) rfl hly_16_66 hlk_769 (hh_19.at 0 rfl) dX14_state_102 ?_
    rw [hQ]
    exact W.iret (v := cached_20) hx hb hr (fun t ht hW => ⟨⟨cached_20, (), rfl, trivial, hh_19.rt (M1 := []) [] rfl ht⟩, by rw [ht]; try exact hh_19.1.1, fun q h9 hq => by rw [ht]; try exact hh_19.1.2.1 q h9 hq⟩) hh_19.1.2.2 dX14_state_105
  · refine lv_tableIn (off := 105) (tgt := 106) hx hb dX14_state_1 (by omega) (by omega) (by rw [c_1]; rfl) (by decide) ?_
    refine lv_aload_n hx hb dX14_state_106 rfl (lv_at hl 0 rfl) ?_
    obtain ⟨v_21, hv_21, hh_22⟩ := hh.pin (C := RX14) (T := TX14) (N := 74) hB16 rfl (by decide) hg_r0 (i := 64) (by decide) rfl
    clear hh
    obtain ⟨steps_23, rfl⟩ := hv_21
    refine j7_read hx hb hown hK (C := RX14) (T := TX14) (N := 74) rfl hly_16_64 hlk_799 (hh_22.at 0 rfl) dX14_state_107 ?_
    rw [hQ]
    exact W.iret (v := steps_23) hx hb hr (fun t ht hW => ⟨⟨steps_23, (), rfl, trivial, hh_22.rt (M1 := []) [] rfl ht⟩, by rw [ht]; try exact hh_22.1.1, fun q h9 hq => by rw [ht]; try exact hh_22.1.2.1 q h9 hq⟩) hh_22.1.2.2 dX14_state_110
  · refine lv_tableIn (off := 110) (tgt := 111) hx hb dX14_state_1 (by omega) (by omega) (by rw [c_1]; rfl) (by decide) ?_
    refine lv_aload_n hx hb dX14_state_111 rfl (lv_at hl 0 rfl) ?_
    obtain ⟨v_24, hv_24, hh_25⟩ := hh.pin (C := RX14) (T := TX14) (N := 74) hB16 rfl (by decide) hg_r0 (i := 65) (by decide) rfl
    clear hh
    obtain ⟨cachedChecks_26, rfl⟩ := hv_24
    refine j7_read hx hb hown hK (C := RX14) (T := TX14) (N := 74) rfl hly_16_65 hlk_796 (hh_25.at 0 rfl) dX14_state_112 ?_
    rw [hQ]
    exact W.iret (v := cachedChecks_26) hx hb hr (fun t ht hW => ⟨⟨cachedChecks_26, (), rfl, trivial, hh_25.rt (M1 := []) [] rfl ht⟩, by rw [ht]; try exact hh_25.1.1, fun q h9 hq => by rw [ht]; try exact hh_25.1.2.1 q h9 hq⟩) hh_25.1.2.2 dX14_state_115
  · refine lv_tableIn (off := 115) (tgt := 116) hx hb dX14_state_1 (by omega) (by omega) (by rw [c_1]; rfl) (by decide) ?_
    refine lv_aload_n hx hb dX14_state_116 rfl (lv_at hl 0 rfl) ?_
    obtain ⟨v_27, hv_27, hh_28⟩ := hh.pin (C := RX14) (T := TX14) (N := 74) hB16 rfl (by decide) hg_r0 (i := 4) (by decide) rfl
    clear hh
    obtain ⟨lost_29, rfl⟩ := hv_27
    refine j7_read hx hb hown hK (C := RX14) (T := TX14) (N := 74) rfl hly_16_4 hlk_214 (hh_28.at 0 rfl) dX14_state_117 ?_
    rw [hQ]
    exact W.iret (v := lost_29) hx hb hr (fun t ht hW => ⟨⟨lost_29, (), rfl, trivial, hh_28.rt (M1 := []) [] rfl ht⟩, by rw [ht]; try exact hh_28.1.1, fun q h9 hq => by rw [ht]; try exact hh_28.1.2.1 q h9 hq⟩) hh_28.1.2.2 dX14_state_120
  · refine lv_tableIn (off := 120) (tgt := 121) hx hb dX14_state_1 (by omega) (by omega) (by rw [c_1]; rfl) (by decide) ?_
    refine lv_aload_n hx hb dX14_state_121 rfl (lv_at hl 0 rfl) ?_
    obtain ⟨v_30, hv_30, hh_31⟩ := hh.pin (C := RX14) (T := TX14) (N := 74) hB16 rfl (by decide) hg_r0 (i := 1) (by decide) rfl
    clear hh
    obtain ⟨taped_32, rfl, hlotaped_32, hhitaped_32⟩ := hv_30
    refine j7_read hx hb hown hK (C := RX14) (T := TX14) (N := 74) rfl hly_16_1 hlk_217 (hh_31.at 0 rfl) dX14_state_122 ?_
    rw [hQ]
    exact W.iret (v := taped_32) hx hb hr (fun t ht hW => ⟨⟨taped_32, (), rfl, trivial, hh_31.rt (M1 := []) [] rfl ht⟩, by rw [ht]; try exact hh_31.1.1, fun q h9 hq => by rw [ht]; try exact hh_31.1.2.1 q h9 hq⟩) hh_31.1.2.2 dX14_state_125
  · refine lv_tableIn (off := 125) (tgt := 126) hx hb dX14_state_1 (by omega) (by omega) (by rw [c_1]; rfl) (by decide) ?_
    refine lv_aload_n hx hb dX14_state_126 rfl (lv_at hl 0 rfl) ?_
    obtain ⟨v_33, hv_33, hh_34⟩ := hh.pin (C := RX14) (T := TX14) (N := 74) hB16 rfl (by decide) hg_r0 (i := 3) (by decide) rfl
    clear hh
    obtain ⟨outs_35, rfl, hloouts_35, hhiouts_35⟩ := hv_33
    refine j7_read hx hb hown hK (C := RX14) (T := TX14) (N := 74) rfl hly_16_3 hlk_211 (hh_34.at 0 rfl) dX14_state_127 ?_
    rw [hQ]
    exact W.iret (v := outs_35) hx hb hr (fun t ht hW => ⟨⟨outs_35, (), rfl, trivial, hh_34.rt (M1 := []) [] rfl ht⟩, by rw [ht]; try exact hh_34.1.1, fun q h9 hq => by rw [ht]; try exact hh_34.1.2.1 q h9 hq⟩) hh_34.1.2.2 dX14_state_130
  · refine lv_tableIn (off := 130) (tgt := 131) hx hb dX14_state_1 (by omega) (by omega) (by rw [c_1]; rfl) (by decide) ?_
    refine lv_aload_n hx hb dX14_state_131 rfl (lv_at hl 0 rfl) ?_
    refine lv_aload_n hx hb dX14_state_132 rfl (lv_at hl 0 rfl) ?_
    obtain ⟨v_36, hv_36, hh_37⟩ := hh.pin (C := RX14) (T := TX14) (N := 74) hB16 rfl (by decide) hg_r0 (i := 60) (by decide) rfl
    clear hh
    obtain ⟨checkOf_38, rfl, hg_checkOf_38⟩ := hv_36
    refine j7_read hx hb hown hK (C := RX14) (T := TX14) (N := 74) rfl hly_16_60 hlk_129 (hh_37.at 0 rfl) dX14_state_133 ?_
    refine lv_iconst (v := 0) hx hb dX14_state_136 (by decide) ?_
    refine j7_qald hx hb hK2 hh_37 hB208 0 rfl (by decide) hg_checkOf_38 (x := 0) ((by decide)) (by omega) dX14_state_137 (fun o_39 ho_39 => ?_)
    rcases ho_39 with rfl | ⟨el_40, rfl, hg_el_40⟩
    · simp only [va_rf]
      refine va_calli (A0 := jA base) (H0 := s.heap) (va_runV (As := [.null]) (rest := []) ⟨hx, hb, hml, hown, hts⟩ (uX14_numberOfZ l dC dI ca base B hB hAp hB14 hB16 hB201 G0 s.heap r0) (cwV 1 hts (jgV (jWr_92 _ (List.mem_of_getElem? (i := 2) rfl)) (jWr_92 _ (List.mem_of_getElem? (i := 3) rfl)) (jWr_92 _ (List.mem_of_getElem? (i := 4) rfl)) (jWr_1 _ (List.mem_of_getElem? (i := 5) rfl)) (jWr_92 _ (List.mem_of_getElem? (i := 5) rfl))) rfl rfl rfl (by decide +kernel) ⟨by rw [← hR]; exact Nat.le_of_ble_eq_true rfl, by rw [← hR]; exact Nat.le_of_ble_eq_true rfl⟩) ⟨fun a U g mk q => by obtain ⟨q0, q1, q2, qK, q10, q11, q12, q13⟩ := q; exact ⟨q0, q1, q2, jG.calling g mk a qK, (va_K.moved (Vm.Alike.refl U.vm) q10), q11, q12, q13⟩, hh_37.recv (C := RX14) (T := TX14) (N := 74) hB16 rfl (by decide) hg_r0 hK, fun U hU hW => ⟨rfl, hU, hh_37.2.1, hG.step hW hU hh_37.1, va_K.moved hW.alike hK2, hg_r0, jP.nil, trivial⟩⟩ rfl rfl hl.1 rfl (lv_room (Nat.le_of_ble_eq_true rfl)) dX14_state_138 ⟨Nat.zero_le _, Nat.zero_le _⟩) hh_37.1 (fun q _ h => h) (fun q h => h) (fun r_42 u_41 t_41 H_41 locs_41 ht_41 hvm_41 hr_42 hb_41 hz_41 hk_41 hS_41 => ?_)
      rw [ht_41] at hb_41
      obtain ⟨hb_411, hb_412, hb_413, hb_414, hb_415⟩ := hb_41
      have hh_41 : jSt (dC, dI) B base G0 G0 EX14_state s.heap 0 0 [(r0, 16, 60, .ref checkOf_38)] [] [] H_41 locs_41 := ((hh_37.call hb_411 hb_412 hb_413 hb_414 hS_41 rfl (L1 := [(r0, 16, 60, .ref checkOf_38)]) [0] rfl rfl (M1 := []) [] rfl rfl (I1 := []) [] rfl rfl).more hb_415)
      clear hh_37 ht_41 hvm_41 hz_41 hk_41 hS_41 hb_411 hb_412 hb_413 hb_414 hb_415
      obtain ⟨hr_42_0, hr_42_1⟩ := hr_42
      rw [hQ]
      exact W.iret (v := r_42) hx hb hr (fun t ht hW => ⟨⟨r_42, (), rfl, trivial, hh_41.rt (M1 := []) [] rfl ht⟩, by rw [ht]; try exact hh_41.1.1, fun q h9 hq => by rw [ht]; try exact hh_41.1.2.1 q h9 hq⟩) hh_41.1.2.2 dX14_state_141
    · simp only [va_rf]
      refine va_calli (A0 := jA base) (H0 := s.heap) (va_runV (As := [.ref el_40]) (rest := []) ⟨hx, hb, hml, hown, hts⟩ (uX14_numberOf l dC dI ca base B hB hAp hB14 hB16 hB201 G0 s.heap r0 el_40) (cwV 1 hts (jgV (jWr_92 _ (List.mem_of_getElem? (i := 2) rfl)) (jWr_92 _ (List.mem_of_getElem? (i := 3) rfl)) (jWr_92 _ (List.mem_of_getElem? (i := 4) rfl)) (jWr_1 _ (List.mem_of_getElem? (i := 5) rfl)) (jWr_92 _ (List.mem_of_getElem? (i := 5) rfl))) rfl rfl rfl (by decide +kernel) ⟨by rw [← hR]; exact Nat.le_of_ble_eq_true rfl, by rw [← hR]; exact Nat.le_of_ble_eq_true rfl⟩) ⟨fun a U g mk q => by obtain ⟨q0, q1, q2, qK, q10, q11, q12, q13, q14⟩ := q; exact ⟨q0, q1, q2, jG.calling g mk a qK, (va_K.moved (Vm.Alike.refl U.vm) q10), q11, q12, q13, q14⟩, hh_37.recv (C := RX14) (T := TX14) (N := 74) hB16 rfl (by decide) hg_r0 hK, fun U hU hW => ⟨rfl, hU, hh_37.2.1, hG.step hW hU hh_37.1, va_K.moved hW.alike hK2, hg_el_40, hg_r0, jP.nil, trivial⟩⟩ rfl rfl hl.1 rfl (lv_room (Nat.le_of_ble_eq_true rfl)) dX14_state_138 ⟨Nat.zero_le _, Nat.zero_le _⟩) hh_37.1 (fun q _ h => h) (fun q h => h) (fun r_44 u_43 t_43 H_43 locs_43 ht_43 hvm_43 hr_44 hb_43 hz_43 hk_43 hS_43 => ?_)
      rw [ht_43] at hb_43
      obtain ⟨hb_431, hb_432, hb_433, hb_434, hb_435⟩ := hb_43
      have hh_43 : jSt (dC, dI) B base G0 G0 EX14_state s.heap 0 0 [(r0, 16, 60, .ref checkOf_38)] [] [] H_43 locs_43 := ((hh_37.call hb_431 hb_432 hb_433 hb_434 hS_43 rfl (L1 := [(r0, 16, 60, .ref checkOf_38)]) [0] rfl rfl (M1 := []) [] rfl rfl (I1 := []) [] rfl rfl).more hb_435)
      clear hh_37 ht_43 hvm_43 hz_43 hk_43 hS_43 hb_431 hb_432 hb_433 hb_434 hb_435
      obtain ⟨hr_44_0, hr_44_1⟩ := hr_44
      rw [hQ]
      exact W.iret (v := r_44) hx hb hr (fun t ht hW => ⟨⟨r_44, (), rfl, trivial, hh_43.rt (M1 := []) [] rfl ht⟩, by rw [ht]; try exact hh_43.1.1, fun q h9 hq => by rw [ht]; try exact hh_43.1.2.1 q h9 hq⟩) hh_43.1.2.2 dX14_state_141
  · refine lv_tableIn (off := 141) (tgt := 142) hx hb dX14_state_1 (by omega) (by omega) (by rw [c_1]; rfl) (by decide) ?_
    refine lv_aload_n hx hb dX14_state_142 rfl (lv_at hl 0 rfl) ?_
    refine lv_aload_n hx hb dX14_state_143 rfl (lv_at hl 0 rfl) ?_
    obtain ⟨v_45, hv_45, hh_46⟩ := hh.pin (C := RX14) (T := TX14) (N := 74) hB16 rfl (by decide) hg_r0 (i := 60) (by decide) rfl
    clear hh
    obtain ⟨checkOf_47, rfl, hg_checkOf_47⟩ := hv_45
    refine j7_read hx hb hown hK (C := RX14) (T := TX14) (N := 74) rfl hly_16_60 hlk_129 (hh_46.at 0 rfl) dX14_state_144 ?_
    refine lv_iconst (v := 1) hx hb dX14_state_147 (by decide) ?_
    refine j7_qald hx hb hK2 hh_46 hB208 0 rfl (by decide) hg_checkOf_47 (x := 1) ((by decide)) (by omega) dX14_state_148 (fun o_48 ho_48 => ?_)
    rcases ho_48 with rfl | ⟨el_49, rfl, hg_el_49⟩
    · simp only [va_rf]
      refine va_calli (A0 := jA base) (H0 := s.heap) (va_runV (As := [.null]) (rest := []) ⟨hx, hb, hml, hown, hts⟩ (uX14_numberOfZ l dC dI ca base B hB hAp hB14 hB16 hB201 G0 s.heap r0) (cwV 1 hts (jgV (jWr_92 _ (List.mem_of_getElem? (i := 2) rfl)) (jWr_92 _ (List.mem_of_getElem? (i := 3) rfl)) (jWr_92 _ (List.mem_of_getElem? (i := 4) rfl)) (jWr_1 _ (List.mem_of_getElem? (i := 5) rfl)) (jWr_92 _ (List.mem_of_getElem? (i := 5) rfl))) rfl rfl rfl (by decide +kernel) ⟨by rw [← hR]; exact Nat.le_of_ble_eq_true rfl, by rw [← hR]; exact Nat.le_of_ble_eq_true rfl⟩) ⟨fun a U g mk q => by obtain ⟨q0, q1, q2, qK, q10, q11, q12, q13⟩ := q; exact ⟨q0, q1, q2, jG.calling g mk a qK, (va_K.moved (Vm.Alike.refl U.vm) q10), q11, q12, q13⟩, hh_46.recv (C := RX14) (T := TX14) (N := 74) hB16 rfl (by decide) hg_r0 hK, fun U hU hW => ⟨rfl, hU, hh_46.2.1, hG.step hW hU hh_46.1, va_K.moved hW.alike hK2, hg_r0, jP.nil, trivial⟩⟩ rfl rfl hl.1 rfl (lv_room (Nat.le_of_ble_eq_true rfl)) dX14_state_149 ⟨Nat.zero_le _, Nat.zero_le _⟩) hh_46.1 (fun q _ h => h) (fun q h => h) (fun r_51 u_50 t_50 H_50 locs_50 ht_50 hvm_50 hr_51 hb_50 hz_50 hk_50 hS_50 => ?_)
      rw [ht_50] at hb_50
      obtain ⟨hb_501, hb_502, hb_503, hb_504, hb_505⟩ := hb_50
      have hh_50 : jSt (dC, dI) B base G0 G0 EX14_state s.heap 0 0 [(r0, 16, 60, .ref checkOf_47)] [] [] H_50 locs_50 := ((hh_46.call hb_501 hb_502 hb_503 hb_504 hS_50 rfl (L1 := [(r0, 16, 60, .ref checkOf_47)]) [0] rfl rfl (M1 := []) [] rfl rfl (I1 := []) [] rfl rfl).more hb_505)
      clear hh_46 ht_50 hvm_50 hz_50 hk_50 hS_50 hb_501 hb_502 hb_503 hb_504 hb_505
      obtain ⟨hr_51_0, hr_51_1⟩ := hr_51
      rw [hQ]
      exact W.iret (v := r_51) hx hb hr (fun t ht hW => ⟨⟨r_51, (), rfl, trivial, hh_50.rt (M1 := []) [] rfl ht⟩, by rw [ht]; try exact hh_50.1.1, fun q h9 hq => by rw [ht]; try exact hh_50.1.2.1 q h9 hq⟩) hh_50.1.2.2 dX14_state_152
    · simp only [va_rf]
      refine va_calli (A0 := jA base) (H0 := s.heap) (va_runV (As := [.ref el_49]) (rest := []) ⟨hx, hb, hml, hown, hts⟩ (uX14_numberOf l dC dI ca base B hB hAp hB14 hB16 hB201 G0 s.heap r0 el_49) (cwV 1 hts (jgV (jWr_92 _ (List.mem_of_getElem? (i := 2) rfl)) (jWr_92 _ (List.mem_of_getElem? (i := 3) rfl)) (jWr_92 _ (List.mem_of_getElem? (i := 4) rfl)) (jWr_1 _ (List.mem_of_getElem? (i := 5) rfl)) (jWr_92 _ (List.mem_of_getElem? (i := 5) rfl))) rfl rfl rfl (by decide +kernel) ⟨by rw [← hR]; exact Nat.le_of_ble_eq_true rfl, by rw [← hR]; exact Nat.le_of_ble_eq_true rfl⟩) ⟨fun a U g mk q => by obtain ⟨q0, q1, q2, qK, q10, q11, q12, q13, q14⟩ := q; exact ⟨q0, q1, q2, jG.calling g mk a qK, (va_K.moved (Vm.Alike.refl U.vm) q10), q11, q12, q13, q14⟩, hh_46.recv (C := RX14) (T := TX14) (N := 74) hB16 rfl (by decide) hg_r0 hK, fun U hU hW => ⟨rfl, hU, hh_46.2.1, hG.step hW hU hh_46.1, va_K.moved hW.alike hK2, hg_el_49, hg_r0, jP.nil, trivial⟩⟩ rfl rfl hl.1 rfl (lv_room (Nat.le_of_ble_eq_true rfl)) dX14_state_149 ⟨Nat.zero_le _, Nat.zero_le _⟩) hh_46.1 (fun q _ h => h) (fun q h => h) (fun r_53 u_52 t_52 H_52 locs_52 ht_52 hvm_52 hr_53 hb_52 hz_52 hk_52 hS_52 => ?_)
      rw [ht_52] at hb_52
      obtain ⟨hb_521, hb_522, hb_523, hb_524, hb_525⟩ := hb_52
      have hh_52 : jSt (dC, dI) B base G0 G0 EX14_state s.heap 0 0 [(r0, 16, 60, .ref checkOf_47)] [] [] H_52 locs_52 := ((hh_46.call hb_521 hb_522 hb_523 hb_524 hS_52 rfl (L1 := [(r0, 16, 60, .ref checkOf_47)]) [0] rfl rfl (M1 := []) [] rfl rfl (I1 := []) [] rfl rfl).more hb_525)
      clear hh_46 ht_52 hvm_52 hz_52 hk_52 hS_52 hb_521 hb_522 hb_523 hb_524 hb_525
      obtain ⟨hr_53_0, hr_53_1⟩ := hr_53
      rw [hQ]
      exact W.iret (v := r_53) hx hb hr (fun t ht hW => ⟨⟨r_53, (), rfl, trivial, hh_52.rt (M1 := []) [] rfl ht⟩, by rw [ht]; try exact hh_52.1.1, fun q h9 hq => by rw [ht]; try exact hh_52.1.2.1 q h9 hq⟩) hh_52.1.2.2 dX14_state_152
