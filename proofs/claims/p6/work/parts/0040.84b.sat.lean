section
section
variable {H : Heap} {locs : List Loc} {dC : Nat → ClassId} {dI : Nat → Nat → Nat} {B : jF} {base : Nat} {G0 G : jT} {E : List (Nat × Nat)} {H0 : Heap} {zc zs : Nat} {L : List jPin} {M : List jCt} {I : List jIv} {a k n i N : Nat} {C : String} {T : u_T}
theorem jSt.sat (hh : jSt (dC, dI) B base G0 G E H0 zc zs L M I H locs) {F : Nat → jT → List (Value → Prop)} (hBk : ∀ n G a H, B k n G a H ↔ jOb (dC, dI) k N (F n G) a H) (hc : vwCl[k]? = some (C, T, N)) (hk : k < 1000) (ha : G a = some (k, n)) (hi : i < N) {P : Value → Prop} (hp : (F n G)[i]? = some P) {v : Value} (j : Nat) (hj : L[j]? = some (a, k, i, v)) : P v := by
  obtain ⟨V, ⟨cell, q1, q2, q3, q4⟩, hV⟩ := (hBk _ _ _ _).mp (hh.2.1.1 a k n ha hk (fun h => by cases h))
  obtain ⟨r, g1, g2, cell', g3, g4, g5, g6⟩ := (hh.2.2.1 _ (List.mem_of_getElem? hj)).2
  cases q1.symm.trans g3
  have e : V i = v := Option.some.inj ((q4 i hi).symm.trans g6)
  rw [← e]; exact hV i P hp
end
end
section
-- where a sign stands in a text whose last sign it is
theorem jStrT.E {base a n : Nat} {tx : String} {U : State} {H : Heap} (h : jStrT base a tx U H) (hn : tx.length = n) (he : jChT tx (n - 1) = 32) : jStrE base a n (jChT tx) U H := by
  subst hn
  obtain ⟨h1, h2, v, h3, h4⟩ := h
  exact ⟨h1, h2, he, v, h3, h4⟩
def jCs (f : Nat → Int32) : Nat → Int
  | 0 => 0
  | n + 1 => jCs f n + (if f n = 32 then 1 else 0)
theorem jCs_mono (f : Nat → Int32) {m n : Nat} (h : m ≤ n) : jCs f m ≤ jCs f n := by
  induction n with
  | zero => rw [show m = 0 by omega]; exact Int.le_refl _
  | succ n ih =>
    by_cases e : m = n + 1
    · rw [e]; exact Int.le_refl _
    · have h1 := ih (by omega)
      have h2 : jCs f (n + 1) = jCs f n + (if f n = 32 then 1 else 0) := rfl
      rw [h2]; split <;> omega
theorem jCs_s (f : Nat → Int32) {m n : Nat} (h : m ≤ n) (hf : f n = 32) : jCs f m + 1 ≤ jCs f (n + 1) := by
  have h1 := jCs_mono f h
  have h2 : jCs f (n + 1) = jCs f n + (if f n = 32 then 1 else 0) := rfl
  rw [h2, if_pos hf]; omega
set_option maxHeartbeats 4000000 in
set_option maxRecDepth 20000 in
theorem eJ1_canEncode_9a6ad (l : Launch) (dC : Nat → ClassId) (dI : Nat → Nat → Nat) (ca : Nat → ClassId) (base : Nat) (H0 : Heap) (a0 : Int32) : Met l yJ1_canEncode_9a6ad (jw yJ1_canEncode_9a6ad cJ1_canEncode_9a6ad 1 (some .boolean)) ({ frames := 0, cells := 0, slots := 0, locals := 0 }) (va_Pc [.int a0] (fun U => U.heap = H0 ∧ jG dC dI ca base U ∧ (0 ≤ a0.toInt ∧ a0.toInt ≤ 255))) (vp_Si (fun r => r = 1)) 0 0 (fun _ => False) := by
  refine Met.ofW (cc := cJ1_canEncode_9a6ad) (maxL := 1) (ret := (some .boolean)) (by decide) rfl ?_
  intro p e s m args below meth c s₁ B hml hv
  obtain ⟨rfl, hH0, hG, hpre⟩ := hv
  have hK := hG.1
  have hx := B.exec
  have hb := B.bytes
  have hr := B.returns
  have hts := atoms_spec (ws := (jw yJ1_canEncode_9a6ad cJ1_canEncode_9a6ad 1 (some .boolean))) B.pre
  have htw : ∀ w ∈ jWl, w.before _ s = true := fun w h => hts w (List.mem_cons_of_mem _ h)
  have hown : s.vm.findClass RJ1 = some m.cls := findClass_of_methodNamed B.named
  have hlocks := B.notSynchronized
  obtain ⟨Q, hQ⟩ : ∃ Q, Q = MQ below (vp_Si (fun r => r = 1)) ([.int a0] : List Value).toArray s 0 0 (fun _ => False) := ⟨_, rfl⟩
  rw [← hQ]
  have hl := lv_entry ([.int a0]) (n := 1) (Nat.le_of_ble_eq_true rfl)
  rw [lg_entry_eq]
  generalize (lg_sl ([.int a0]) ++ List.replicate (1 - (lg_sl ([.int a0])).length) Slot.unset).toArray = ls at hl ⊢
  have hl : lv_has ls 1 [(0, .int a0)] := hl
  generalize hR : (headSpec (jw yJ1_canEncode_9a6ad cJ1_canEncode_9a6ad 1 (some .boolean)) ({ frames := 0, cells := 0, slots := 0, locals := 0 })).room = R
  subst hH0
  have hS : va_S (jA base) s.heap s.heap [] := va_S.rf
  have hk0 : (0 : Int32).toInt = 0 := by decide
  have hk1 : (1 : Int32).toInt = 1 := by decide
  have hk255 : (255 : Int32).toInt = 255 := by decide
  refine lv_iload_n hx hb dJ1_canEncode_9a6ad_0 rfl (lv_at hl 0 rfl) ?_
  refine lv_if_lt (tgt := 15) hx hb dJ1_canEncode_9a6ad_1 (by decide) (fun c_1 => ?_) (fun c_1 => ?_)
  · skip
    have c_1' : a0.toInt < 0 := jb_lt (rfl) ((by decide)) c_1
    refine lv_iconst (v := 0) hx hb dJ1_canEncode_9a6ad_15 (by decide) ?_
    rw [hQ]
    exact W.zret (v := 0) hx hb hr (jb_nz (Or.inl rfl)) (fun t ht hW => ⟨0, rfl, by first | rfl | exact (by omega : False).elim, ht⟩) (fun _ h => nomatch h) dJ1_canEncode_9a6ad_16
  · skip
    have c_1' : a0.toInt ≥ 0 := jb_lt_n (rfl) ((by decide)) c_1
    refine lv_iload_n hx hb dJ1_canEncode_9a6ad_4 rfl (lv_at hl 0 rfl) ?_
    refine lv_sipush (v := 255) hx hb dJ1_canEncode_9a6ad_5 (by decide) ?_
    refine lv_icmp_gt (tgt := 15) hx hb dJ1_canEncode_9a6ad_8 (by decide) (fun c_2 => ?_) (fun c_2 => ?_)
    · skip
      have c_2' : a0.toInt > 255 := jb_gt (rfl) ((by decide)) c_2
      refine lv_iconst (v := 0) hx hb dJ1_canEncode_9a6ad_15 (by decide) ?_
      rw [hQ]
      exact W.zret (v := 0) hx hb hr (jb_nz (Or.inl rfl)) (fun t ht hW => ⟨0, rfl, by first | rfl | exact (by omega : False).elim, ht⟩) (fun _ h => nomatch h) dJ1_canEncode_9a6ad_16
    · skip
      have c_2' : a0.toInt ≤ 255 := jb_gt_n (rfl) ((by decide)) c_2
      refine lv_iconst (v := 1) hx hb dJ1_canEncode_9a6ad_11 (by decide) ?_
      refine lv_goto (tgt := 16) hx hb dJ1_canEncode_9a6ad_12 (by decide) ?_
      rw [hQ]
      exact W.zret (v := 1) hx hb hr (jb_nz (Or.inr rfl)) (fun t ht hW => ⟨1, rfl, by first | rfl | exact (by omega : False).elim, ht⟩) (fun _ h => nomatch h) dJ1_canEncode_9a6ad_16
set_option maxHeartbeats 4000000 in
set_option maxRecDepth 20000 in
theorem eJ1_indexOfChar_4cfef (l : Launch) (dC : Nat → ClassId) (dI : Nat → Nat → Nat) (ca : Nat → ClassId) (base : Nat) (H0 : Heap) (h0 n : Nat) (f : Nat → Int32) (a1 a2 a3 : Int32) : Met l yJ1_indexOfChar_4cfef (jw yJ1_indexOfChar_4cfef cJ1_indexOfChar_4cfef 6 (some .int)) ({ frames := 0, cells := 0, slots := 0, locals := 0 }) (va_Pc [.ref h0, .int a1, .int a2, .int a3] (fun U => U.heap = H0 ∧ va_T .byte h0 n (fun j => .int (f j)) (jA base) U H0 ∧ jG dC dI ca base U ∧ (n < 2147483648 ∧ 0 ≤ a2.toInt ∧ a3.toInt ≤ n ∧ f (a3.toInt - 1).toNat = 32 ∧ a1 = 32 ∧ a2.toInt < a3.toInt))) (vp_Si (fun r => a2.toInt ≤ r.toInt ∧ r.toInt < a3.toInt ∧ f r.toInt.toNat = 32)) 0 0 (fun _ => False) := by
  refine Met.ofW (cc := cJ1_indexOfChar_4cfef) (maxL := 6) (ret := (some .int)) (by decide) rfl ?_
  intro p e s m args below meth c s₁ B hml hv
  obtain ⟨rfl, hH0, hsa_h0, hG, hp1, hp2, hp3, hp4, hp5, hp6⟩ := hv
  have hK := hG.1
  have hx := B.exec
  have hb := B.bytes
  have hr := B.returns
  have hts := atoms_spec (ws := (jw yJ1_indexOfChar_4cfef cJ1_indexOfChar_4cfef 6 (some .int))) B.pre
  have htw : ∀ w ∈ jWl, w.before _ s = true := fun w h => hts w (List.mem_cons_of_mem _ h)
  have hown : s.vm.findClass RJ1 = some m.cls := findClass_of_methodNamed B.named
  have hlocks := B.notSynchronized
  obtain ⟨Q, hQ⟩ : ∃ Q, Q = MQ below (vp_Si (fun r => a2.toInt ≤ r.toInt ∧ r.toInt < a3.toInt ∧ f r.toInt.toNat = 32)) ([.ref h0, .int a1, .int a2, .int a3] : List Value).toArray s 0 0 (fun _ => False) := ⟨_, rfl⟩
  rw [← hQ]
  have hl := lv_entry ([.ref h0, .int a1, .int a2, .int a3]) (n := 6) (Nat.le_of_ble_eq_true rfl)
  rw [lg_entry_eq]
  generalize (lg_sl ([.ref h0, .int a1, .int a2, .int a3]) ++ List.replicate (6 - (lg_sl ([.ref h0, .int a1, .int a2, .int a3])).length) Slot.unset).toArray = ls at hl ⊢
  have hl : lv_has ls 6 [(0, .ref h0), (1, .int a1), (2, .int a2), (3, .int a3)] := hl
  generalize hR : (headSpec (jw yJ1_indexOfChar_4cfef cJ1_indexOfChar_4cfef 6 (some .int)) ({ frames := 0, cells := 0, slots := 0, locals := 0 })).room = R
  subst hH0
  have hS : va_S (jA base) s.heap s.heap [] := va_S.rf
  have hkm1 : ((-1) : Int32).toInt = (-1) := by decide
  have hk0 : (0 : Int32).toInt = 0 := by decide
  have hk1 : (1 : Int32).toInt = 1 := by decide
  refine lv_iload_n hx hb dJ1_indexOfChar_4cfef_0 rfl (lv_at hl 1 rfl) ?_
  refine lv_i2b hx hb dJ1_indexOfChar_4cfef_1 rfl ?_
  refine lv_topi (fun z_1 ez_1 => ?_)
  refine lv_istore (lv' := [(4, .int z_1), (0, .ref h0), (1, .int a1), (2, .int a2), (3, .int a3)]) hx hb dJ1_indexOfChar_4cfef_2 hl (by decide) rfl (fun ls hl => ?_)
  refine lv_iload_n hx hb dJ1_indexOfChar_4cfef_4 rfl (lv_at hl 3 rfl) ?_
  refine lv_istore (lv' := [(5, .int a2), (4, .int z_1), (0, .ref h0), (1, .int a1), (2, .int a2), (3, .int a3)]) hx hb dJ1_indexOfChar_4cfef_5 hl (by decide) rfl (fun ls hl => ?_)
  have L7 : ∀ (N : Nat) (iv : Int32), (a2.toInt ≤ iv.toInt ∧ iv.toInt + 1 ≤ a3.toInt) → (((a3.toInt - iv.toInt).toNat : Int) : Int) < N → ∀ ls : Array Slot, lv_has ls 6 [(0, .ref h0), (1, .int a1), (2, .int a2), (3, .int a3), (4, .int z_1), (5, .int iv)] → W p l e R s m ([.ref h0, .int a1, .int a2, .int a3] : List Value).toArray below meth c s.heap [] 0 0 Q (F0 m 7 ls []) := by
    intro N
    induction N with
    | zero => intro iv hi hm; exact absurd hm (by omega)
    | succ N ih =>
      have L7 := ih
      intro iv hi hm ls hl
      refine lv_iload hx hb dJ1_indexOfChar_4cfef_7 (lv_at hl 5 rfl) ?_
      refine lv_iload_n hx hb dJ1_indexOfChar_4cfef_9 rfl (lv_at hl 3 rfl) ?_
      refine lv_icmp_ge (tgt := 31) hx hb dJ1_indexOfChar_4cfef_10 (by decide) (fun c_2 => ?_) (fun c_2 => ?_)
      · skip
        have c_2' : iv.toInt ≥ a3.toInt := jb_ge (rfl) (rfl) c_2
        refine lv_iconst (v := (-1)) hx hb dJ1_indexOfChar_4cfef_31 (by decide) ?_
        rw [hQ]
        exact W.iret (v := (-1)) hx hb hr (fun t ht hW => ⟨(-1), rfl, (by omega : False).elim, ht⟩) (fun _ h => nomatch h) dJ1_indexOfChar_4cfef_32
      · skip
        have c_2' : iv.toInt < a3.toInt := jb_ge_n (rfl) (rfl) c_2
        refine lv_aload_n hx hb dJ1_indexOfChar_4cfef_13 rfl (lv_at hl 0 rfl) ?_
        refine lv_iload hx hb dJ1_indexOfChar_4cfef_14 (lv_at hl 5 rfl) ?_
        refine va_tb hx hb hsa_h0 hS (jb_in (rfl) (by omega) (by omega)) rfl dJ1_indexOfChar_4cfef_16 ?_
        refine lv_topi (fun z_3 ez_3 => ?_)
        refine lv_iload hx hb dJ1_indexOfChar_4cfef_17 (lv_at hl 4 rfl) ?_
        refine lv_icmp_ne (tgt := 25) hx hb dJ1_indexOfChar_4cfef_19 (by decide) (fun c_4 => ?_) (fun c_4 => ?_)
        · skip
          have c_4' : z_3.toInt ≠ z_1.toInt := jb_ne (rfl) (rfl) c_4
          have h7 : iv.toInt ≠ a3.toInt - 1 := fun q => c_4' (by rw [ez_3, ez_1, hp5, jb_cl (x := iv) rfl (by omega), q, hp4]; decide)
          obtain ⟨z_5, ez_5⟩ : ∃ y : Int32, y = iv + 1 := ⟨_, rfl⟩
          refine lv_iinc (v := z_5) (lv' := [(5, .int z_5), (0, .ref h0), (1, .int a1), (2, .int a2), (3, .int a3), (4, .int z_1)]) hx hb dJ1_indexOfChar_4cfef_25 hl (k := 5) rfl (by rw [ez_5]; rfl) (by decide) rfl (fun ls hl => ?_)
          have hz_5 : z_5.toInt = iv.toInt + 1 := by rw [ez_5]; exact jb_iadd (rfl) (by decide) (by omega) (by omega)
          refine lv_goto (tgt := 7) hx hb dJ1_indexOfChar_4cfef_28 (by decide) ?_
          exact L7 z_5 (by omega) (by omega) _ (lv_sub hl [1, 2, 3, 4, 5, 0] rfl)
        · skip
          have c_4' : z_3.toInt = z_1.toInt := jb_ne_n (rfl) (rfl) c_4
          refine lv_iload hx hb dJ1_indexOfChar_4cfef_22 (lv_at hl 5 rfl) ?_
          rw [hQ]
          exact W.iret (v := iv) hx hb hr (fun t ht hW => ⟨iv, rfl, ⟨by omega, by omega, by have h8 : z_3 = z_1 := Int32.toInt_inj.mp c_4'; rw [← jb_cl (x := iv) rfl (by omega), ← ez_3, h8, ez_1, hp5]; decide⟩, ht⟩) (fun _ h => nomatch h) dJ1_indexOfChar_4cfef_24
  exact L7 (((a3.toInt - (a2 : Int32).toInt).toNat : Int) : Int).toNat.succ a2 (by omega) (by omega) _ (lv_sub hl [2, 3, 4, 5, 1, 0] rfl)
set_option maxHeartbeats 4000000 in
set_option maxRecDepth 20000 in
theorem eJ1_indexOf_4cfef (l : Launch) (dC : Nat → ClassId) (dI : Nat → Nat → Nat) (ca : Nat → ClassId) (base : Nat) (H0 : Heap) (h0 n : Nat) (f : Nat → Int32) (a1 a2 a3 : Int32) : Met l yJ1_indexOf_4cfef (jw yJ1_indexOf_4cfef cJ1_indexOf_4cfef 4 (some .int)) ({ frames := 2, cells := 0, slots := 0, locals := 80 }) (va_Pc [.ref h0, .int a1, .int a2, .int a3] (fun U => U.heap = H0 ∧ va_T .byte h0 n (fun j => .int (f j)) (jA base) U H0 ∧ jG dC dI ca base U ∧ (n < 2147483648 ∧ f (n - 1) = 32 ∧ a1 = 32 ∧ 0 ≤ a2.toInt ∧ a2.toInt < n ∧ a3.toInt = n))) (vp_Si (fun r => 0 ≤ r.toInt ∧ a2.toInt ≤ r.toInt ∧ r.toInt < n ∧ f r.toInt.toNat = 32)) 0 0 (fun _ => False) := by
  refine Met.ofW (cc := cJ1_indexOf_4cfef) (maxL := 4) (ret := (some .int)) (by decide) rfl ?_
  intro p e s m args below meth c s₁ B hml hv
  obtain ⟨rfl, hH0, hsa_h0, hG, hp1, hp2, hp3, hp4, hp5, hp6⟩ := hv
  have hK := hG.1
  have hx := B.exec
  have hb := B.bytes
  have hr := B.returns
  have hts := atoms_spec (ws := (jw yJ1_indexOf_4cfef cJ1_indexOf_4cfef 4 (some .int))) B.pre
  have htw : ∀ w ∈ jWl, w.before _ s = true := fun w h => hts w (List.mem_cons_of_mem _ h)
  have hown : s.vm.findClass RJ1 = some m.cls := findClass_of_methodNamed B.named
  have hlocks := B.notSynchronized
  obtain ⟨Q, hQ⟩ : ∃ Q, Q = MQ below (vp_Si (fun r => 0 ≤ r.toInt ∧ a2.toInt ≤ r.toInt ∧ r.toInt < n ∧ f r.toInt.toNat = 32)) ([.ref h0, .int a1, .int a2, .int a3] : List Value).toArray s 0 0 (fun _ => False) := ⟨_, rfl⟩
  rw [← hQ]
  have hl := lv_entry ([.ref h0, .int a1, .int a2, .int a3]) (n := 4) (Nat.le_of_ble_eq_true rfl)
  rw [lg_entry_eq]
  generalize (lg_sl ([.ref h0, .int a1, .int a2, .int a3]) ++ List.replicate (4 - (lg_sl ([.ref h0, .int a1, .int a2, .int a3])).length) Slot.unset).toArray = ls at hl ⊢
  have hl : lv_has ls 4 [(0, .ref h0), (1, .int a1), (2, .int a2), (3, .int a3)] := hl
  generalize hR : (headSpec (jw yJ1_indexOf_4cfef cJ1_indexOf_4cfef 4 (some .int)) ({ frames := 2, cells := 0, slots := 0, locals := 80 })).room = R
  subst hH0
  have hS : va_S (jA base) s.heap s.heap [] := va_S.rf
  have hkm1 : ((-1) : Int32).toInt = (-1) := by decide
  have hk0 : (0 : Int32).toInt = 0 := by decide
  have hk1 : (1 : Int32).toInt = 1 := by decide
  refine lv_iload_n hx hb dJ1_indexOf_4cfef_0 rfl (lv_at hl 1 rfl) ?_
  refine vp_callSi (W.runS (As := [.int a1]) (rest := []) ⟨hx, hb, hml, hown, hts⟩ (eJ1_canEncode_9a6ad l dC dI ca base s.heap a1) (va_cwS 1 hts (jgS (jWr_38 _ (List.mem_of_getElem? (i := 1) rfl)) (jWr_38 _ (List.mem_of_getElem? (i := 2) rfl)) (jWr_6 _ (List.mem_of_getElem? (i := 10) rfl)) (jWr_38 _ (List.mem_of_getElem? (i := 3) rfl))) rfl rfl rfl (by decide +kernel) ⟨by rw [← hR]; exact Nat.le_of_ble_eq_true rfl, by rw [← hR]; exact Nat.le_of_ble_eq_true rfl⟩) ⟨fun a U g mk q => by obtain ⟨q0, q1, qK, q9⟩ := q; exact ⟨q0, q1, jG.calling g mk a qK, q9⟩, fun U hU hW => ⟨rfl, hU, hG.step hW hU hS, (by have h32 : (32 : Int32).toInt = 32 := (by decide); rw [hp3]; omega)⟩⟩ rfl rfl hl.1 rfl (lv_room (Nat.le_of_ble_eq_true rfl)) dJ1_indexOf_4cfef_1 ⟨Nat.zero_le _, Nat.zero_le _⟩) (fun r_1 hr_1 => ?_)
  have hr_1' : r_1.toInt = 1 := by rw [hr_1]; decide
  refine lv_if_ne (tgt := 9) hx hb dJ1_indexOf_4cfef_4 (by decide) (fun c_2 => ?_) (fun c_2 => ?_)
  · skip
    have c_2' : r_1.toInt ≠ 0 := jb_ne (rfl) ((by decide)) c_2
    refine lv_iload_n hx hb dJ1_indexOf_4cfef_9 rfl (lv_at hl 2 rfl) ?_
    refine lv_iconst (v := 0) hx hb dJ1_indexOf_4cfef_10 (by decide) ?_
    refine va_mmax hx hb (by rw [hml]; exact hl.1.symm) hown (htw (.methodLink RJ1 92 Lib.Math.max.name) (jWr_37 _ (List.mem_of_getElem? (i := 23) rfl))) (htw (.static Lib.Math.max.name) (jWr_3 _ (List.mem_of_getElem? (i := 6) rfl))) (htw (.initialized "java/lang/Math") (jWr_3 _ (List.mem_of_getElem? (i := 7) rfl))) (htw (.code Lib.Math.max.name Lib.Math.max.code 2 (some .int)) (jWr_3 _ (List.mem_of_getElem? (i := 8) rfl))) (by rw [← hR]; exact Nat.le_of_ble_eq_true rfl) (by rw [← hR]; exact Nat.le_of_ble_eq_true rfl) (Nat.zero_le _) (Nat.zero_le _) dJ1_indexOf_4cfef_11 ?_
    refine lv_topi (fun z_3 ez_3 => ?_)
    have hz_3 := jb_max ez_3
    refine lv_istore_n (lv' := [(2, .int z_3), (0, .ref h0), (1, .int a1), (3, .int a3)]) hx hb dJ1_indexOf_4cfef_14 rfl hl (by decide) rfl (fun ls hl => ?_)
    refine lv_iload_n hx hb dJ1_indexOf_4cfef_15 rfl (lv_at hl 3 rfl) ?_
    refine lv_aload_n hx hb dJ1_indexOf_4cfef_16 rfl (lv_at hl 1 rfl) ?_
    refine va_tlen hx hb hsa_h0 hS (v := Int32.ofNat n) rfl dJ1_indexOf_4cfef_17 ?_
    refine lv_topi (fun z_4 ez_4 => ?_)
    have hz_4 : z_4.toInt = n := by rw [ez_4]; exact jb_nat (by omega)
    refine va_mmin hx hb (by rw [hml]; exact hl.1.symm) hown (htw (.methodLink RJ1 38 Lib.Math.min.name) (jWr_38 _ (List.mem_of_getElem? (i := 0) rfl))) (htw (.static Lib.Math.min.name) (jWr_16 _ (List.mem_of_getElem? (i := 16) rfl))) (htw (.initialized "java/lang/Math") (jWr_3 _ (List.mem_of_getElem? (i := 7) rfl))) (htw (.code Lib.Math.min.name Lib.Math.min.code 2 (some .int)) (jWr_16 _ (List.mem_of_getElem? (i := 17) rfl))) (by rw [← hR]; exact Nat.le_of_ble_eq_true rfl) (by rw [← hR]; exact Nat.le_of_ble_eq_true rfl) (Nat.zero_le _) (Nat.zero_le _) dJ1_indexOf_4cfef_18 ?_
    refine lv_topi (fun z_5 ez_5 => ?_)
    have hz_5 := jb_min ez_5
    refine lv_istore_n (lv' := [(3, .int z_5), (2, .int z_3), (0, .ref h0), (1, .int a1)]) hx hb dJ1_indexOf_4cfef_21 rfl hl (by decide) rfl (fun ls hl => ?_)
    refine lv_iload_n hx hb dJ1_indexOf_4cfef_22 rfl (lv_at hl 1 rfl) ?_
    refine lv_iload_n hx hb dJ1_indexOf_4cfef_23 rfl (lv_at hl 0 rfl) ?_
    refine lv_icmp_lt (tgt := 29) hx hb dJ1_indexOf_4cfef_24 (by decide) (fun c_6 => ?_) (fun c_6 => ?_)
    · skip
      have c_6' : z_3.toInt < z_5.toInt := jb_lt (rfl) (rfl) c_6
      refine lv_aload_n hx hb dJ1_indexOf_4cfef_29 rfl (lv_at hl 2 rfl) ?_
      refine lv_iload_n hx hb dJ1_indexOf_4cfef_30 rfl (lv_at hl 3 rfl) ?_
      refine lv_iload_n hx hb dJ1_indexOf_4cfef_31 rfl (lv_at hl 1 rfl) ?_
      refine lv_iload_n hx hb dJ1_indexOf_4cfef_32 rfl (lv_at hl 0 rfl) ?_
      refine vp_callSi (W.runS (As := [.ref h0, .int a1, .int z_3, .int z_5]) (rest := []) ⟨hx, hb, hml, hown, hts⟩ (eJ1_indexOfChar_4cfef l dC dI ca base s.heap h0 n f a1 z_3 z_5) (va_cwS 4 hts (jgS (jWr_38 _ (List.mem_of_getElem? (i := 4) rfl)) (jWr_38 _ (List.mem_of_getElem? (i := 5) rfl)) (jWr_6 _ (List.mem_of_getElem? (i := 10) rfl)) (jWr_38 _ (List.mem_of_getElem? (i := 6) rfl))) rfl rfl rfl (by decide +kernel) ⟨by rw [← hR]; exact Nat.le_of_ble_eq_true rfl, by rw [← hR]; exact Nat.le_of_ble_eq_true rfl⟩) ⟨fun a U g mk q => by obtain ⟨q0, q1, q2, qK, q9⟩ := q; exact ⟨q0, q1, (q2.moved (Vm.Alike.refl U.vm)), jG.calling g mk a qK, q9⟩, fun U hU hW => ⟨rfl, hU, (hsa_h0.moved hW.alike).kept hS.2.1, hG.step hW hU hS, ⟨by omega, by omega, by omega, (by rw [show (z_5.toInt - 1).toNat = n - 1 by omega]; exact hp2), hp3, by omega⟩⟩⟩ rfl rfl hl.1 rfl (lv_room (Nat.le_of_ble_eq_true rfl)) dJ1_indexOf_4cfef_33 ⟨Nat.zero_le _, Nat.zero_le _⟩) (fun r_7 hr_7 => ?_)
      rw [hQ]
      exact W.iret (v := r_7) hx hb hr (fun t ht hW => ⟨r_7, rfl, ⟨by omega, by omega, by omega, hr_7.2.2⟩, ht⟩) (fun _ h => nomatch h) dJ1_indexOf_4cfef_36
    · skip
      have c_6' : z_3.toInt ≥ z_5.toInt := jb_lt_n (rfl) (rfl) c_6
      refine lv_iconst (v := (-1)) hx hb dJ1_indexOf_4cfef_27 (by decide) ?_
      rw [hQ]
      exact W.iret (v := (-1)) hx hb hr (fun t ht hW => ⟨(-1), rfl, (by omega : False).elim, ht⟩) (fun _ h => nomatch h) dJ1_indexOf_4cfef_28
  · skip
    have c_2' : r_1.toInt = 0 := jb_ne_n (rfl) ((by decide)) c_2
    refine lv_iconst (v := (-1)) hx hb dJ1_indexOf_4cfef_7 (by decide) ?_
    rw [hQ]
    exact W.iret (v := (-1)) hx hb hr (fun t ht hW => ⟨(-1), rfl, (by omega : False).elim, ht⟩) (fun _ h => nomatch h) dJ1_indexOf_4cfef_8
set_option maxHeartbeats 4000000 in
set_option maxRecDepth 20000 in
theorem eJ0_indexOf_7cf53 (l : Launch) (dC : Nat → ClassId) (dI : Nat → Nat → Nat) (ca : Nat → ClassId) (base : Nat) (H0 : Heap) (h0 n : Nat) (f : Nat → Int32) (a1 a2 : Int32) : Met l yJ0_indexOf_7cf53 (jw yJ0_indexOf_7cf53 cJ0_indexOf_7cf53 3 (some .int)) ({ frames := 3, cells := 0, slots := 0, locals := 120 }) (va_Pc [.ref h0, .int a1, .int a2] (fun U => U.heap = H0 ∧ jStrE base h0 n f U H0 ∧ jG dC dI ca base U ∧ (n < 2147483648 ∧ a1 = 32 ∧ 0 ≤ a2.toInt ∧ a2.toInt < n))) (vp_Si (fun r => 0 ≤ r.toInt ∧ a2.toInt ≤ r.toInt ∧ r.toInt < n ∧ f r.toInt.toNat = 32)) 0 0 (fun _ => False) := by
  refine Met.ofW (cc := cJ0_indexOf_7cf53) (maxL := 3) (ret := (some .int)) (by decide) rfl ?_
  intro p e s m args below meth c s₁ B hml hv
  obtain ⟨rfl, hH0, hsE, hG, hpre⟩ := hv
  have hstr_h0 := hsE.str
  have hK := hG.1
  have hx := B.exec
  have hb := B.bytes
  have hr := B.returns
  have hts := atoms_spec (ws := (jw yJ0_indexOf_7cf53 cJ0_indexOf_7cf53 3 (some .int))) B.pre
  have htw : ∀ w ∈ jWl, w.before _ s = true := fun w h => hts w (List.mem_cons_of_mem _ h)
  have hown : s.vm.findClass RJ0 = some m.cls := findClass_of_methodNamed B.named
  have hlocks := B.notSynchronized
  obtain ⟨Q, hQ⟩ : ∃ Q, Q = MQ below (vp_Si (fun r => 0 ≤ r.toInt ∧ a2.toInt ≤ r.toInt ∧ r.toInt < n ∧ f r.toInt.toNat = 32)) ([.ref h0, .int a1, .int a2] : List Value).toArray s 0 0 (fun _ => False) := ⟨_, rfl⟩
  rw [← hQ]
  have hl := lv_entry ([.ref h0, .int a1, .int a2]) (n := 3) (Nat.le_of_ble_eq_true rfl)
  rw [lg_entry_eq]
  generalize (lg_sl ([.ref h0, .int a1, .int a2]) ++ List.replicate (3 - (lg_sl ([.ref h0, .int a1, .int a2])).length) Slot.unset).toArray = ls at hl ⊢
  have hl : lv_has ls 3 [(0, .ref h0), (1, .int a1), (2, .int a2)] := hl
  generalize hR : (headSpec (jw yJ0_indexOf_7cf53 cJ0_indexOf_7cf53 3 (some .int)) ({ frames := 3, cells := 0, slots := 0, locals := 120 })).room = R
  subst hH0
  have hS : va_S (jA base) s.heap s.heap [] := va_S.rf
  have hk0 : (0 : Int32).toInt = 0 := by decide
  have hk1 : (1 : Int32).toInt = 1 := by decide
  refine lv_aload_n hx hb dJ0_indexOf_7cf53_0 rfl (lv_at hl 0 rfl) ?_
  refine vp_callSi (W.runV (As := []) (rest := []) ⟨hx, hb, hml, hown, hts⟩ (wJ0_isLatin1_aae02 l dC dI ca base s.heap h0 n) (cwV 0 hts (jgV (jWr_6 _ (List.mem_of_getElem? (i := 4) rfl)) (jWr_6 _ (List.mem_of_getElem? (i := 5) rfl)) (jWr_6 _ (List.mem_of_getElem? (i := 6) rfl)) (jWr_5 _ (List.mem_of_getElem? (i := 15) rfl)) (jWr_6 _ (List.mem_of_getElem? (i := 7) rfl))) rfl rfl rfl (by decide +kernel) ⟨by rw [← hR]; exact Nat.le_of_ble_eq_true rfl, by rw [← hR]; exact Nat.le_of_ble_eq_true rfl⟩) ⟨fun a U g mk q => by obtain ⟨q0, q1, q2, qK, q9⟩ := q; exact ⟨q0, q1, (q2.moved (Vm.Alike.refl U.vm)), jG.calling g mk a qK, q9⟩, jStr_recv hstr_h0 hS, fun U hU hW => ⟨rfl, hU, (hstr_h0.moved hW.alike).kept hS.2.1, hG.step hW hU hS, by omega⟩⟩ rfl rfl hl.1 rfl (lv_room (Nat.le_of_ble_eq_true rfl)) dJ0_indexOf_7cf53_1 ⟨Nat.zero_le _, Nat.zero_le _⟩) (fun r_1 hr_1 => ?_)
  subst hr_1
  refine lv_if_eq (tgt := 23) hx hb dJ0_indexOf_7cf53_4 (by decide) (fun c_2 => ?_) (fun c_2 => ?_)
  · skip
    exact absurd c_2 (by decide)
  · skip
    refine lv_aload_n hx hb dJ0_indexOf_7cf53_7 rfl (lv_at hl 0 rfl) ?_
    obtain ⟨hsl_3, sv_3, gsv_3, hsv_3⟩ := hsE.2.2
    refine vk_getf hx hb gsv_3 hS hown (htw (.fieldLink RJ0 9 "java/lang/String" "value" "[B") (jWr_5 _ (List.mem_of_getElem? (i := 17) rfl))) (fun _ h9 => h9) dJ0_indexOf_7cf53_8 ?_
    refine lv_iload_n hx hb dJ0_indexOf_7cf53_11 rfl (lv_at hl 1 rfl) ?_
    refine lv_iload_n hx hb dJ0_indexOf_7cf53_12 rfl (lv_at hl 2 rfl) ?_
    refine lv_aload_n hx hb dJ0_indexOf_7cf53_13 rfl (lv_at hl 0 rfl) ?_
    refine vp_callSi (W.runV (As := []) (rest := [.int a2, .int a1, .ref sv_3]) ⟨hx, hb, hml, hown, hts⟩ (wJ0_length_8abf5 l dC dI ca base s.heap h0 n) (cwV 0 hts (jgV (jWr_37 _ (List.mem_of_getElem? (i := 19) rfl)) (jWr_5 _ (List.mem_of_getElem? (i := 13) rfl)) (jWr_5 _ (List.mem_of_getElem? (i := 14) rfl)) (jWr_5 _ (List.mem_of_getElem? (i := 15) rfl)) (jWr_5 _ (List.mem_of_getElem? (i := 16) rfl))) rfl rfl rfl (by decide +kernel) ⟨by rw [← hR]; exact Nat.le_of_ble_eq_true rfl, by rw [← hR]; exact Nat.le_of_ble_eq_true rfl⟩) ⟨fun a U g mk q => by obtain ⟨q0, q1, q2, qK, q9⟩ := q; exact ⟨q0, q1, (q2.moved (Vm.Alike.refl U.vm)), jG.calling g mk a qK, q9⟩, jStr_recv hstr_h0 hS, fun U hU hW => ⟨rfl, hU, (hstr_h0.moved hW.alike).kept hS.2.1, hG.step hW hU hS, by omega⟩⟩ rfl rfl hl.1 rfl (lv_room (Nat.le_of_ble_eq_true rfl)) dJ0_indexOf_7cf53_14 ⟨Nat.zero_le _, Nat.zero_le _⟩) (fun r_4 hr_4 => ?_)
    refine vp_callSi (W.runS (As := [.ref sv_3, .int a1, .int a2, .int r_4]) (rest := []) ⟨hx, hb, hml, hown, hts⟩ (eJ1_indexOf_4cfef l dC dI ca base s.heap sv_3 n f a1 a2 r_4) (va_cwS 4 hts (jgS (jWr_37 _ (List.mem_of_getElem? (i := 20) rfl)) (jWr_37 _ (List.mem_of_getElem? (i := 21) rfl)) (jWr_6 _ (List.mem_of_getElem? (i := 10) rfl)) (jWr_37 _ (List.mem_of_getElem? (i := 22) rfl))) rfl rfl rfl (by decide +kernel) ⟨by rw [← hR]; exact Nat.le_of_ble_eq_true rfl, by rw [← hR]; exact Nat.le_of_ble_eq_true rfl⟩) ⟨fun a U g mk q => by obtain ⟨q0, q1, q2, qK, q9⟩ := q; exact ⟨q0, q1, (q2.moved (Vm.Alike.refl U.vm)), jG.calling g mk a qK, q9⟩, fun U hU hW => ⟨rfl, hU, (hsv_3.moved hW.alike).kept hS.2.1, hG.step hW hU hS, ⟨by omega, hsl_3, hpre.2.1, by omega, by omega, by omega⟩⟩⟩ rfl rfl hl.1 rfl (lv_room (Nat.le_of_ble_eq_true rfl)) dJ0_indexOf_7cf53_17 ⟨Nat.zero_le _, Nat.zero_le _⟩) (fun r_5 hr_5 => ?_)
    refine lv_goto (tgt := 36) hx hb dJ0_indexOf_7cf53_20 (by decide) ?_
    rw [hQ]
    exact W.iret (v := r_5) hx hb hr (fun t ht hW => ⟨r_5, rfl, ⟨by omega, by omega, by omega, hr_5.2.2.2⟩, ht⟩) (fun _ h => nomatch h) dJ0_indexOf_7cf53_36
end
section
theorem dX13_command_0 : decode cX13_command 0 = .ok (.aload_n 0, 1) := by decide +kernel
theorem dX13_command_1 : decode cX13_command 1 = .ok (.getfield 140, 3) := by decide +kernel
theorem dX13_command_4 : decode cX13_command 4 = .ok (.ifCond .eq 13, 3) := by decide +kernel
theorem dX13_command_7 : decode cX13_command 7 = .ok (.aload_n 0, 1) := by decide +kernel
theorem dX13_command_8 : decode cX13_command 8 = .ok (.getfield 71, 3) := by decide +kernel
theorem dX13_command_11 : decode cX13_command 11 = .ok (.iconst 0, 1) := by decide +kernel
theorem dX13_command_12 : decode cX13_command 12 = .ok (.iaload, 1) := by decide +kernel
theorem dX13_command_13 : decode cX13_command 13 = .ok (.iconst 1, 1) := by decide +kernel
theorem dX13_command_14 : decode cX13_command 14 = .ok (.if_icmp .eq 5, 3) := by decide +kernel
theorem dX13_command_17 : decode cX13_command 17 = .ok (.iconst (-1), 1) := by decide +kernel
theorem dX13_command_18 : decode cX13_command 18 = .ok (.ireturn, 1) := by decide +kernel
theorem dX13_command_19 : decode cX13_command 19 = .ok (.iconst 0, 1) := by decide +kernel
theorem dX13_command_20 : decode cX13_command 20 = .ok (.istore_n 1, 1) := by decide +kernel
theorem dX13_command_21 : decode cX13_command 21 = .ok (.iconst 0, 1) := by decide +kernel
theorem dX13_command_22 : decode cX13_command 22 = .ok (.istore_n 2, 1) := by decide +kernel
theorem dX13_command_23 : decode cX13_command 23 = .ok (.iload_n 1, 1) := by decide +kernel
theorem dX13_command_24 : decode cX13_command 24 = .ok (.ldc_w 286, 3) := by decide +kernel
theorem dX13_command_27 : decode cX13_command 27 = .ok (.invokevirtual 122, 3) := by decide +kernel
theorem dX13_command_30 : decode cX13_command 30 = .ok (.if_icmp .ge 115, 3) := by decide +kernel
theorem dX13_command_33 : decode cX13_command 33 = .ok (.ldc_w 286, 3) := by decide +kernel
theorem dX13_command_36 : decode cX13_command 36 = .ok (.bipush 32, 2) := by decide +kernel
theorem dX13_command_38 : decode cX13_command 38 = .ok (.iload_n 1, 1) := by decide +kernel
theorem dX13_command_39 : decode cX13_command 39 = .ok (.invokevirtual 288, 3) := by decide +kernel
theorem dX13_command_42 : decode cX13_command 42 = .ok (.istore_n 3, 1) := by decide +kernel
theorem dX13_command_43 : decode cX13_command 43 = .ok (.aload_n 0, 1) := by decide +kernel
theorem dX13_command_44 : decode cX13_command 44 = .ok (.getfield 34, 3) := by decide +kernel
theorem dX13_command_47 : decode cX13_command 47 = .ok (.aload_n 0, 1) := by decide +kernel
theorem dX13_command_48 : decode cX13_command 48 = .ok (.getfield 74, 3) := by decide +kernel
theorem dX13_command_51 : decode cX13_command 51 = .ok (.iconst 0, 1) := by decide +kernel
theorem dX13_command_52 : decode cX13_command 52 = .ok (.iaload, 1) := by decide +kernel
theorem dX13_command_53 : decode cX13_command 53 = .ok (.iaload, 1) := by decide +kernel
theorem dX13_command_54 : decode cX13_command 54 = .ok (.iload_n 3, 1) := by decide +kernel
theorem dX13_command_55 : decode cX13_command 55 = .ok (.iload_n 1, 1) := by decide +kernel
theorem dX13_command_56 : decode cX13_command 56 = .ok (.isub, 1) := by decide +kernel
theorem dX13_command_57 : decode cX13_command 57 = .ok (.if_icmp .ne 7, 3) := by decide +kernel
theorem dX13_command_60 : decode cX13_command 60 = .ok (.iconst 1, 1) := by decide +kernel
theorem dX13_command_61 : decode cX13_command 61 = .ok (.goto 4, 3) := by decide +kernel
theorem dX13_command_64 : decode cX13_command 64 = .ok (.iconst 0, 1) := by decide +kernel
theorem dX13_command_65 : decode cX13_command 65 = .ok (.istore 4, 2) := by decide +kernel
theorem dX13_command_67 : decode cX13_command 67 = .ok (.iconst 0, 1) := by decide +kernel
theorem dX13_command_68 : decode cX13_command 68 = .ok (.istore 5, 2) := by decide +kernel
theorem dX13_command_70 : decode cX13_command 70 = .ok (.iload 5, 2) := by decide +kernel
theorem dX13_command_72 : decode cX13_command 72 = .ok (.iload_n 3, 1) := by decide +kernel
theorem dX13_command_73 : decode cX13_command 73 = .ok (.iload_n 1, 1) := by decide +kernel
theorem dX13_command_74 : decode cX13_command 74 = .ok (.isub, 1) := by decide +kernel
theorem dX13_command_75 : decode cX13_command 75 = .ok (.if_icmp .ge 53, 3) := by decide +kernel
theorem dX13_command_78 : decode cX13_command 78 = .ok (.iload 4, 2) := by decide +kernel
theorem dX13_command_80 : decode cX13_command 80 = .ok (.ifCond .eq 48, 3) := by decide +kernel
theorem dX13_command_83 : decode cX13_command 83 = .ok (.aload_n 0, 1) := by decide +kernel
theorem dX13_command_84 : decode cX13_command 84 = .ok (.getfield 28, 3) := by decide +kernel
theorem dX13_command_87 : decode cX13_command 87 = .ok (.aload_n 0, 1) := by decide +kernel
theorem dX13_command_88 : decode cX13_command 88 = .ok (.getfield 31, 3) := by decide +kernel
theorem dX13_command_91 : decode cX13_command 91 = .ok (.aload_n 0, 1) := by decide +kernel
theorem dX13_command_92 : decode cX13_command 92 = .ok (.getfield 74, 3) := by decide +kernel
theorem dX13_command_95 : decode cX13_command 95 = .ok (.iconst 0, 1) := by decide +kernel
theorem dX13_command_96 : decode cX13_command 96 = .ok (.iaload, 1) := by decide +kernel
theorem dX13_command_97 : decode cX13_command 97 = .ok (.iaload, 1) := by decide +kernel
theorem dX13_command_98 : decode cX13_command 98 = .ok (.iload 5, 2) := by decide +kernel
theorem dX13_command_100 : decode cX13_command 100 = .ok (.iadd, 1) := by decide +kernel
theorem dX13_command_101 : decode cX13_command 101 = .ok (.iaload, 1) := by decide +kernel
theorem dX13_command_102 : decode cX13_command 102 = .ok (.ldc_w 286, 3) := by decide +kernel
theorem dX13_command_105 : decode cX13_command 105 = .ok (.iload_n 1, 1) := by decide +kernel
theorem dX13_command_106 : decode cX13_command 106 = .ok (.iload 5, 2) := by decide +kernel
theorem dX13_command_108 : decode cX13_command 108 = .ok (.iadd, 1) := by decide +kernel
theorem dX13_command_109 : decode cX13_command 109 = .ok (.invokevirtual 128, 3) := by decide +kernel
theorem dX13_command_112 : decode cX13_command 112 = .ok (.if_icmp .ne 7, 3) := by decide +kernel
theorem dX13_command_115 : decode cX13_command 115 = .ok (.iconst 1, 1) := by decide +kernel
theorem dX13_command_116 : decode cX13_command 116 = .ok (.goto 4, 3) := by decide +kernel
theorem dX13_command_119 : decode cX13_command 119 = .ok (.iconst 0, 1) := by decide +kernel
theorem dX13_command_120 : decode cX13_command 120 = .ok (.istore 4, 2) := by decide +kernel
theorem dX13_command_122 : decode cX13_command 122 = .ok (.iinc 5 1, 3) := by decide +kernel
theorem dX13_command_125 : decode cX13_command 125 = .ok (.goto (-55), 3) := by decide +kernel
theorem dX13_command_128 : decode cX13_command 128 = .ok (.iload 4, 2) := by decide +kernel
theorem dX13_command_130 : decode cX13_command 130 = .ok (.ifCond .eq 5, 3) := by decide +kernel
theorem dX13_command_133 : decode cX13_command 133 = .ok (.iload_n 2, 1) := by decide +kernel
theorem dX13_command_134 : decode cX13_command 134 = .ok (.ireturn, 1) := by decide +kernel
theorem dX13_command_135 : decode cX13_command 135 = .ok (.iload_n 3, 1) := by decide +kernel
theorem dX13_command_136 : decode cX13_command 136 = .ok (.iconst 1, 1) := by decide +kernel
theorem dX13_command_137 : decode cX13_command 137 = .ok (.iadd, 1) := by decide +kernel
theorem dX13_command_138 : decode cX13_command 138 = .ok (.istore_n 1, 1) := by decide +kernel
theorem dX13_command_139 : decode cX13_command 139 = .ok (.iinc 2 1, 3) := by decide +kernel
theorem dX13_command_142 : decode cX13_command 142 = .ok (.goto (-119), 3) := by decide +kernel
theorem dX13_command_145 : decode cX13_command 145 = .ok (.iconst (-1), 1) := by decide +kernel
theorem dX13_command_146 : decode cX13_command 146 = .ok (.ireturn, 1) := by decide +kernel
def EX13_command : List (Nat × Nat) := []
def qtx2593 : String := match tables_1[2593]? with | some (Jvm.Cond.stringRef _ _ t) => t | _ => ""
set_option maxHeartbeats 4000000 in
set_option maxRecDepth 20000 in
theorem uX13_command (l : Launch) (dC : Nat → ClassId) (dI : Nat → Nat → Nat) (ca : Nat → ClassId) (base : Nat) (B : jF) (hB : jBok B) (hAp : jAp (dC, dI)) (hB15 : ∀ n G a H, B 15 n G a H ↔ jOb (dC, dI) 15 50 (F15 n G) a H) (hB155 : ∀ n G a H, B 155 n G a H ↔ jAr (dC, dI) (ca 1) (fun j z => 0 ≤ z.toInt ∧ z.toInt ≤ 11990) n a H) (hB156 : ∀ n G a H, B 156 n G a H ↔ jAr (dC, dI) (ca 1) (fun j z => 0 ≤ z.toInt ∧ z.toInt ≤ 10) n a H) (hB157 : ∀ n G a H, B 157 n G a H ↔ jAr (dC, dI) (ca 1) (fun j z => 0 ≤ z.toInt ∧ z.toInt ≤ 1599) n a H) (hB166 : ∀ n G a H, B 166 n G a H ↔ jAr (dC, dI) (ca 1) (fun j z => True) n a H) (hB167 : ∀ n G a H, B 167 n G a H ↔ jAr (dC, dI) (ca 1) (fun j z => True) n a H) (G0 : jT) (H0 : Heap) (r0 : Nat) (pk : Int32) : Met l yX13_command (jw yX13_command cX13_command 6 (some .int)) ({ frames := 4, cells := 0, slots := 0, locals := 142 }) (va_Pc [.ref r0] (fun U => U.heap = H0 ∧ jX B base G0 [] H0 ∧ jG dC dI ca base U ∧ G0 r0 = some (15, 0) ∧ jP (dC, dI) G0 H0 [(r0, 15, 30, .int pk)] ∧ 0 ≤ pk.toInt ∧ pk.toInt ≤ 1500)) (va_Qi (S := Unit) (fun r u => (-1 ≤ r.toInt ∧ r.toInt ≤ 18 ∧ (r.toInt = -1 ∨ 1 ≤ pk.toInt))) (fun u t => jRt (dC, dI) B base G0 EX13_command H0 [] t.heap) (jA base)) 0 0 (jA base) := by
  refine Met.ofW (cc := cX13_command) (maxL := 6) (ret := (some .int)) (by decide) rfl ?_
  intro p e s m args below meth c s₁ Bd hml hv
  obtain ⟨rfl, hH0, hX, hG, hg_r0, hP0, hp0, hp1⟩ := hv
  have hK := hG.1
  have hx := Bd.exec
  have hb := Bd.bytes
  have hr := Bd.returns
  have hts := atoms_spec (ws := (jw yX13_command cX13_command 6 (some .int))) Bd.pre
  have htw : ∀ w ∈ jWl, w.before _ s = true := fun w h => hts w (List.mem_cons_of_mem _ h)
  have hown : s.vm.findClass RX13 = some m.cls := findClass_of_methodNamed Bd.named
  have hlocks := Bd.notSynchronized
  obtain ⟨Q, hQ⟩ : ∃ Q, Q = MQ below (va_Qi (S := Unit) (fun r u => (-1 ≤ r.toInt ∧ r.toInt ≤ 18 ∧ (r.toInt = -1 ∨ 1 ≤ pk.toInt))) (fun u t => jRt (dC, dI) B base G0 EX13_command H0 [] t.heap) (jA base)) ([.ref r0] : List Value).toArray s 0 0 (jA base) := ⟨_, rfl⟩
  rw [← hQ]
  have hl := lv_entry ([.ref r0]) (n := 6) (Nat.le_of_ble_eq_true rfl)
  rw [lg_entry_eq]
  generalize (lg_sl ([.ref r0]) ++ List.replicate (6 - (lg_sl ([.ref r0])).length) Slot.unset).toArray = ls at hl ⊢
  have hl : lv_has ls 6 [(0, .ref r0)] := hl
  generalize hR : (headSpec (jw yX13_command cX13_command 6 (some .int)) ({ frames := 4, cells := 0, slots := 0, locals := 142 })).room = R
  subst hH0
  have hh : jSt (dC, dI) B base G0 G0 EX13_command s.heap 0 0 [(r0, 15, 30, .int pk)] [] [] s.heap [] := jSt.start hX hP0 jMc.nil jIs.nil
  clear hX hP0
  have hkm1 : ((-1) : Int32).toInt = (-1) := by decide
  have hk0 : (0 : Int32).toInt = 0 := by decide
  have hk1 : (1 : Int32).toInt = 1 := by decide
  have hk32 : (32 : Int32).toInt = 32 := by decide
  have hly_15_6 := htw (u_lay RX13 TX13 6) (jWc_wsX130 _ (u_in_lay (by decide)))
  have hly_15_8 := htw (u_lay RX13 TX13 8) (jWc_wsX130 _ (u_in_lay (by decide)))
  have hly_15_9 := htw (u_lay RX13 TX13 9) (jWc_wsX130 _ (u_in_lay (by decide)))
  have hly_15_28 := htw (u_lay RX13 TX13 28) (jWc_wsX130 _ (u_in_lay (by decide)))
  have hly_15_29 := htw (u_lay RX13 TX13 29) (jWc_wsX130 _ (u_in_lay (by decide)))
  have hly_15_30 := htw (u_lay RX13 TX13 30) (jWc_wsX130 _ (u_in_lay (by decide)))
  have hlk_140 := (htw (.fieldLink RX13 140 "ProofServerModel$Kernel" "tokens" "I") (jWr_60 _ (List.mem_of_getElem? (i := 9) rfl)))
  have hlk_71 := (htw (.fieldLink RX13 71 "ProofServerModel$Kernel" "kind" "[I") (jWr_15 _ (List.mem_of_getElem? (i := 4) rfl)))
  obtain ⟨str286, rstr286, hT286⟩ := hG.strT (o := RX13) (k := 286) (tx := qtx2593) (List.mem_of_getElem? (i := 2593) (by decide +kernel))
  have hstr2860 := hT286.str
  have h9str286 : qtx2593.length = 116 := by decide +kernel
  have hE286 : jStrE base str286 116 (jChT qtx2593) s s.heap := hT286.E h9str286 (by decide +kernel)
  have hstr286 : jStr base str286 116 s s.heap := by rw [h9str286] at hstr2860; exact hstr2860
  have hlk_34 := (htw (.fieldLink RX13 34 "ProofServerModel$Kernel" "nameLength" "[I") (jWr_14 _ (List.mem_of_getElem? (i := 16) rfl)))
  have hlk_74 := (htw (.fieldLink RX13 74 "ProofServerModel$Kernel" "what" "[I") (jWr_15 _ (List.mem_of_getElem? (i := 5) rfl)))
  have hlk_28 := (htw (.fieldLink RX13 28 "ProofServerModel$Kernel" "signs" "[I") (jWr_14 _ (List.mem_of_getElem? (i := 14) rfl)))
  have hlk_31 := (htw (.fieldLink RX13 31 "ProofServerModel$Kernel" "nameAt" "[I") (jWr_14 _ (List.mem_of_getElem? (i := 15) rfl)))
  have hc18 : jCs (jChT qtx2593) 115 = 18 := by decide +kernel
  refine lv_aload_n hx hb dX13_command_0 rfl (lv_at hl 0 rfl) ?_
  refine j7_read hx hb hown hK (C := RX13) (T := TX13) (N := 50) rfl hly_15_30 hlk_140 (hh.at 0 rfl) dX13_command_1 ?_
  refine lv_if_eq (tgt := 17) hx hb dX13_command_4 (by decide) (fun c_1 => ?_) (fun c_1 => ?_)
  · skip
    have c_1' : pk.toInt = 0 := jb_eq (rfl) ((by decide)) c_1
    refine lv_iconst (v := (-1)) hx hb dX13_command_17 (by decide) ?_
    rw [hQ]
    exact W.iret (v := (-1)) hx hb hr (fun t ht hW => ⟨⟨(-1), (), rfl, by exact ⟨by omega, by omega, by omega⟩, hh.rt (M1 := []) [] rfl ht⟩, by rw [ht]; try exact hh.1.1, fun q h9 hq => by rw [ht]; try exact hh.1.2.1 q h9 hq⟩) hh.1.2.2 dX13_command_18
  · skip
    have c_1' : pk.toInt ≠ 0 := jb_eq_n (rfl) ((by decide)) c_1
    refine lv_aload_n hx hb dX13_command_7 rfl (lv_at hl 0 rfl) ?_
    obtain ⟨v_2, hv_2, hh_3⟩ := hh.pin (C := RX13) (T := TX13) (N := 50) hB15 rfl (by decide) hg_r0 (i := 28) (by decide) rfl
    clear hh
    obtain ⟨kind_4, rfl, hg_kind_4⟩ := hv_2
    refine j7_read hx hb hown hK (C := RX13) (T := TX13) (N := 50) rfl hly_15_28 hlk_71 (hh_3.at 0 rfl) dX13_command_8 ?_
    refine lv_iconst (v := 0) hx hb dX13_command_11 (by decide) ?_
    refine j7_iald hx hb hK hh_3 hB167 1 rfl (by decide) hg_kind_4 (x := 0) ((by decide)) (by omega) dX13_command_12 (fun z_5 (hz_5 : True) => ?_)
    refine lv_iconst (v := 1) hx hb dX13_command_13 (by decide) ?_
    refine lv_icmp_eq (tgt := 19) hx hb dX13_command_14 (by decide) (fun c_6 => ?_) (fun c_6 => ?_)
    · skip
      have c_6' : z_5.toInt = 1 := jb_eq (rfl) ((by decide)) c_6
      refine lv_iconst (v := 0) hx hb dX13_command_19 (by decide) ?_
      refine lv_istore_n (lv' := [(1, .int 0), (0, .ref r0)]) hx hb dX13_command_20 rfl hl (by decide) rfl (fun ls hl => ?_)
      refine lv_iconst (v := 0) hx hb dX13_command_21 (by decide) ?_
      refine lv_istore_n (lv' := [(2, .int 0), (1, .int 0), (0, .ref r0)]) hx hb dX13_command_22 rfl hl (by decide) rfl (fun ls hl => ?_)
      have L23 : ∀ (N : Nat) (v1_7 : Int32) (v2_7 : Int32) (H_7 : Heap) (locs_7 : List Loc), jSt (dC, dI) B base G0 G0 EX13_command s.heap 0 0 [(r0, 15, 28, .ref kind_4), (r0, 15, 30, .int pk)] [] [] H_7 locs_7 → (0 ≤ v1_7.toInt ∧ v1_7.toInt ≤ 116 ∧ 0 ≤ v2_7.toInt ∧ v2_7.toInt ≤ v1_7.toInt ∧ v2_7.toInt ≤ jCs (jChT qtx2593) (v1_7.toInt + 0).toNat) → (116 - v1_7.toInt : Int) < N → ∀ ls : Array Slot, lv_has ls 6 [(0, .ref r0), (1, .int v1_7), (2, .int v2_7)] → W p l e R s m ([.ref r0] : List Value).toArray below meth c H_7 locs_7 0 0 Q (F0 m 23 ls []) := by
        intro N
        induction N with
        | zero => intro v1_7 v2_7 H_7 locs_7 hh_7  hi_7 hm; exact absurd hm (by omega)
        | succ N L23 =>
          intro v1_7 v2_7 H_7 locs_7 hh_7  hi_7 hm_7 ls hl
          obtain ⟨hi_7_0, hi_7_1, hi_7_2, hi_7_3, hi_7_4⟩ := hi_7
          refine lv_iload_n hx hb dX13_command_23 rfl (lv_at hl 1 rfl) ?_
          refine j_ldcSw hx hb hown rstr286 dX13_command_24 ?_
          refine vp_callSi (W.runV (As := []) (rest := [.int v1_7]) ⟨hx, hb, hml, hown, hts⟩ (wJ0_length_8abf5 l dC dI ca base H_7 str286 116) (cwV 0 hts (jgV (jWr_61 _ (List.mem_of_getElem? (i := 4) rfl)) (jWr_5 _ (List.mem_of_getElem? (i := 13) rfl)) (jWr_5 _ (List.mem_of_getElem? (i := 14) rfl)) (jWr_5 _ (List.mem_of_getElem? (i := 15) rfl)) (jWr_5 _ (List.mem_of_getElem? (i := 16) rfl))) rfl rfl rfl (by decide +kernel) ⟨by rw [← hR]; exact Nat.le_of_ble_eq_true rfl, by rw [← hR]; exact Nat.le_of_ble_eq_true rfl⟩) ⟨fun a U g mk q => by obtain ⟨q0, q1, q2, qK, q9⟩ := q; exact ⟨q0, q1, (q2.moved (Vm.Alike.refl U.vm)), jG.calling g mk a qK, q9⟩, jStr_recv hstr286 hh_7.1, fun U hU hW => ⟨rfl, hU, (hstr286.moved hW.alike).kept hh_7.1.2.1, hG.step hW hU hh_7.1, by omega⟩⟩ rfl rfl hl.1 rfl (lv_room (Nat.le_of_ble_eq_true rfl)) dX13_command_27 ⟨Nat.zero_le _, Nat.zero_le _⟩) (fun r_8 hr_8 => ?_)
          refine lv_icmp_ge (tgt := 145) hx hb dX13_command_30 (by decide) (fun c_9 => ?_) (fun c_9 => ?_)
          · skip
            have c_9' : v1_7.toInt ≥ r_8.toInt := jb_ge (rfl) (rfl) c_9
            refine lv_iconst (v := (-1)) hx hb dX13_command_145 (by decide) ?_
            rw [hQ]
            exact W.iret (v := (-1)) hx hb hr (fun t ht hW => ⟨⟨(-1), (), rfl, by exact ⟨by omega, by omega, by omega⟩, hh_7.rt (M1 := []) [] rfl ht⟩, by rw [ht]; try exact hh_7.1.1, fun q h9 hq => by rw [ht]; try exact hh_7.1.2.1 q h9 hq⟩) hh_7.1.2.2 dX13_command_146
          · skip
            have c_9' : v1_7.toInt < r_8.toInt := jb_ge_n (rfl) (rfl) c_9
            refine j_ldcSw hx hb hown rstr286 dX13_command_33 ?_
            refine lv_bipush (v := 32) hx hb dX13_command_36 (by decide) ?_
            refine lv_iload_n hx hb dX13_command_38 rfl (lv_at hl 1 rfl) ?_
            refine vp_callSi (W.runV (As := [.int 32, .int v1_7]) (rest := []) ⟨hx, hb, hml, hown, hts⟩ (eJ0_indexOf_7cf53 l dC dI ca base H_7 str286 116 (jChT qtx2593) 32 v1_7) (cwV 2 hts (jgV (jWr_61 _ (List.mem_of_getElem? (i := 5) rfl)) (jWr_37 _ (List.mem_of_getElem? (i := 16) rfl)) (jWr_37 _ (List.mem_of_getElem? (i := 17) rfl)) (jWr_5 _ (List.mem_of_getElem? (i := 15) rfl)) (jWr_37 _ (List.mem_of_getElem? (i := 18) rfl))) rfl rfl rfl (by decide +kernel) ⟨by rw [← hR]; exact Nat.le_of_ble_eq_true rfl, by rw [← hR]; exact Nat.le_of_ble_eq_true rfl⟩) ⟨fun a U g mk q => by obtain ⟨q0, q1, q2, qK, q9⟩ := q; exact ⟨q0, q1, (q2.moved (Vm.Alike.refl U.vm)), jG.calling g mk a qK, q9⟩, jStr_recv hstr286 hh_7.1, fun U hU hW => ⟨rfl, hU, (hE286.moved hW.alike).kept hh_7.1.2.1, hG.step hW hU hh_7.1, ⟨by omega, rfl, by omega, by omega⟩⟩⟩ rfl rfl hl.1 rfl (lv_room (Nat.le_of_ble_eq_true rfl)) dX13_command_39 ⟨Nat.zero_le _, Nat.zero_le _⟩) (fun r_10 hr_10 => ?_)
            refine lv_istore_n (lv' := [(3, .int r_10), (0, .ref r0), (1, .int v1_7), (2, .int v2_7)]) hx hb dX13_command_42 rfl hl (by decide) rfl (fun ls hl => ?_)
            refine lv_aload_n hx hb dX13_command_43 rfl (lv_at hl 1 rfl) ?_
            obtain ⟨v_11, hv_11, hh_12⟩ := hh_7.pin (C := RX13) (T := TX13) (N := 50) hB15 rfl (by decide) hg_r0 (i := 9) (by decide) rfl
            clear hh_7
            obtain ⟨nameLength_13, rfl, hg_nameLength_13⟩ := hv_11
            refine j7_read hx hb hown hK (C := RX13) (T := TX13) (N := 50) rfl hly_15_9 hlk_34 (hh_12.at 0 rfl) dX13_command_44 ?_
            refine lv_aload_n hx hb dX13_command_47 rfl (lv_at hl 1 rfl) ?_
            obtain ⟨v_14, hv_14, hh_15⟩ := hh_12.pin (C := RX13) (T := TX13) (N := 50) hB15 rfl (by decide) hg_r0 (i := 29) (by decide) rfl
            clear hh_12
            obtain ⟨what_16, rfl, hg_what_16⟩ := hv_14
            refine j7_read hx hb hown hK (C := RX13) (T := TX13) (N := 50) rfl hly_15_29 hlk_74 (hh_15.at 0 rfl) dX13_command_48 ?_
            refine lv_iconst (v := 0) hx hb dX13_command_51 (by decide) ?_
            refine j7_iald hx hb hK hh_15 hB157 1 rfl (by decide) hg_what_16 (x := 0) ((by decide)) (by omega) dX13_command_52 (fun z_17 (hz_17 : 0 ≤ z_17.toInt ∧ z_17.toInt ≤ 1599) => ?_)
            refine j7_iald hx hb hK hh_15 hB156 1 rfl (by decide) hg_nameLength_13 (x := z_17.toInt) (rfl) (by omega) dX13_command_53 (fun z_18 (hz_18 : 0 ≤ z_18.toInt ∧ z_18.toInt ≤ 10) => ?_)
            refine lv_iload_n hx hb dX13_command_54 rfl (lv_at hl 0 rfl) ?_
            refine lv_iload_n hx hb dX13_command_55 rfl (lv_at hl 2 rfl) ?_
            refine lv_isub hx hb dX13_command_56 ?_
            refine lv_topi (fun z_19 ez_19 => ?_)
            have hz_19 : z_19.toInt = r_10.toInt - v1_7.toInt := by rw [ez_19]; exact jb_isub2 (rfl) (rfl) (by omega)
            have C65 : ∀ (w0_20 : Int32) (H_20 : Heap) (locs_20 : List Loc), jSt (dC, dI) B base G0 G0 EX13_command s.heap 0 0 [(r0, 15, 29, .ref what_16), (r0, 15, 9, .ref nameLength_13), (r0, 15, 28, .ref kind_4), (r0, 15, 30, .int pk)] [] [] H_20 locs_20 → (w0_20 = 0 ∨ w0_20 = 1) → (0 ≤ w0_20.toInt ∧ w0_20.toInt ≤ 1 ∧ r_10.toInt - v1_7.toInt ≤ 10 + 1000 * (1 - w0_20.toInt)) → ∀ ls : Array Slot, lv_has ls 6 [(0, .ref r0), (1, .int v1_7), (2, .int v2_7), (3, .int r_10)] → W p l e R s m ([.ref r0] : List Value).toArray below meth c H_20 locs_20 0 0 Q (F0 m 65 ls [.int w0_20]) := by
              intro w0_20 H_20 locs_20 hh_20 hb_w0_20 hi_20 ls hl
              obtain ⟨hi_20_0, hi_20_1, hi_20_2⟩ := hi_20
              have hb_w0_20' := jb_01 hb_w0_20
              refine lv_istore (lv' := [(4, .int w0_20), (0, .ref r0), (1, .int v1_7), (2, .int v2_7), (3, .int r_10)]) hx hb dX13_command_65 hl (by decide) rfl (fun ls hl => ?_)
              refine lv_iconst (v := 0) hx hb dX13_command_67 (by decide) ?_
              refine lv_istore (lv' := [(5, .int 0), (4, .int w0_20), (0, .ref r0), (1, .int v1_7), (2, .int v2_7), (3, .int r_10)]) hx hb dX13_command_68 hl (by decide) rfl (fun ls hl => ?_)
              have L70 : ∀ (N : Nat) (v4_21 : Int32) (v5_21 : Int32) (H_21 : Heap) (locs_21 : List Loc), jSt (dC, dI) B base G0 G0 EX13_command s.heap 0 0 [(r0, 15, 29, .ref what_16), (r0, 15, 9, .ref nameLength_13), (r0, 15, 28, .ref kind_4), (r0, 15, 30, .int pk)] [] [] H_21 locs_21 → (v4_21 = 0 ∨ v4_21 = 1) → (0 ≤ v5_21.toInt ∧ v5_21.toInt ≤ 116 ∧ r_10.toInt - v1_7.toInt ≤ 10 + 1000 * (1 - v4_21.toInt)) → (116 - v5_21.toInt : Int) < N → ∀ ls : Array Slot, lv_has ls 6 [(0, .ref r0), (1, .int v1_7), (2, .int v2_7), (3, .int r_10), (4, .int v4_21), (5, .int v5_21)] → W p l e R s m ([.ref r0] : List Value).toArray below meth c H_21 locs_21 0 0 Q (F0 m 70 ls []) := by
                intro N
                induction N with
                | zero => intro v4_21 v5_21 H_21 locs_21 hh_21 hb_v4_21 hi_21 hm; exact absurd hm (by omega)
                | succ N L70 =>
                  intro v4_21 v5_21 H_21 locs_21 hh_21 hb_v4_21 hi_21 hm_21 ls hl
                  obtain ⟨hi_21_0, hi_21_1, hi_21_2⟩ := hi_21
                  have hb_v4_21' := jb_01 hb_v4_21
                  refine lv_iload hx hb dX13_command_70 (lv_at hl 5 rfl) ?_
                  refine lv_iload_n hx hb dX13_command_72 rfl (lv_at hl 3 rfl) ?_
                  refine lv_iload_n hx hb dX13_command_73 rfl (lv_at hl 1 rfl) ?_
                  refine lv_isub hx hb dX13_command_74 ?_
                  refine lv_topi (fun z_22 ez_22 => ?_)
                  have hz_22 : z_22.toInt = r_10.toInt - v1_7.toInt := by rw [ez_22]; exact jb_isub2 (rfl) (rfl) (by omega)
                  refine lv_icmp_ge (tgt := 128) hx hb dX13_command_75 (by decide) (fun c_23 => ?_) (fun c_23 => ?_)
                  · skip
                    have c_23' : v5_21.toInt ≥ z_22.toInt := jb_ge (rfl) (rfl) c_23
                    refine lv_iload hx hb dX13_command_128 (lv_at hl 4 rfl) ?_
                    refine lv_if_eq (tgt := 135) hx hb dX13_command_130 (by decide) (fun c_24 => ?_) (fun c_24 => ?_)
                    · skip
                      have c_24' : v4_21.toInt = 0 := jb_eq (rfl) ((by decide)) c_24
                      refine lv_iload_n hx hb dX13_command_135 rfl (lv_at hl 3 rfl) ?_
                      refine lv_iconst (v := 1) hx hb dX13_command_136 (by decide) ?_
                      refine lv_iadd hx hb dX13_command_137 ?_
                      refine lv_topi (fun z_25 ez_25 => ?_)
                      have hz_25 : z_25.toInt = r_10.toInt + 1 := by rw [ez_25]; exact jb_iadd2 (rfl) ((by decide)) (by omega)
                      refine lv_istore_n (lv' := [(1, .int z_25), (0, .ref r0), (2, .int v2_7), (3, .int r_10), (4, .int v4_21), (5, .int v5_21)]) hx hb dX13_command_138 rfl hl (by decide) rfl (fun ls hl => ?_)
                      obtain ⟨z_26, ez_26⟩ : ∃ y : Int32, y = v2_7 + 1 := ⟨_, rfl⟩
                      refine lv_iinc (v := z_26) (lv' := [(2, .int z_26), (1, .int z_25), (0, .ref r0), (3, .int r_10), (4, .int v4_21), (5, .int v5_21)]) hx hb dX13_command_139 hl (k := 2) rfl (by rw [ez_26]; rfl) (by decide) rfl (fun ls hl => ?_)
                      have hz_26 : z_26.toInt = v2_7.toInt + 1 := by rw [ez_26]; exact jb_iadd2 (rfl) (by decide) (by omega)
                      refine lv_goto (tgt := 23) hx hb dX13_command_142 (by decide) ?_
                      exact L23 z_25 z_26 _ _ (hh_21.sub (L1 := [(r0, 15, 28, .ref kind_4), (r0, 15, 30, .int pk)]) [2, 3] rfl (M1 := []) [] rfl (I1 := []) [] rfl) (⟨(by first | omega | rfl | assumption | (rw [show ((z_25).toInt + 0).toNat = (r_10).toInt.toNat + 1 by omega]; have h9 := jCs_s (jChT qtx2593) (m := (v1_7.toInt + 0).toNat) (n := (r_10).toInt.toNat) (by omega) hr_10.2.2.2; omega)), (by first | omega | rfl | assumption | (rw [show ((z_25).toInt + 0).toNat = (r_10).toInt.toNat + 1 by omega]; have h9 := jCs_s (jChT qtx2593) (m := (v1_7.toInt + 0).toNat) (n := (r_10).toInt.toNat) (by omega) hr_10.2.2.2; omega)), (by first | omega | rfl | assumption | (rw [show ((z_25).toInt + 0).toNat = (r_10).toInt.toNat + 1 by omega]; have h9 := jCs_s (jChT qtx2593) (m := (v1_7.toInt + 0).toNat) (n := (r_10).toInt.toNat) (by omega) hr_10.2.2.2; omega)), (by first | omega | rfl | assumption | (rw [show ((z_25).toInt + 0).toNat = (r_10).toInt.toNat + 1 by omega]; have h9 := jCs_s (jChT qtx2593) (m := (v1_7.toInt + 0).toNat) (n := (r_10).toInt.toNat) (by omega) hr_10.2.2.2; omega)), (by first | omega | rfl | assumption | (rw [show ((z_25).toInt + 0).toNat = (r_10).toInt.toNat + 1 by omega]; have h9 := jCs_s (jChT qtx2593) (m := (v1_7.toInt + 0).toNat) (n := (r_10).toInt.toNat) (by omega) hr_10.2.2.2; omega))⟩) (by omega) _ (lv_sub hl [2, 1, 0] rfl)
                    · skip
                      have c_24' : v4_21.toInt ≠ 0 := jb_eq_n (rfl) ((by decide)) c_24
                      refine lv_iload_n hx hb dX13_command_133 rfl (lv_at hl 2 rfl) ?_
                      rw [hQ]
                      exact W.iret (v := v2_7) hx hb hr (fun t ht hW => ⟨⟨v2_7, (), rfl, by have h9 := jCs_mono (jChT qtx2593) (m := (v1_7.toInt + 0).toNat) (n := 115) (by omega); exact ⟨by omega, by omega, by omega⟩, hh_21.rt (M1 := []) [] rfl ht⟩, by rw [ht]; try exact hh_21.1.1, fun q h9 hq => by rw [ht]; try exact hh_21.1.2.1 q h9 hq⟩) hh_21.1.2.2 dX13_command_134
                  · skip
                    have c_23' : v5_21.toInt < z_22.toInt := jb_ge_n (rfl) (rfl) c_23
                    refine lv_iload hx hb dX13_command_78 (lv_at hl 4 rfl) ?_
                    refine lv_if_eq (tgt := 128) hx hb dX13_command_80 (by decide) (fun c_27 => ?_) (fun c_27 => ?_)
                    · skip
                      have c_27' : v4_21.toInt = 0 := jb_eq (rfl) ((by decide)) c_27
                      refine lv_iload hx hb dX13_command_128 (lv_at hl 4 rfl) ?_
                      refine lv_if_eq (tgt := 135) hx hb dX13_command_130 (by decide) (fun c_28 => ?_) (fun c_28 => ?_)
                      · skip
                        have c_28' : v4_21.toInt = 0 := jb_eq (rfl) ((by decide)) c_28
                        refine lv_iload_n hx hb dX13_command_135 rfl (lv_at hl 3 rfl) ?_
                        refine lv_iconst (v := 1) hx hb dX13_command_136 (by decide) ?_
                        refine lv_iadd hx hb dX13_command_137 ?_
                        refine lv_topi (fun z_29 ez_29 => ?_)
                        have hz_29 : z_29.toInt = r_10.toInt + 1 := by rw [ez_29]; exact jb_iadd2 (rfl) ((by decide)) (by omega)
                        refine lv_istore_n (lv' := [(1, .int z_29), (0, .ref r0), (2, .int v2_7), (3, .int r_10), (4, .int v4_21), (5, .int v5_21)]) hx hb dX13_command_138 rfl hl (by decide) rfl (fun ls hl => ?_)
                        obtain ⟨z_30, ez_30⟩ : ∃ y : Int32, y = v2_7 + 1 := ⟨_, rfl⟩
                        refine lv_iinc (v := z_30) (lv' := [(2, .int z_30), (1, .int z_29), (0, .ref r0), (3, .int r_10), (4, .int v4_21), (5, .int v5_21)]) hx hb dX13_command_139 hl (k := 2) rfl (by rw [ez_30]; rfl) (by decide) rfl (fun ls hl => ?_)
                        have hz_30 : z_30.toInt = v2_7.toInt + 1 := by rw [ez_30]; exact jb_iadd2 (rfl) (by decide) (by omega)
                        refine lv_goto (tgt := 23) hx hb dX13_command_142 (by decide) ?_
                        exact L23 z_29 z_30 _ _ (hh_21.sub (L1 := [(r0, 15, 28, .ref kind_4), (r0, 15, 30, .int pk)]) [2, 3] rfl (M1 := []) [] rfl (I1 := []) [] rfl) (⟨(by first | omega | rfl | assumption | (rw [show ((z_29).toInt + 0).toNat = (r_10).toInt.toNat + 1 by omega]; have h9 := jCs_s (jChT qtx2593) (m := (v1_7.toInt + 0).toNat) (n := (r_10).toInt.toNat) (by omega) hr_10.2.2.2; omega)), (by first | omega | rfl | assumption | (rw [show ((z_29).toInt + 0).toNat = (r_10).toInt.toNat + 1 by omega]; have h9 := jCs_s (jChT qtx2593) (m := (v1_7.toInt + 0).toNat) (n := (r_10).toInt.toNat) (by omega) hr_10.2.2.2; omega)), (by first | omega | rfl | assumption | (rw [show ((z_29).toInt + 0).toNat = (r_10).toInt.toNat + 1 by omega]; have h9 := jCs_s (jChT qtx2593) (m := (v1_7.toInt + 0).toNat) (n := (r_10).toInt.toNat) (by omega) hr_10.2.2.2; omega)), (by first | omega | rfl | assumption | (rw [show ((z_29).toInt + 0).toNat = (r_10).toInt.toNat + 1 by omega]; have h9 := jCs_s (jChT qtx2593) (m := (v1_7.toInt + 0).toNat) (n := (r_10).toInt.toNat) (by omega) hr_10.2.2.2; omega)), (by first | omega | rfl | assumption | (rw [show ((z_29).toInt + 0).toNat = (r_10).toInt.toNat + 1 by omega]; have h9 := jCs_s (jChT qtx2593) (m := (v1_7.toInt + 0).toNat) (n := (r_10).toInt.toNat) (by omega) hr_10.2.2.2; omega))⟩) (by omega) _ (lv_sub hl [2, 1, 0] rfl)
                      · skip
                        have c_28' : v4_21.toInt ≠ 0 := jb_eq_n (rfl) ((by decide)) c_28
                        exact (by omega : False).elim
                    · skip
                      have c_27' : v4_21.toInt ≠ 0 := jb_eq_n (rfl) ((by decide)) c_27
                      refine lv_aload_n hx hb dX13_command_83 rfl (lv_at hl 0 rfl) ?_
                      obtain ⟨v_31, hv_31, hh_32⟩ := hh_21.pin (C := RX13) (T := TX13) (N := 50) hB15 rfl (by decide) hg_r0 (i := 6) (by decide) rfl
                      clear hh_21
                      obtain ⟨signs_33, rfl, hg_signs_33⟩ := hv_31
                      refine j7_read hx hb hown hK (C := RX13) (T := TX13) (N := 50) rfl hly_15_6 hlk_28 (hh_32.at 0 rfl) dX13_command_84 ?_
                      refine lv_aload_n hx hb dX13_command_87 rfl (lv_at hl 0 rfl) ?_
                      obtain ⟨v_34, hv_34, hh_35⟩ := hh_32.pin (C := RX13) (T := TX13) (N := 50) hB15 rfl (by decide) hg_r0 (i := 8) (by decide) rfl
                      clear hh_32
                      obtain ⟨nameAt_36, rfl, hg_nameAt_36⟩ := hv_34
                      refine j7_read hx hb hown hK (C := RX13) (T := TX13) (N := 50) rfl hly_15_8 hlk_31 (hh_35.at 0 rfl) dX13_command_88 ?_
                      refine lv_aload_n hx hb dX13_command_91 rfl (lv_at hl 0 rfl) ?_
                      refine j7_read hx hb hown hK (C := RX13) (T := TX13) (N := 50) rfl hly_15_29 hlk_74 (hh_35.at 2 rfl) dX13_command_92 ?_
                      refine lv_iconst (v := 0) hx hb dX13_command_95 (by decide) ?_
                      refine j7_iald hx hb hK hh_35 hB157 1 rfl (by decide) hg_what_16 (x := 0) ((by decide)) (by omega) dX13_command_96 (fun z_37 (hz_37 : 0 ≤ z_37.toInt ∧ z_37.toInt ≤ 1599) => ?_)
                      refine j7_iald hx hb hK hh_35 hB155 1 rfl (by decide) hg_nameAt_36 (x := z_37.toInt) (rfl) (by omega) dX13_command_97 (fun z_38 (hz_38 : 0 ≤ z_38.toInt ∧ z_38.toInt ≤ 11990) => ?_)
                      refine lv_iload hx hb dX13_command_98 (lv_at hl 5 rfl) ?_
                      refine lv_iadd hx hb dX13_command_100 ?_
                      refine lv_topi (fun z_39 ez_39 => ?_)
                      have hz_39 : z_39.toInt = z_38.toInt + v5_21.toInt := by rw [ez_39]; exact jb_iadd2 (rfl) (rfl) (by omega)
                      refine j7_iald hx hb hK hh_35 hB166 1 rfl (by decide) hg_signs_33 (x := z_39.toInt) (rfl) (by omega) dX13_command_101 (fun z_40 (hz_40 : True) => ?_)
                      refine j_ldcSw hx hb hown rstr286 dX13_command_102 ?_
                      refine lv_iload_n hx hb dX13_command_105 rfl (lv_at hl 1 rfl) ?_
                      refine lv_iload hx hb dX13_command_106 (lv_at hl 5 rfl) ?_
                      refine lv_iadd hx hb dX13_command_108 ?_
                      refine lv_topi (fun z_41 ez_41 => ?_)
                      have hz_41 : z_41.toInt = v1_7.toInt + v5_21.toInt := by rw [ez_41]; exact jb_iadd2 (rfl) (rfl) (by omega)
                      refine vp_callSi (W.runV (As := [.int z_41]) (rest := [.int z_40]) ⟨hx, hb, hml, hown, hts⟩ (wJ0_charAt_5068e l dC dI ca base H_21 str286 116 z_41) (cwV 1 hts (jgV (jWr_61 _ (List.mem_of_getElem? (i := 6) rfl)) (jWr_6 _ (List.mem_of_getElem? (i := 1) rfl)) (jWr_6 _ (List.mem_of_getElem? (i := 2) rfl)) (jWr_5 _ (List.mem_of_getElem? (i := 15) rfl)) (jWr_6 _ (List.mem_of_getElem? (i := 3) rfl))) rfl rfl rfl (by decide +kernel) ⟨by rw [← hR]; exact Nat.le_of_ble_eq_true rfl, by rw [← hR]; exact Nat.le_of_ble_eq_true rfl⟩) ⟨fun a U g mk q => by obtain ⟨q0, q1, q2, qK, q9⟩ := q; exact ⟨q0, q1, (q2.moved (Vm.Alike.refl U.vm)), jG.calling g mk a qK, q9⟩, jStr_recv hstr286 hh_35.1, fun U hU hW => ⟨rfl, hU, (hstr286.moved hW.alike).kept hh_35.1.2.1, hG.step hW hU hh_35.1, ⟨by omega, by omega, by omega⟩⟩⟩ rfl rfl hl.1 rfl (lv_room (Nat.le_of_ble_eq_true rfl)) dX13_command_109 ⟨Nat.zero_le _, Nat.zero_le _⟩) (fun r_42 hr_42 => ?_)
                      refine lv_icmp_ne (tgt := 119) hx hb dX13_command_112 (by decide) (fun c_43 => ?_) (fun c_43 => ?_)
                      · skip
                        have c_43' : z_40.toInt ≠ r_42.toInt := jb_ne (rfl) (rfl) c_43
                        refine lv_iconst (v := 0) hx hb dX13_command_119 (by decide) ?_
                        refine lv_istore (lv' := [(4, .int 0), (0, .ref r0), (1, .int v1_7), (2, .int v2_7), (3, .int r_10), (5, .int v5_21)]) hx hb dX13_command_120 hl (by decide) rfl (fun ls hl => ?_)
                        obtain ⟨z_44, ez_44⟩ : ∃ y : Int32, y = v5_21 + 1 := ⟨_, rfl⟩
                        refine lv_iinc (v := z_44) (lv' := [(5, .int z_44), (4, .int 0), (0, .ref r0), (1, .int v1_7), (2, .int v2_7), (3, .int r_10)]) hx hb dX13_command_122 hl (k := 5) rfl (by rw [ez_44]; rfl) (by decide) rfl (fun ls hl => ?_)
                        have hz_44 : z_44.toInt = v5_21.toInt + 1 := by rw [ez_44]; exact jb_iadd2 (rfl) (by decide) (by omega)
                        refine lv_goto (tgt := 70) hx hb dX13_command_125 (by decide) ?_
                        exact L70 0 z_44 _ _ (hh_35.sub (L1 := [(r0, 15, 29, .ref what_16), (r0, 15, 9, .ref nameLength_13), (r0, 15, 28, .ref kind_4), (r0, 15, 30, .int pk)]) [2, 3, 4, 5] rfl (M1 := []) [] rfl (I1 := []) [] rfl) (Or.inl rfl) (by first | omega | (refine ⟨?_, ?_, ?_⟩ <;> (first | omega | rfl | assumption | decide | exact Or.inl rfl | exact Or.inr rfl | (simp only; omega)))) (by omega) _ (lv_sub hl [2, 3, 4, 5, 1, 0] rfl)
                      · skip
                        have c_43' : z_40.toInt = r_42.toInt := jb_ne_n (rfl) (rfl) c_43
                        refine lv_iconst (v := 1) hx hb dX13_command_115 (by decide) ?_
                        refine lv_goto (tgt := 120) hx hb dX13_command_116 (by decide) ?_
                        refine lv_istore (lv' := [(4, .int 1), (0, .ref r0), (1, .int v1_7), (2, .int v2_7), (3, .int r_10), (5, .int v5_21)]) hx hb dX13_command_120 hl (by decide) rfl (fun ls hl => ?_)
                        obtain ⟨z_45, ez_45⟩ : ∃ y : Int32, y = v5_21 + 1 := ⟨_, rfl⟩
                        refine lv_iinc (v := z_45) (lv' := [(5, .int z_45), (4, .int 1), (0, .ref r0), (1, .int v1_7), (2, .int v2_7), (3, .int r_10)]) hx hb dX13_command_122 hl (k := 5) rfl (by rw [ez_45]; rfl) (by decide) rfl (fun ls hl => ?_)
                        have hz_45 : z_45.toInt = v5_21.toInt + 1 := by rw [ez_45]; exact jb_iadd2 (rfl) (by decide) (by omega)
                        refine lv_goto (tgt := 70) hx hb dX13_command_125 (by decide) ?_
                        exact L70 1 z_45 _ _ (hh_35.sub (L1 := [(r0, 15, 29, .ref what_16), (r0, 15, 9, .ref nameLength_13), (r0, 15, 28, .ref kind_4), (r0, 15, 30, .int pk)]) [2, 3, 4, 5] rfl (M1 := []) [] rfl (I1 := []) [] rfl) (Or.inr rfl) (by first | omega | (refine ⟨?_, ?_, ?_⟩ <;> (first | omega | rfl | assumption | decide | exact Or.inl rfl | exact Or.inr rfl | (simp only; omega)))) (by omega) _ (lv_sub hl [2, 3, 4, 5, 1, 0] rfl)
              exact L70 (116 - (0 : Int32).toInt : Int).toNat.succ w0_20 0 _ _ hh_20 (hb_w0_20) (by first | omega | (refine ⟨?_, ?_, ?_⟩ <;> (first | omega | rfl | assumption | decide | exact Or.inl rfl | exact Or.inr rfl | (simp only; omega)))) (by omega) _ (lv_sub hl [2, 3, 4, 5, 1, 0] rfl)
            refine lv_icmp_ne (tgt := 64) hx hb dX13_command_57 (by decide) (fun c_46 => ?_) (fun c_46 => ?_)
            · skip
              have c_46' : z_18.toInt ≠ z_19.toInt := jb_ne (rfl) (rfl) c_46
              refine lv_iconst (v := 0) hx hb dX13_command_64 (by decide) ?_
              exact C65 0 _ _ hh_15 (Or.inl rfl) (by first | omega | (refine ⟨?_, ?_, ?_⟩ <;> (first | omega | rfl | assumption | decide | exact Or.inl rfl | exact Or.inr rfl | (simp only; omega)))) _ (lv_sub hl [1, 2, 3, 0] rfl)
            · skip
              have c_46' : z_18.toInt = z_19.toInt := jb_ne_n (rfl) (rfl) c_46
              refine lv_iconst (v := 1) hx hb dX13_command_60 (by decide) ?_
              refine lv_goto (tgt := 65) hx hb dX13_command_61 (by decide) ?_
              exact C65 1 _ _ hh_15 (Or.inr rfl) (by first | omega | (refine ⟨?_, ?_, ?_⟩ <;> (first | omega | rfl | assumption | decide | exact Or.inl rfl | exact Or.inr rfl | (simp only; omega)))) _ (lv_sub hl [1, 2, 3, 0] rfl)
      exact L23 (116 - (0 : Int32).toInt : Int).toNat.succ 0 0 _ _ hh_3 (by refine ⟨by omega, by omega, by omega, by omega, ?_⟩; rw [hk0]; exact jCs_mono (jChT qtx2593) (m := 0) (Nat.zero_le _)) (by omega) _ (lv_sub hl [2, 1, 0] rfl)
    · skip
      have c_6' : z_5.toInt ≠ 1 := jb_eq_n (rfl) ((by decide)) c_6
      refine lv_iconst (v := (-1)) hx hb dX13_command_17 (by decide) ?_
      rw [hQ]
      exact W.iret (v := (-1)) hx hb hr (fun t ht hW => ⟨⟨(-1), (), rfl, by exact ⟨by omega, by omega, by omega⟩, hh_3.rt (M1 := []) [] rfl ht⟩, by rw [ht]; try exact hh_3.1.1, fun q h9 hq => by rw [ht]; try exact hh_3.1.2.1 q h9 hq⟩) hh_3.1.2.2 dX13_command_18
end
section
theorem dX13_sentence_0 : decode cX13_sentence 0 = .ok (.iload 4, 2) := by decide +kernel
theorem dX13_sentence_2 : decode cX13_sentence 2 = .ok (.ifCond .le 6, 3) := by decide +kernel
theorem dX13_sentence_5 : decode cX13_sentence 5 = .ok (.iload 4, 2) := by decide +kernel
theorem dX13_sentence_7 : decode cX13_sentence 7 = .ok (.ireturn, 1) := by decide +kernel
theorem dX13_sentence_8 : decode cX13_sentence 8 = .ok (.aload_n 0, 1) := by decide +kernel
theorem dX13_sentence_9 : decode cX13_sentence 9 = .ok (.aload_n 1, 1) := by decide +kernel
theorem dX13_sentence_10 : decode cX13_sentence 10 = .ok (.iload_n 2, 1) := by decide +kernel
theorem dX13_sentence_11 : decode cX13_sentence 11 = .ok (.iload_n 3, 1) := by decide +kernel
theorem dX13_sentence_12 : decode cX13_sentence 12 = .ok (.invokevirtual 167, 3) := by decide +kernel
theorem dX13_sentence_15 : decode cX13_sentence 15 = .ok (.aload_n 0, 1) := by decide +kernel
theorem dX13_sentence_16 : decode cX13_sentence 16 = .ok (.invokevirtual 309, 3) := by decide +kernel
theorem dX13_sentence_19 : decode cX13_sentence 19 = .ok (.istore 5, 2) := by decide +kernel
theorem dX13_sentence_21 : decode cX13_sentence 21 = .ok (.iload 5, 2) := by decide +kernel
theorem dX13_sentence_23 : decode cX13_sentence 23 = .ok (.ifCond .lt 10, 3) := by decide +kernel
theorem dX13_sentence_26 : decode cX13_sentence 26 = .ok (.aload_n 0, 1) := by decide +kernel
theorem dX13_sentence_27 : decode cX13_sentence 27 = .ok (.getfield 143, 3) := by decide +kernel
theorem dX13_sentence_30 : decode cX13_sentence 30 = .ok (.ifCond .le 5, 3) := by decide +kernel
theorem dX13_sentence_33 : decode cX13_sentence 33 = .ok (.iconst 3, 1) := by decide +kernel
theorem dX13_sentence_34 : decode cX13_sentence 34 = .ok (.ireturn, 1) := by decide +kernel
theorem dX13_sentence_35 : decode cX13_sentence 35 = .ok (.aload_n 0, 1) := by decide +kernel
theorem dX13_sentence_36 : decode cX13_sentence 36 = .ok (.iconst 0, 1) := by decide +kernel
theorem dX13_sentence_37 : decode cX13_sentence 37 = .ok (.putfield 181, 3) := by decide +kernel
theorem dX13_sentence_40 : decode cX13_sentence 40 = .ok (.aload_n 0, 1) := by decide +kernel
theorem dX13_sentence_41 : decode cX13_sentence 41 = .ok (.iload 5, 2) := by decide +kernel
theorem dX13_sentence_43 : decode cX13_sentence 43 = .ok (.invokevirtual 312, 3) := by decide +kernel
theorem dX13_sentence_46 : decode cX13_sentence 46 = .ok (.aload_n 0, 1) := by decide +kernel
theorem dX13_sentence_47 : decode cX13_sentence 47 = .ok (.getfield 181, 3) := by decide +kernel
theorem dX13_sentence_50 : decode cX13_sentence 50 = .ok (.ifCond .eq 5, 3) := by decide +kernel
theorem dX13_sentence_53 : decode cX13_sentence 53 = .ok (.iconst 3, 1) := by decide +kernel
theorem dX13_sentence_54 : decode cX13_sentence 54 = .ok (.ireturn, 1) := by decide +kernel
theorem dX13_sentence_55 : decode cX13_sentence 55 = .ok (.aload_n 0, 1) := by decide +kernel
theorem dX13_sentence_56 : decode cX13_sentence 56 = .ok (.getfield 115, 3) := by decide +kernel
theorem dX13_sentence_59 : decode cX13_sentence 59 = .ok (.iload 5, 2) := by decide +kernel
theorem dX13_sentence_61 : decode cX13_sentence 61 = .ok (.iconst 3, 1) := by decide +kernel
theorem dX13_sentence_62 : decode cX13_sentence 62 = .ok (.if_icmp .gt 7, 3) := by decide +kernel
theorem dX13_sentence_65 : decode cX13_sentence 65 = .ok (.iconst 1, 1) := by decide +kernel
theorem dX13_sentence_66 : decode cX13_sentence 66 = .ok (.goto 4, 3) := by decide +kernel
theorem dX13_sentence_69 : decode cX13_sentence 69 = .ok (.iconst 0, 1) := by decide +kernel
theorem dX13_sentence_70 : decode cX13_sentence 70 = .ok (.if_icmp .ne 5, 3) := by decide +kernel
theorem dX13_sentence_73 : decode cX13_sentence 73 = .ok (.iconst 4, 1) := by decide +kernel
theorem dX13_sentence_74 : decode cX13_sentence 74 = .ok (.ireturn, 1) := by decide +kernel
theorem dX13_sentence_75 : decode cX13_sentence 75 = .ok (.aload_n 0, 1) := by decide +kernel
theorem dX13_sentence_76 : decode cX13_sentence 76 = .ok (.iconst 0, 1) := by decide +kernel
theorem dX13_sentence_77 : decode cX13_sentence 77 = .ok (.putfield 221, 3) := by decide +kernel
theorem dX13_sentence_80 : decode cX13_sentence 80 = .ok (.aload_n 0, 1) := by decide +kernel
theorem dX13_sentence_81 : decode cX13_sentence 81 = .ok (.iconst 0, 1) := by decide +kernel
theorem dX13_sentence_82 : decode cX13_sentence 82 = .ok (.putfield 242, 3) := by decide +kernel
theorem dX13_sentence_85 : decode cX13_sentence 85 = .ok (.iload 5, 2) := by decide +kernel
theorem dX13_sentence_87 : decode cX13_sentence 87 = .ok (.iconst 3, 1) := by decide +kernel
theorem dX13_sentence_88 : decode cX13_sentence 88 = .ok (.if_icmp .gt 12, 3) := by decide +kernel
theorem dX13_sentence_91 : decode cX13_sentence 91 = .ok (.aload_n 0, 1) := by decide +kernel
theorem dX13_sentence_92 : decode cX13_sentence 92 = .ok (.iload 5, 2) := by decide +kernel
theorem dX13_sentence_94 : decode cX13_sentence 94 = .ok (.invokevirtual 315, 3) := by decide +kernel
theorem dX13_sentence_97 : decode cX13_sentence 97 = .ok (.goto 24, 3) := by decide +kernel
theorem dX13_sentence_100 : decode cX13_sentence 100 = .ok (.iload 5, 2) := by decide +kernel
theorem dX13_sentence_102 : decode cX13_sentence 102 = .ok (.iconst 5, 1) := by decide +kernel
theorem dX13_sentence_103 : decode cX13_sentence 103 = .ok (.if_icmp .gt 12, 3) := by decide +kernel
theorem dX13_sentence_106 : decode cX13_sentence 106 = .ok (.aload_n 0, 1) := by decide +kernel
theorem dX13_sentence_107 : decode cX13_sentence 107 = .ok (.iload 5, 2) := by decide +kernel
theorem dX13_sentence_109 : decode cX13_sentence 109 = .ok (.invokevirtual 318, 3) := by decide +kernel
theorem dX13_sentence_112 : decode cX13_sentence 112 = .ok (.goto 9, 3) := by decide +kernel
theorem dX13_sentence_115 : decode cX13_sentence 115 = .ok (.aload_n 0, 1) := by decide +kernel
theorem dX13_sentence_116 : decode cX13_sentence 116 = .ok (.iload 5, 2) := by decide +kernel
theorem dX13_sentence_118 : decode cX13_sentence 118 = .ok (.invokevirtual 321, 3) := by decide +kernel
theorem dX13_sentence_121 : decode cX13_sentence 121 = .ok (.aload_n 0, 1) := by decide +kernel
theorem dX13_sentence_122 : decode cX13_sentence 122 = .ok (.getfield 221, 3) := by decide +kernel
theorem dX13_sentence_125 : decode cX13_sentence 125 = .ok (.ireturn, 1) := by decide +kernel
end
section
def EX13_sentencev9 : List (Nat × Nat) := [(15, 5), (15, 7), (15, 10), (15, 11), (15, 15), (15, 18), (15, 19), (15, 20), (15, 21), (15, 30), (15, 31), (15, 32), (15, 33), (15, 34), (15, 36), (15, 38), (15, 39), (15, 40), (15, 41), (15, 42), (103, 0), (150, 0), (151, 0), (152, 0), (153, 0), (154, 0), (155, 0), (156, 0), (157, 0), (158, 0), (159, 0), (160, 0), (161, 0), (162, 0), (163, 0), (165, 0), (166, 0), (167, 0), (168, 0), (169, 0)]
set_option maxHeartbeats 4000000 in
set_option maxRecDepth 20000 in
theorem uX13_sentencev9 (l : Launch) (dC : Nat → ClassId) (dI : Nat → Nat → Nat) (ca : Nat → ClassId) (base : Nat) (B : jF) (hB : jBok B) (hAp : jAp (dC, dI)) (hB15 : ∀ n G a H, B 15 n G a H ↔ jOb (dC, dI) 15 50 (F15 n G) a H) (hB101 : ∀ n G a H, B 101 n G a H ↔ jAr (dC, dI) (ca 1) (fun j z => True) n a H) (hB103 : ∀ n G a H, B 103 n G a H ↔ jAr (dC, dI) (ca 3) (fun j z => (z = 0 ∨ z = 1)) n a H) (hB150 : ∀ n G a H, B 150 n G a H ↔ jAr (dC, dI) (ca 1) (fun j z => True) n a H) (hB151 : ∀ n G a H, B 151 n G a H ↔ jAr (dC, dI) (ca 1) (fun j z => True) n a H) (hB152 : ∀ n G a H, B 152 n G a H ↔ jAr (dC, dI) (ca 1) (fun j z => True) n a H) (hB153 : ∀ n G a H, B 153 n G a H ↔ jAr (dC, dI) (ca 1) (fun j z => True) n a H) (hB154 : ∀ n G a H, B 154 n G a H ↔ jAr (dC, dI) (ca 1) (fun j z => True) n a H) (hB155 : ∀ n G a H, B 155 n G a H ↔ jAr (dC, dI) (ca 1) (fun j z => 0 ≤ z.toInt ∧ z.toInt ≤ 11990) n a H) (hB156 : ∀ n G a H, B 156 n G a H ↔ jAr (dC, dI) (ca 1) (fun j z => 0 ≤ z.toInt ∧ z.toInt ≤ 10) n a H) (hB157 : ∀ n G a H, B 157 n G a H ↔ jAr (dC, dI) (ca 1) (fun j z => 0 ≤ z.toInt ∧ z.toInt ≤ 1599) n a H) (hB158 : ∀ n G a H, B 158 n G a H ↔ jAr (dC, dI) (ca 1) (fun j z => 0 ≤ z.toInt ∧ z.toInt ≤ 6) n a H) (hB159 : ∀ n G a H, B 159 n G a H ↔ jAr (dC, dI) (ca 1) (fun j z => 0 ≤ z.toInt ∧ z.toInt ≤ 8) n a H) (hB160 : ∀ n G a H, B 160 n G a H ↔ jAr (dC, dI) (ca 1) (fun j z => 0 ≤ z.toInt ∧ z.toInt ≤ 119999) n a H) (hB161 : ∀ n G a H, B 161 n G a H ↔ jAr (dC, dI) (ca 1) (fun j z => 0 ≤ z.toInt ∧ z.toInt ≤ 119999) n a H) (hB162 : ∀ n G a H, B 162 n G a H ↔ jAr (dC, dI) (ca 1) (fun j z => 0 ≤ z.toInt ∧ z.toInt ≤ 119999) n a H) (hB163 : ∀ n G a H, B 163 n G a H ↔ jAr (dC, dI) (ca 1) (fun j z => 0 ≤ z.toInt ∧ z.toInt ≤ 1599) n a H) (hB165 : ∀ n G a H, B 165 n G a H ↔ jAr (dC, dI) (ca 1) (fun j z => 0 ≤ z.toInt ∧ z.toInt ≤ 3) n a H) (hB166 : ∀ n G a H, B 166 n G a H ↔ jAr (dC, dI) (ca 1) (fun j z => True) n a H) (hB167 : ∀ n G a H, B 167 n G a H ↔ jAr (dC, dI) (ca 1) (fun j z => True) n a H) (hB168 : ∀ n G a H, B 168 n G a H ↔ jAr (dC, dI) (ca 1) (fun j z => 0 ≤ z.toInt ∧ z.toInt ≤ 119999) n a H) (hB169 : ∀ n G a H, B 169 n G a H ↔ jAr (dC, dI) (ca 1) (fun j z => True) n a H) (hB194 : ∀ n G a H, B 194 n G a H ↔ jAr (dC, dI) (ca 1) (fun j z => True) n a H) (G0 : jT) (H0 : Heap) (r0 : Nat) (r1 : Nat) (a2 : Int32) (a3 : Int32) (a4 : Int32) (n1 : Nat) (pn : Int32) (py : Int32) (pf : Int32) (pg : Int32) (pp : Int32) (pl : Int32) (pc : Int32) (ps : Int32) (zf : Nat) (zg : Nat) (zh : Nat) (zp : Nat) (zs : Nat) (zn : Nat) (za : Nat) (zb : Nat) (zc : Nat) (zy : Nat) (ff : Nat → Int32) (fg : Nat → Int32) (fh : Nat → Int32) (fp : Nat → Int32) (C : jK) : Met l yX13_sentence (jw yX13_sentence cX13_sentence 6 (some .int)) ({ frames := 1703, cells := 0, slots := 0, locals := 71883 }) (va_Pc [.ref r0, .ref r1, .int a2, .int a3, .int a4] (fun U => U.heap = H0 ∧ jX B base G0 [] H0 ∧ jG dC dI ca base U ∧ G0 r1 = some (194, n1) ∧ G0 r0 = some (15, 0) ∧ G0 zf = some (160, 16) ∧ G0 zg = some (161, 46) ∧ G0 zh = some (159, 46) ∧ G0 zp = some (162, 368) ∧ G0 zs = some (150, 120000) ∧ G0 zn = some (151, 120000) ∧ G0 za = some (152, 120000) ∧ G0 zb = some (153, 120000) ∧ G0 zc = some (154, 120000) ∧ G0 zy = some (165, 16) ∧ jP (dC, dI) G0 H0 [(r0, 15, 5, .int pn), (r0, 15, 11, .int py), (r0, 15, 15, .int pf), (r0, 15, 21, .int pg), (r0, 15, 18, .int pp), (r0, 15, 20, .int pl), (r0, 15, 10, .int pc), (r0, 15, 7, .int ps), (r0, 15, 17, .ref zf), (r0, 15, 22, .ref zg), (r0, 15, 25, .ref zh), (r0, 15, 27, .ref zp), (r0, 15, 0, .ref zs), (r0, 15, 1, .ref zn), (r0, 15, 2, .ref za), (r0, 15, 3, .ref zb), (r0, 15, 4, .ref zc), (r0, 15, 14, .ref zy)] ∧ jMc (dC, dI) G0 H0 [(zf, 160, 16, ca 1, ff), (zg, 161, 46, ca 1, fg), (zh, 159, 46, ca 1, fh), (zp, 162, 368, ca 1, fp), (zs, 150, 120000, ca 1, C.s), (zn, 151, 120000, ca 1, C.n), (za, 152, 120000, ca 1, C.a), (zb, 153, 120000, ca 1, C.b), (zc, 154, 120000, ca 1, C.c), (zy, 165, 16, ca 1, C.y)] ∧ jKi C pn.toInt py.toInt pf.toInt pg.toInt pp.toInt pl.toInt ff fg fh fp ∧ 0 ≤ a2.toInt ∧ a2.toInt ≤ a3.toInt ∧ a3.toInt ≤ n1 ∧ n1 ≤ 1500 ∧ 0 ≤ pc.toInt ∧ pc.toInt + (a3.toInt - a2.toInt) ≤ 1599 ∧ 0 ≤ ps.toInt ∧ ps.toInt + (a3.toInt - a2.toInt) ≤ 11990 ∧ pn.toInt + 8 * (a3.toInt - a2.toInt) + 500 ≤ 118000)) (va_Qi (S := Int32 × Int32 × Int32 × Int32 × Int32 × Int32 × Int32 × Int32 × (Nat → Int32) × (Nat → Int32) × (Nat → Int32) × (Nat → Int32) × jK) (fun r u => (pn.toInt ≤ u.1.toInt ∧ u.1.toInt ≤ pn.toInt + 8 * (a3.toInt - a2.toInt) + 500 ∧ pc.toInt ≤ u.2.2.2.2.2.2.1.toInt ∧ u.2.2.2.2.2.2.1.toInt ≤ pc.toInt + (a3.toInt - a2.toInt) ∧ ps.toInt ≤ u.2.2.2.2.2.2.2.1.toInt ∧ u.2.2.2.2.2.2.2.1.toInt ≤ ps.toInt + (a3.toInt - a2.toInt) ∧ jKi u.2.2.2.2.2.2.2.2.2.2.2.2 u.1.toInt u.2.1.toInt u.2.2.1.toInt u.2.2.2.1.toInt u.2.2.2.2.1.toInt u.2.2.2.2.2.1.toInt u.2.2.2.2.2.2.2.2.1 u.2.2.2.2.2.2.2.2.2.1 u.2.2.2.2.2.2.2.2.2.2.1 u.2.2.2.2.2.2.2.2.2.2.2.1)) (fun u t => jRt (dC, dI) B base G0 EX13_sentencev9 H0 [(r0, 15, 5, .int u.1), (r0, 15, 11, .int u.2.1), (r0, 15, 15, .int u.2.2.1), (r0, 15, 21, .int u.2.2.2.1), (r0, 15, 18, .int u.2.2.2.2.1), (r0, 15, 20, .int u.2.2.2.2.2.1), (r0, 15, 10, .int u.2.2.2.2.2.2.1), (r0, 15, 7, .int u.2.2.2.2.2.2.2.1)] t.heap ∧ jMc (dC, dI) G0 t.heap [(zf, 160, 16, ca 1, u.2.2.2.2.2.2.2.2.1), (zg, 161, 46, ca 1, u.2.2.2.2.2.2.2.2.2.1), (zh, 159, 46, ca 1, u.2.2.2.2.2.2.2.2.2.2.1), (zp, 162, 368, ca 1, u.2.2.2.2.2.2.2.2.2.2.2.1), (zs, 150, 120000, ca 1, u.2.2.2.2.2.2.2.2.2.2.2.2.s), (zn, 151, 120000, ca 1, u.2.2.2.2.2.2.2.2.2.2.2.2.n), (za, 152, 120000, ca 1, u.2.2.2.2.2.2.2.2.2.2.2.2.a), (zb, 153, 120000, ca 1, u.2.2.2.2.2.2.2.2.2.2.2.2.b), (zc, 154, 120000, ca 1, u.2.2.2.2.2.2.2.2.2.2.2.2.c), (zy, 165, 16, ca 1, u.2.2.2.2.2.2.2.2.2.2.2.2.y)]) (jA base)) 0 0 (jA base) := by
  refine Met.ofW (cc := cX13_sentence) (maxL := 6) (ret := (some .int)) (by decide) rfl ?_
  intro p e s m args below meth c s₁ Bd hml hv
  obtain ⟨rfl, hH0, hX, hG, hg_r1, hg_r0, hg_zf, hg_zg, hg_zh, hg_zp, hg_zs, hg_zn, hg_za, hg_zb, hg_zc, hg_zy, hP0, hM0, hp0, hp1, hp2, hp3, hp4, hp5, hp6, hp7, hp8, hp9⟩ := hv
  have hK := hG.1
  have hx := Bd.exec
  have hb := Bd.bytes
  have hr := Bd.returns
  have hts := atoms_spec (ws := (jw yX13_sentence cX13_sentence 6 (some .int))) Bd.pre
  have htw : ∀ w ∈ jWl, w.before _ s = true := fun w h => hts w (List.mem_cons_of_mem _ h)
  have hown : s.vm.findClass RX13 = some m.cls := findClass_of_methodNamed Bd.named
  have hlocks := Bd.notSynchronized
  obtain ⟨Q, hQ⟩ : ∃ Q, Q = MQ below (va_Qi (S := Int32 × Int32 × Int32 × Int32 × Int32 × Int32 × Int32 × Int32 × (Nat → Int32) × (Nat → Int32) × (Nat → Int32) × (Nat → Int32) × jK) (fun r u => (pn.toInt ≤ u.1.toInt ∧ u.1.toInt ≤ pn.toInt + 8 * (a3.toInt - a2.toInt) + 500 ∧ pc.toInt ≤ u.2.2.2.2.2.2.1.toInt ∧ u.2.2.2.2.2.2.1.toInt ≤ pc.toInt + (a3.toInt - a2.toInt) ∧ ps.toInt ≤ u.2.2.2.2.2.2.2.1.toInt ∧ u.2.2.2.2.2.2.2.1.toInt ≤ ps.toInt + (a3.toInt - a2.toInt) ∧ jKi u.2.2.2.2.2.2.2.2.2.2.2.2 u.1.toInt u.2.1.toInt u.2.2.1.toInt u.2.2.2.1.toInt u.2.2.2.2.1.toInt u.2.2.2.2.2.1.toInt u.2.2.2.2.2.2.2.2.1 u.2.2.2.2.2.2.2.2.2.1 u.2.2.2.2.2.2.2.2.2.2.1 u.2.2.2.2.2.2.2.2.2.2.2.1)) (fun u t => jRt (dC, dI) B base G0 EX13_sentencev9 H0 [(r0, 15, 5, .int u.1), (r0, 15, 11, .int u.2.1), (r0, 15, 15, .int u.2.2.1), (r0, 15, 21, .int u.2.2.2.1), (r0, 15, 18, .int u.2.2.2.2.1), (r0, 15, 20, .int u.2.2.2.2.2.1), (r0, 15, 10, .int u.2.2.2.2.2.2.1), (r0, 15, 7, .int u.2.2.2.2.2.2.2.1)] t.heap ∧ jMc (dC, dI) G0 t.heap [(zf, 160, 16, ca 1, u.2.2.2.2.2.2.2.2.1), (zg, 161, 46, ca 1, u.2.2.2.2.2.2.2.2.2.1), (zh, 159, 46, ca 1, u.2.2.2.2.2.2.2.2.2.2.1), (zp, 162, 368, ca 1, u.2.2.2.2.2.2.2.2.2.2.2.1), (zs, 150, 120000, ca 1, u.2.2.2.2.2.2.2.2.2.2.2.2.s), (zn, 151, 120000, ca 1, u.2.2.2.2.2.2.2.2.2.2.2.2.n), (za, 152, 120000, ca 1, u.2.2.2.2.2.2.2.2.2.2.2.2.a), (zb, 153, 120000, ca 1, u.2.2.2.2.2.2.2.2.2.2.2.2.b), (zc, 154, 120000, ca 1, u.2.2.2.2.2.2.2.2.2.2.2.2.c), (zy, 165, 16, ca 1, u.2.2.2.2.2.2.2.2.2.2.2.2.y)]) (jA base)) ([.ref r0, .ref r1, .int a2, .int a3, .int a4] : List Value).toArray s 0 0 (jA base) := ⟨_, rfl⟩
  rw [← hQ]
  have hl := lv_entry ([.ref r0, .ref r1, .int a2, .int a3, .int a4]) (n := 6) (Nat.le_of_ble_eq_true rfl)
  rw [lg_entry_eq]
  generalize (lg_sl ([.ref r0, .ref r1, .int a2, .int a3, .int a4]) ++ List.replicate (6 - (lg_sl ([.ref r0, .ref r1, .int a2, .int a3, .int a4])).length) Slot.unset).toArray = ls at hl ⊢
  have hl : lv_has ls 6 [(0, .ref r0), (1, .ref r1), (2, .int a2), (3, .int a3), (4, .int a4)] := hl
  generalize hR : (headSpec (jw yX13_sentence cX13_sentence 6 (some .int)) ({ frames := 1703, cells := 0, slots := 0, locals := 71883 })).room = R
  subst hH0
  have hh : jSt (dC, dI) B base G0 G0 EX13_sentencev9 s.heap 0 0 [(r0, 15, 5, .int pn), (r0, 15, 11, .int py), (r0, 15, 15, .int pf), (r0, 15, 21, .int pg), (r0, 15, 18, .int pp), (r0, 15, 20, .int pl), (r0, 15, 10, .int pc), (r0, 15, 7, .int ps), (r0, 15, 17, .ref zf), (r0, 15, 22, .ref zg), (r0, 15, 25, .ref zh), (r0, 15, 27, .ref zp), (r0, 15, 0, .ref zs), (r0, 15, 1, .ref zn), (r0, 15, 2, .ref za), (r0, 15, 3, .ref zb), (r0, 15, 4, .ref zc), (r0, 15, 14, .ref zy)] [(zf, 160, 16, ca 1, ff), (zg, 161, 46, ca 1, fg), (zh, 159, 46, ca 1, fh), (zp, 162, 368, ca 1, fp), (zs, 150, 120000, ca 1, C.s), (zn, 151, 120000, ca 1, C.n), (za, 152, 120000, ca 1, C.a), (zb, 153, 120000, ca 1, C.b), (zc, 154, 120000, ca 1, C.c), (zy, 165, 16, ca 1, C.y)] [] s.heap [] := jSt.start hX hP0 hM0 jIs.nil
  clear hX hP0
  have hk0 : (0 : Int32).toInt = 0 := by decide
  have hk1 : (1 : Int32).toInt = 1 := by decide
  have hk3 : (3 : Int32).toInt = 3 := by decide
  have hk4 : (4 : Int32).toInt = 4 := by decide
  have hk5 : (5 : Int32).toInt = 5 := by decide
  have hly_15_18 := htw (u_lay RX13 TX13 18) (jWc_wsX130 _ (u_in_lay (by decide)))
  have hly_15_31 := htw (u_lay RX13 TX13 31) (jWc_wsX130 _ (u_in_lay (by decide)))
  have hly_15_33 := htw (u_lay RX13 TX13 33) (jWc_wsX130 _ (u_in_lay (by decide)))
  have hly_15_34 := htw (u_lay RX13 TX13 34) (jWc_wsX130 _ (u_in_lay (by decide)))
  have hly_15_36 := htw (u_lay RX13 TX13 36) (jWc_wsX130 _ (u_in_lay (by decide)))
  have hlk_143 := (htw (.fieldLink RX13 143 "ProofServerModel$Kernel" "loose" "I") (jWr_60 _ (List.mem_of_getElem? (i := 1) rfl)))
  have hlk_181 := (htw (.fieldLink RX13 181 "ProofServerModel$Kernel" "wrong" "Z") (jWr_60 _ (List.mem_of_getElem? (i := 2) rfl)))
  have hlk_115 := (htw (.fieldLink RX13 115 "ProofServerModel$Kernel" "proof" "Z") (jWr_59 _ (List.mem_of_getElem? (i := 19) rfl)))
  have hlk_221 := (htw (.fieldLink RX13 221 "ProofServerModel$Kernel" "fault" "I") (jWr_60 _ (List.mem_of_getElem? (i := 3) rfl)))
  have hlk_242 := (htw (.fieldLink RX13 242 "ProofServerModel$Kernel" "binders" "I") (jWr_60 _ (List.mem_of_getElem? (i := 4) rfl)))
  have hrg_a2 := jb_rng a2
  have hrg_a3 := jb_rng a3
  have hrg_a4 := jb_rng a4
  have hw := hp0
  obtain ⟨w1, w2, w3, w4, w5, w6, w7, -, -, -⟩ := hw
  refine lv_iload hx hb dX13_sentence_0 (lv_at hl 4 rfl) ?_
  refine lv_if_le (tgt := 8) hx hb dX13_sentence_2 (by decide) (fun c_1 => ?_) (fun c_1 => ?_)
  · skip
    have c_1' : a4.toInt ≤ 0 := jb_le (rfl) ((by decide)) c_1
    refine lv_aload_n hx hb dX13_sentence_8 rfl (lv_at hl 0 rfl) ?_
    refine lv_aload_n hx hb dX13_sentence_9 rfl (lv_at hl 1 rfl) ?_
    refine lv_iload_n hx hb dX13_sentence_10 rfl (lv_at hl 2 rfl) ?_
    refine lv_iload_n hx hb dX13_sentence_11 rfl (lv_at hl 3 rfl) ?_
    obtain ⟨f_f1_4, hh_4⟩ := hh.cpin hB194 (by decide) (by decide) hg_r1
    clear hh
    refine va_callv (A0 := jA base) (H0 := s.heap) (va_runV (As := [.ref r1, .int a2, .int a3]) (rest := []) ⟨hx, hb, hml, hown, hts⟩ (uX13_scanv9 l dC dI ca base B hB hAp hB15 hB101 hB155 hB156 hB157 hB166 hB167 hB194 G0 s.heap r0 r1 a2 a3 n1 pc ps f_f1_4) (cwV 3 hts (jgV (jWr_60 _ (List.mem_of_getElem? (i := 5) rfl)) (jWr_60 _ (List.mem_of_getElem? (i := 6) rfl)) (jWr_60 _ (List.mem_of_getElem? (i := 7) rfl)) (jWr_12 _ (List.mem_of_getElem? (i := 12) rfl)) (jWr_60 _ (List.mem_of_getElem? (i := 8) rfl))) rfl rfl rfl (by decide +kernel) ⟨by rw [← hR]; exact Nat.le_of_ble_eq_true rfl, by rw [← hR]; exact Nat.le_of_ble_eq_true rfl⟩) ⟨fun a U g mk q => by obtain ⟨q0, q1, q2, qK, q10, q11, q12, q13, q14⟩ := q; exact ⟨q0, q1, q2, jG.calling g mk a qK, q10, q11, q12, q13, q14⟩, hh_4.recv (C := RX13) (T := TX13) (N := 50) hB15 rfl (by decide) hg_r0 hK, fun U hU hW => ⟨rfl, hU, hh_4.2.1, hG.step hW hU hh_4.1, hg_r1, hg_r0, (hh_4.2.2.1.sub (L1 := [(r0, 15, 10, .int pc), (r0, 15, 7, .int ps)]) [6, 7] rfl), (hh_4.2.2.2.2.2.2.2.1.sub (L1 := [(r1, 194, n1, ca 1, f_f1_4)]) [0] rfl), by first | omega | (refine ⟨?_, ?_, ?_, ?_, ?_, ?_, ?_, ?_⟩ <;> (first | omega | rfl | assumption | decide | exact Or.inl rfl | exact Or.inr rfl | (simp only; omega)))⟩⟩ rfl rfl hl.1 rfl (lv_room (Nat.le_of_ble_eq_true rfl)) dX13_sentence_12 ⟨Nat.zero_le _, Nat.zero_le _⟩) hh_4.1 (fun q _ h => h) (fun q h => h) (fun u_2 t_2 H_2 locs_2 ht_2 hvm_2 hr_3 hb_2 hz_2 hk_2 hS_2 => ?_)
    obtain ⟨qk_2, qc_2, qs_2⟩ := u_2
    rw [ht_2] at hb_2
    obtain ⟨hb_21, hb_22, hb_23, hb_24, hb_25⟩ := hb_2
    have hh_2 : jSt (dC, dI) B base G0 G0 EX13_sentencev9 s.heap 0 0 [(r0, 15, 30, .int qk_2), (r0, 15, 10, .int qc_2), (r0, 15, 7, .int qs_2), (r0, 15, 5, .int pn), (r0, 15, 11, .int py), (r0, 15, 15, .int pf), (r0, 15, 21, .int pg), (r0, 15, 18, .int pp), (r0, 15, 20, .int pl), (r0, 15, 17, .ref zf), (r0, 15, 22, .ref zg), (r0, 15, 25, .ref zh), (r0, 15, 27, .ref zp), (r0, 15, 0, .ref zs), (r0, 15, 1, .ref zn), (r0, 15, 2, .ref za), (r0, 15, 3, .ref zb), (r0, 15, 4, .ref zc), (r0, 15, 14, .ref zy)] [(r1, 194, n1, ca 1, f_f1_4), (zf, 160, 16, ca 1, ff), (zg, 161, 46, ca 1, fg), (zh, 159, 46, ca 1, fh), (zp, 162, 368, ca 1, fp), (zs, 150, 120000, ca 1, C.s), (zn, 151, 120000, ca 1, C.n), (za, 152, 120000, ca 1, C.a), (zb, 153, 120000, ca 1, C.b), (zc, 154, 120000, ca 1, C.c), (zy, 165, 16, ca 1, C.y)] [] H_2 locs_2 := ((hh_4.call hb_21 hb_22 hb_23 hb_24 hS_2 rfl (L1 := [(r0, 15, 5, .int pn), (r0, 15, 11, .int py), (r0, 15, 15, .int pf), (r0, 15, 21, .int pg), (r0, 15, 18, .int pp), (r0, 15, 20, .int pl), (r0, 15, 17, .ref zf), (r0, 15, 22, .ref zg), (r0, 15, 25, .ref zh), (r0, 15, 27, .ref zp), (r0, 15, 0, .ref zs), (r0, 15, 1, .ref zn), (r0, 15, 2, .ref za), (r0, 15, 3, .ref zb), (r0, 15, 4, .ref zc), (r0, 15, 14, .ref zy)]) [0, 1, 2, 3, 4, 5, 8, 9, 10, 11, 12, 13, 14, 15, 16, 17] rfl rfl (M1 := [(r1, 194, n1, ca 1, f_f1_4), (zf, 160, 16, ca 1, ff), (zg, 161, 46, ca 1, fg), (zh, 159, 46, ca 1, fh), (zp, 162, 368, ca 1, fp), (zs, 150, 120000, ca 1, C.s), (zn, 151, 120000, ca 1, C.n), (za, 152, 120000, ca 1, C.a), (zb, 153, 120000, ca 1, C.b), (zc, 154, 120000, ca 1, C.c), (zy, 165, 16, ca 1, C.y)]) [0, 1, 2, 3, 4, 5, 6, 7, 8, 9, 10] rfl rfl (I1 := []) [] rfl rfl).more hb_25)
    clear hh_4 ht_2 hvm_2 hz_2 hk_2 hS_2 hb_21 hb_22 hb_23 hb_24 hb_25
    try simp only at hr_3
    obtain ⟨hr_3_0, hr_3_1, hr_3_2, hr_3_3, hr_3_4, hr_3_5⟩ := hr_3
    refine lv_aload_n hx hb dX13_sentence_15 rfl (lv_at hl 0 rfl) ?_
    refine va_calli (A0 := jA base) (H0 := s.heap) (va_runV (As := []) (rest := []) ⟨hx, hb, hml, hown, hts⟩ (uX13_command l dC dI ca base B hB hAp hB15 hB155 hB156 hB157 hB166 hB167 G0 H_2 r0 qk_2) (cwV 0 hts (jgV (jWr_61 _ (List.mem_of_getElem? (i := 0) rfl)) (jWr_61 _ (List.mem_of_getElem? (i := 1) rfl)) (jWr_61 _ (List.mem_of_getElem? (i := 2) rfl)) (jWr_12 _ (List.mem_of_getElem? (i := 12) rfl)) (jWr_61 _ (List.mem_of_getElem? (i := 3) rfl))) rfl rfl rfl (by decide +kernel) ⟨by rw [← hR]; exact Nat.le_of_ble_eq_true rfl, by rw [← hR]; exact Nat.le_of_ble_eq_true rfl⟩) ⟨fun a U g mk q => by obtain ⟨q0, q1, q2, qK, q10, q11, q12⟩ := q; exact ⟨q0, q1, q2, jG.calling g mk a qK, q10, q11, q12⟩, hh_2.recv (C := RX13) (T := TX13) (N := 50) hB15 rfl (by decide) hg_r0 hK, fun U hU hW => ⟨rfl, hU, hh_2.2.1, hG.step hW hU hh_2.1, hg_r0, (hh_2.2.2.1.sub (L1 := [(r0, 15, 30, .int qk_2)]) [0] rfl), by first | omega | (refine ⟨?_, ?_⟩ <;> (first | omega | rfl | assumption | decide | exact Or.inl rfl | exact Or.inr rfl | (simp only; omega)))⟩⟩ rfl rfl hl.1 rfl (lv_room (Nat.le_of_ble_eq_true rfl)) dX13_sentence_16 ⟨Nat.zero_le _, Nat.zero_le _⟩) hh_2.1 (fun q _ h => h) (fun q h => h) (fun r_6 u_5 t_5 H_5 locs_5 ht_5 hvm_5 hr_6 hb_5 hz_5 hk_5 hS_5 => ?_)
    rw [ht_5] at hb_5
    obtain ⟨hb_51, hb_52, hb_53, hb_54, hb_55⟩ := hb_5
    have hh_5 : jSt (dC, dI) B base G0 G0 EX13_sentencev9 s.heap 0 0 [(r0, 15, 30, .int qk_2), (r0, 15, 10, .int qc_2), (r0, 15, 7, .int qs_2), (r0, 15, 5, .int pn), (r0, 15, 11, .int py), (r0, 15, 15, .int pf), (r0, 15, 21, .int pg), (r0, 15, 18, .int pp), (r0, 15, 20, .int pl), (r0, 15, 17, .ref zf), (r0, 15, 22, .ref zg), (r0, 15, 25, .ref zh), (r0, 15, 27, .ref zp), (r0, 15, 0, .ref zs), (r0, 15, 1, .ref zn), (r0, 15, 2, .ref za), (r0, 15, 3, .ref zb), (r0, 15, 4, .ref zc), (r0, 15, 14, .ref zy)] [(r1, 194, n1, ca 1, f_f1_4), (zf, 160, 16, ca 1, ff), (zg, 161, 46, ca 1, fg), (zh, 159, 46, ca 1, fh), (zp, 162, 368, ca 1, fp), (zs, 150, 120000, ca 1, C.s), (zn, 151, 120000, ca 1, C.n), (za, 152, 120000, ca 1, C.a), (zb, 153, 120000, ca 1, C.b), (zc, 154, 120000, ca 1, C.c), (zy, 165, 16, ca 1, C.y)] [] H_5 locs_5 := ((hh_2.call hb_51 hb_52 hb_53 hb_54 hS_5 rfl (L1 := [(r0, 15, 30, .int qk_2), (r0, 15, 10, .int qc_2), (r0, 15, 7, .int qs_2), (r0, 15, 5, .int pn), (r0, 15, 11, .int py), (r0, 15, 15, .int pf), (r0, 15, 21, .int pg), (r0, 15, 18, .int pp), (r0, 15, 20, .int pl), (r0, 15, 17, .ref zf), (r0, 15, 22, .ref zg), (r0, 15, 25, .ref zh), (r0, 15, 27, .ref zp), (r0, 15, 0, .ref zs), (r0, 15, 1, .ref zn), (r0, 15, 2, .ref za), (r0, 15, 3, .ref zb), (r0, 15, 4, .ref zc), (r0, 15, 14, .ref zy)]) [0, 1, 2, 3, 4, 5, 6, 7, 8, 9, 10, 11, 12, 13, 14, 15, 16, 17, 18] rfl rfl (M1 := [(r1, 194, n1, ca 1, f_f1_4), (zf, 160, 16, ca 1, ff), (zg, 161, 46, ca 1, fg), (zh, 159, 46, ca 1, fh), (zp, 162, 368, ca 1, fp), (zs, 150, 120000, ca 1, C.s), (zn, 151, 120000, ca 1, C.n), (za, 152, 120000, ca 1, C.a), (zb, 153, 120000, ca 1, C.b), (zc, 154, 120000, ca 1, C.c), (zy, 165, 16, ca 1, C.y)]) [0, 1, 2, 3, 4, 5, 6, 7, 8, 9, 10] rfl rfl (I1 := []) [] rfl rfl).more hb_55)
    clear hh_2 ht_5 hvm_5 hz_5 hk_5 hS_5 hb_51 hb_52 hb_53 hb_54 hb_55
    obtain ⟨hr_6_0, hr_6_1, hr_6_2⟩ := hr_6
    refine lv_istore (lv' := [(5, .int r_6), (0, .ref r0), (1, .ref r1), (2, .int a2), (3, .int a3), (4, .int a4)]) hx hb dX13_sentence_19 hl (by decide) rfl (fun ls hl => ?_)
    refine lv_iload hx hb dX13_sentence_21 (lv_at hl 0 rfl) ?_
    refine lv_if_lt (tgt := 33) hx hb dX13_sentence_23 (by decide) (fun c_7 => ?_) (fun c_7 => ?_)
    · skip
      have c_7' : r_6.toInt < 0 := jb_lt (rfl) ((by decide)) c_7
      first | (have hr_6_2q := hr_6_2.resolve_left (by omega); clear hr_6_2) | (have hr_6_2q := hr_6_2.resolve_right (by omega); clear hr_6_2) | skip
      refine lv_iconst (v := 3) hx hb dX13_sentence_33 (by decide) ?_
      rw [hQ]
      exact W.iret (v := 3) hx hb hr (fun t ht hW => ⟨⟨3, (pn, py, pf, pg, pp, pl, qc_2, qs_2, ff, fg, fh, fp, C), rfl, by (try dsimp only); exact ⟨by omega, by omega, by omega, by omega, by omega, by omega, hp0⟩, ⟨hh_5.rt (M1 := [(r0, 15, 5, .int pn), (r0, 15, 11, .int py), (r0, 15, 15, .int pf), (r0, 15, 21, .int pg), (r0, 15, 18, .int pp), (r0, 15, 20, .int pl), (r0, 15, 10, .int qc_2), (r0, 15, 7, .int qs_2)]) [3, 4, 5, 6, 7, 8, 1, 2] rfl ht, by rw [ht]; exact hh_5.2.2.2.2.2.2.2.1.sub [1, 2, 3, 4, 5, 6, 7, 8, 9, 10] rfl⟩⟩, by rw [ht]; try exact hh_5.1.1, fun q h9 hq => by rw [ht]; try exact hh_5.1.2.1 q h9 hq⟩) hh_5.1.2.2 dX13_sentence_34
    · skip
      have c_7' : r_6.toInt ≥ 0 := jb_lt_n (rfl) ((by decide)) c_7
      first | (have hr_6_2q := hr_6_2.resolve_left (by omega); clear hr_6_2) | (have hr_6_2q := hr_6_2.resolve_right (by omega); clear hr_6_2) | skip
      refine lv_aload_n hx hb dX13_sentence_26 rfl (lv_at hl 1 rfl) ?_
      obtain ⟨v_8, hv_8, hh_9⟩ := hh_5.pin (C := RX13) (T := TX13) (N := 50) hB15 rfl (by decide) hg_r0 (i := 31) (by decide) rfl
      clear hh_5
      obtain ⟨loose_10, rfl⟩ := hv_8
      refine j7_read hx hb hown hK (C := RX13) (T := TX13) (N := 50) rfl hly_15_31 hlk_143 (hh_9.at 0 rfl) dX13_sentence_27 ?_
      refine lv_if_le (tgt := 35) hx hb dX13_sentence_30 (by decide) (fun c_11 => ?_) (fun c_11 => ?_)
      · skip
        have c_11' : loose_10.toInt ≤ 0 := jb_le (rfl) ((by decide)) c_11
        refine lv_aload_n hx hb dX13_sentence_35 rfl (lv_at hl 1 rfl) ?_
        refine lv_iconst (v := 0) hx hb dX13_sentence_36 (by decide) ?_
        refine j7_put hx hb hown hK hh_9 hB hAp hB15 (C := RX13) (T := TX13) (N := 50) rfl (by decide) hg_r0 (i := 33) (by decide) hly_15_33 rfl hlk_181 rfl (ty := .boolean) (v := .int 0) (by decide +kernel) (jb_nz (Or.inl rfl)) (jb_fz (Or.inl rfl)) (⟨_, rfl, (Or.inl rfl)⟩) rfl (L1 := [(r0, 15, 31, .int loose_10), (r0, 15, 30, .int qk_2), (r0, 15, 10, .int qc_2), (r0, 15, 7, .int qs_2), (r0, 15, 5, .int pn), (r0, 15, 11, .int py), (r0, 15, 15, .int pf), (r0, 15, 21, .int pg), (r0, 15, 18, .int pp), (r0, 15, 20, .int pl), (r0, 15, 17, .ref zf), (r0, 15, 22, .ref zg), (r0, 15, 25, .ref zh), (r0, 15, 27, .ref zp), (r0, 15, 0, .ref zs), (r0, 15, 1, .ref zn), (r0, 15, 2, .ref za), (r0, 15, 3, .ref zb), (r0, 15, 4, .ref zc), (r0, 15, 14, .ref zy)]) [0, 1, 2, 3, 4, 5, 6, 7, 8, 9, 10, 11, 12, 13, 14, 15, 16, 17, 18, 19] rfl rfl rfl dX13_sentence_37 (fun H_12 locs_12 hh_12 => ?_)
        clear hh_9
        refine lv_aload_n hx hb dX13_sentence_40 rfl (lv_at hl 1 rfl) ?_
        refine lv_iload hx hb dX13_sentence_41 (lv_at hl 0 rfl) ?_
        refine va_callv (A0 := jA base) (H0 := s.heap) (va_runV (As := [.int r_6]) (rest := []) ⟨hx, hb, hml, hown, hts⟩ (uX13_readK l dC dI ca base B hB hAp hB15 hB150 hB151 hB152 hB153 hB154 hB155 hB156 hB157 hB165 hB166 hB167 G0 H_12 r0 r_6 qk_2 pn 0 zs zn za zb zc zy C) (cwV 1 hts (jgV (jWr_61 _ (List.mem_of_getElem? (i := 7) rfl)) (jWr_61 _ (List.mem_of_getElem? (i := 8) rfl)) (jWr_61 _ (List.mem_of_getElem? (i := 9) rfl)) (jWr_12 _ (List.mem_of_getElem? (i := 12) rfl)) (jWr_61 _ (List.mem_of_getElem? (i := 10) rfl))) rfl rfl rfl (by decide +kernel) ⟨by rw [← hR]; exact Nat.le_of_ble_eq_true rfl, by rw [← hR]; exact Nat.le_of_ble_eq_true rfl⟩) ⟨fun a U g mk q => by obtain ⟨q0, q1, q2, qK, q10, q11, q12, q13, q14, q15, q16, q17, q18, q19⟩ := q; exact ⟨q0, q1, q2, jG.calling g mk a qK, q10, q11, q12, q13, q14, q15, q16, q17, q18, q19⟩, hh_12.recv (C := RX13) (T := TX13) (N := 50) hB15 rfl (by decide) hg_r0 hK, fun U hU hW => ⟨rfl, hU, hh_12.2.1, hG.step hW hU hh_12.1, hg_r0, hg_zs, hg_zn, hg_za, hg_zb, hg_zc, hg_zy, (hh_12.2.2.1.sub (L1 := [(r0, 15, 30, .int qk_2), (r0, 15, 5, .int pn), (r0, 15, 33, .int 0), (r0, 15, 0, .ref zs), (r0, 15, 1, .ref zn), (r0, 15, 2, .ref za), (r0, 15, 3, .ref zb), (r0, 15, 4, .ref zc), (r0, 15, 14, .ref zy)]) [2, 5, 0, 15, 16, 17, 18, 19, 20] rfl), (hh_12.2.2.2.2.2.2.2.1.sub (L1 := [(zs, 150, 120000, ca 1, C.s), (zn, 151, 120000, ca 1, C.n), (za, 152, 120000, ca 1, C.a), (zb, 153, 120000, ca 1, C.b), (zc, 154, 120000, ca 1, C.c), (zy, 165, 16, ca 1, C.y)]) [5, 6, 7, 8, 9, 10] rfl), by first | omega | (refine ⟨?_, ?_, ?_, ?_, ?_⟩ <;> (first | omega | rfl | assumption | decide | exact Or.inl rfl | exact Or.inr rfl | (simp only; omega)))⟩⟩ rfl rfl hl.1 rfl (lv_room (Nat.le_of_ble_eq_true rfl)) dX13_sentence_43 ⟨Nat.zero_le _, Nat.zero_le _⟩) hh_12.1 (fun q _ h => h) (fun q h => h) (fun u_13 t_13 H_13 locs_13 ht_13 hvm_13 hr_14 hb_13 hz_13 hk_13 hS_13 => ?_)
        obtain ⟨qn_13, qx_13, qr_13, D_13⟩ := u_13
        rw [ht_13] at hb_13
        obtain ⟨⟨hb_131, hb_132, hb_133, hb_134, hb_135⟩, hb_136⟩ := hb_13
        have hh_13 : jSt (dC, dI) B base G0 G0 EX13_sentencev9 s.heap 0 0 [(r0, 15, 5, .int qn_13), (r0, 15, 33, .int qx_13), (r0, 15, 42, .int qr_13), (r0, 15, 31, .int loose_10), (r0, 15, 30, .int qk_2), (r0, 15, 10, .int qc_2), (r0, 15, 7, .int qs_2), (r0, 15, 11, .int py), (r0, 15, 15, .int pf), (r0, 15, 21, .int pg), (r0, 15, 18, .int pp), (r0, 15, 20, .int pl), (r0, 15, 17, .ref zf), (r0, 15, 22, .ref zg), (r0, 15, 25, .ref zh), (r0, 15, 27, .ref zp), (r0, 15, 0, .ref zs), (r0, 15, 1, .ref zn), (r0, 15, 2, .ref za), (r0, 15, 3, .ref zb), (r0, 15, 4, .ref zc), (r0, 15, 14, .ref zy)] [(zs, 150, 120000, ca 1, D_13.s), (zn, 151, 120000, ca 1, D_13.n), (za, 152, 120000, ca 1, D_13.a), (zb, 153, 120000, ca 1, D_13.b), (zc, 154, 120000, ca 1, D_13.c), (zy, 165, 16, ca 1, D_13.y), (r1, 194, n1, ca 1, f_f1_4), (zf, 160, 16, ca 1, ff), (zg, 161, 46, ca 1, fg), (zh, 159, 46, ca 1, fh), (zp, 162, 368, ca 1, fp), (zy, 165, 16, ca 1, C.y)] [] H_13 locs_13 := ((hh_12.call hb_131 hb_132 hb_133 hb_134 hS_13 rfl (L1 := [(r0, 15, 31, .int loose_10), (r0, 15, 30, .int qk_2), (r0, 15, 10, .int qc_2), (r0, 15, 7, .int qs_2), (r0, 15, 11, .int py), (r0, 15, 15, .int pf), (r0, 15, 21, .int pg), (r0, 15, 18, .int pp), (r0, 15, 20, .int pl), (r0, 15, 17, .ref zf), (r0, 15, 22, .ref zg), (r0, 15, 25, .ref zh), (r0, 15, 27, .ref zp), (r0, 15, 0, .ref zs), (r0, 15, 1, .ref zn), (r0, 15, 2, .ref za), (r0, 15, 3, .ref zb), (r0, 15, 4, .ref zc), (r0, 15, 14, .ref zy)]) [1, 2, 3, 4, 6, 7, 8, 9, 10, 11, 12, 13, 14, 15, 16, 17, 18, 19, 20] rfl rfl (M1 := [(r1, 194, n1, ca 1, f_f1_4), (zf, 160, 16, ca 1, ff), (zg, 161, 46, ca 1, fg), (zh, 159, 46, ca 1, fh), (zp, 162, 368, ca 1, fp), (zy, 165, 16, ca 1, C.y)]) [0, 1, 2, 3, 4, 10] rfl rfl (I1 := []) [] rfl rfl).more hb_135).moreM hb_136
        clear hh_12 ht_13 hvm_13 hz_13 hk_13 hS_13 hb_131 hb_132 hb_133 hb_134 hb_135
        clear hb_136
        try simp only at hr_14
        obtain ⟨hr_14_0, hr_14_1, hr_14_2, hr_14_3, hr_14_4, hr_14_5⟩ := hr_14
        have hKr := hp0.ag hr_14_4 (by omega)
        refine lv_aload_n hx hb dX13_sentence_46 rfl (lv_at hl 1 rfl) ?_
        refine j7_read hx hb hown hK (C := RX13) (T := TX13) (N := 50) rfl hly_15_33 hlk_181 (hh_13.at 1 rfl) dX13_sentence_47 ?_
        refine lv_if_eq (tgt := 55) hx hb dX13_sentence_50 (by decide) (fun c_15 => ?_) (fun c_15 => ?_)
        · skip
          have c_15' : qx_13.toInt = 0 := jb_eq (rfl) ((by decide)) c_15
          refine lv_aload_n hx hb dX13_sentence_55 rfl (lv_at hl 1 rfl) ?_
          refine j7_read hx hb hown hK (C := RX13) (T := TX13) (N := 50) rfl hly_15_18 hlk_115 (hh_13.at 10 rfl) dX13_sentence_56 ?_
          refine lv_iload hx hb dX13_sentence_59 (lv_at hl 0 rfl) ?_
          refine lv_iconst (v := 3) hx hb dX13_sentence_61 (by decide) ?_
          have C70 : ∀ (w0_16 : Int32) (H_16 : Heap) (locs_16 : List Loc), jSt (dC, dI) B base G0 G0 EX13_sentencev9 s.heap 0 0 [(r0, 15, 5, .int qn_13), (r0, 15, 33, .int qx_13), (r0, 15, 42, .int qr_13), (r0, 15, 31, .int loose_10), (r0, 15, 30, .int qk_2), (r0, 15, 10, .int qc_2), (r0, 15, 7, .int qs_2), (r0, 15, 11, .int py), (r0, 15, 15, .int pf), (r0, 15, 21, .int pg), (r0, 15, 18, .int pp), (r0, 15, 20, .int pl), (r0, 15, 17, .ref zf), (r0, 15, 22, .ref zg), (r0, 15, 25, .ref zh), (r0, 15, 27, .ref zp), (r0, 15, 0, .ref zs), (r0, 15, 1, .ref zn), (r0, 15, 2, .ref za), (r0, 15, 3, .ref zb), (r0, 15, 4, .ref zc), (r0, 15, 14, .ref zy)] [(zs, 150, 120000, ca 1, D_13.s), (zn, 151, 120000, ca 1, D_13.n), (za, 152, 120000, ca 1, D_13.a), (zb, 153, 120000, ca 1, D_13.b), (zc, 154, 120000, ca 1, D_13.c), (zy, 165, 16, ca 1, D_13.y), (r1, 194, n1, ca 1, f_f1_4), (zf, 160, 16, ca 1, ff), (zg, 161, 46, ca 1, fg), (zh, 159, 46, ca 1, fh), (zp, 162, 368, ca 1, fp), (zy, 165, 16, ca 1, C.y)] [] H_16 locs_16 → (w0_16 = 0 ∨ w0_16 = 1) → (0 ≤ w0_16.toInt ∧ w0_16.toInt ≤ 1 ∧ r_6.toInt ≤ 3 + 100 * (1 - w0_16.toInt) ∧ 4 ≤ r_6.toInt + 100 * w0_16.toInt) → ∀ ls : Array Slot, lv_has ls 6 [(0, .ref r0), (1, .ref r1), (2, .int a2), (3, .int a3), (4, .int a4), (5, .int r_6)] → W p l e R s m ([.ref r0, .ref r1, .int a2, .int a3, .int a4] : List Value).toArray below meth c H_16 locs_16 0 0 Q (F0 m 70 ls [.int w0_16, .int pp]) := by
            intro w0_16 H_16 locs_16 hh_16 hb_w0_16 hi_16 ls hl
            obtain ⟨hi_16_0, hi_16_1, hi_16_2, hi_16_3⟩ := hi_16
            have hb_w0_16' := jb_01 hb_w0_16
            try clear hr_6_2
            refine lv_icmp_ne (tgt := 75) hx hb dX13_sentence_70 (by decide) (fun c_17 => ?_) (fun c_17 => ?_)
            · skip
              have c_17' : pp.toInt ≠ w0_16.toInt := jb_ne (rfl) (rfl) c_17
              refine lv_aload_n hx hb dX13_sentence_75 rfl (lv_at hl 0 rfl) ?_
              refine lv_iconst (v := 0) hx hb dX13_sentence_76 (by decide) ?_
              refine j7_put hx hb hown hK hh_16 hB hAp hB15 (C := RX13) (T := TX13) (N := 50) rfl (by decide) hg_r0 (i := 34) (by decide) hly_15_34 rfl hlk_221 rfl (ty := .int) (v := .int 0) (by decide +kernel) rfl rfl (⟨_, rfl, by omega, by omega⟩) rfl (L1 := [(r0, 15, 5, .int qn_13), (r0, 15, 33, .int qx_13), (r0, 15, 42, .int qr_13), (r0, 15, 31, .int loose_10), (r0, 15, 30, .int qk_2), (r0, 15, 10, .int qc_2), (r0, 15, 7, .int qs_2), (r0, 15, 11, .int py), (r0, 15, 15, .int pf), (r0, 15, 21, .int pg), (r0, 15, 18, .int pp), (r0, 15, 20, .int pl), (r0, 15, 17, .ref zf), (r0, 15, 22, .ref zg), (r0, 15, 25, .ref zh), (r0, 15, 27, .ref zp), (r0, 15, 0, .ref zs), (r0, 15, 1, .ref zn), (r0, 15, 2, .ref za), (r0, 15, 3, .ref zb), (r0, 15, 4, .ref zc), (r0, 15, 14, .ref zy)]) [0, 1, 2, 3, 4, 5, 6, 7, 8, 9, 10, 11, 12, 13, 14, 15, 16, 17, 18, 19, 20, 21] rfl rfl rfl dX13_sentence_77 (fun H_18 locs_18 hh_18 => ?_)
              clear hh_16
              refine lv_aload_n hx hb dX13_sentence_80 rfl (lv_at hl 0 rfl) ?_
              refine lv_iconst (v := 0) hx hb dX13_sentence_81 (by decide) ?_
              refine j7_put hx hb hown hK hh_18 hB hAp hB15 (C := RX13) (T := TX13) (N := 50) rfl (by decide) hg_r0 (i := 36) (by decide) hly_15_36 rfl hlk_242 rfl (ty := .int) (v := .int 0) (by decide +kernel) rfl rfl (⟨_, rfl, by omega, by omega⟩) rfl (L1 := [(r0, 15, 34, .int 0), (r0, 15, 5, .int qn_13), (r0, 15, 33, .int qx_13), (r0, 15, 42, .int qr_13), (r0, 15, 31, .int loose_10), (r0, 15, 30, .int qk_2), (r0, 15, 10, .int qc_2), (r0, 15, 7, .int qs_2), (r0, 15, 11, .int py), (r0, 15, 15, .int pf), (r0, 15, 21, .int pg), (r0, 15, 18, .int pp), (r0, 15, 20, .int pl), (r0, 15, 17, .ref zf), (r0, 15, 22, .ref zg), (r0, 15, 25, .ref zh), (r0, 15, 27, .ref zp), (r0, 15, 0, .ref zs), (r0, 15, 1, .ref zn), (r0, 15, 2, .ref za), (r0, 15, 3, .ref zb), (r0, 15, 4, .ref zc), (r0, 15, 14, .ref zy)]) [0, 1, 2, 3, 4, 5, 6, 7, 8, 9, 10, 11, 12, 13, 14, 15, 16, 17, 18, 19, 20, 21, 22] rfl rfl rfl dX13_sentence_82 (fun H_19 locs_19 hh_19 => ?_)
              clear hh_18
              refine lv_iload hx hb dX13_sentence_85 (lv_at hl 5 rfl) ?_
              refine lv_iconst (v := 3) hx hb dX13_sentence_87 (by decide) ?_
              refine lv_icmp_gt (tgt := 100) hx hb dX13_sentence_88 (by decide) (fun c_20 => ?_) (fun c_20 => ?_)
              · skip
                have c_20' : r_6.toInt > 3 := jb_gt (rfl) ((by decide)) c_20
                refine lv_iload hx hb dX13_sentence_100 (lv_at hl 5 rfl) ?_
                refine lv_iconst (v := 5) hx hb dX13_sentence_102 (by decide) ?_
                refine lv_icmp_gt (tgt := 115) hx hb dX13_sentence_103 (by decide) (fun c_21 => ?_) (fun c_21 => ?_)
                · skip
                  have c_21' : r_6.toInt > 5 := jb_gt (rfl) ((by decide)) c_21
                  have hrd := hr_14_5 (by omega)
                  refine lv_aload_n hx hb dX13_sentence_115 rfl (lv_at hl 0 rfl) ?_
                  refine lv_iload hx hb dX13_sentence_116 (lv_at hl 5 rfl) ?_
                  refine va_callv (A0 := jA base) (H0 := s.heap) (va_runV (As := [.int r_6]) (rest := []) ⟨hx, hb, hml, hown, hts⟩ (uX13_tactic l dC dI ca base B hB hAp hB15 hB103 hB150 hB151 hB152 hB153 hB154 hB158 hB159 hB160 hB161 hB162 hB163 hB165 hB168 hB169 G0 H_19 r0 r_6 qn_13 0 py 0 pf pg pp pl qr_13 zf zg zh zp zs zn za zb zc zy pn.toInt qn_13.toInt ff fg fh fp D_13) (cwV 1 hts (jgV (jWr_66 _ (List.mem_of_getElem? (i := 7) rfl)) (jWr_66 _ (List.mem_of_getElem? (i := 8) rfl)) (jWr_66 _ (List.mem_of_getElem? (i := 9) rfl)) (jWr_12 _ (List.mem_of_getElem? (i := 12) rfl)) (jWr_66 _ (List.mem_of_getElem? (i := 10) rfl))) rfl rfl rfl (by decide +kernel) ⟨by rw [← hR]; exact Nat.le_of_ble_eq_true rfl, by rw [← hR]; exact Nat.le_of_ble_eq_true rfl⟩) ⟨fun a U g mk q => by obtain ⟨q0, q1, q2, qK, q10, q11, q12, q13, q14, q15, q16, q17, q18, q19, q20, q21, q22, q23⟩ := q; exact ⟨q0, q1, q2, jG.calling g mk a qK, q10, q11, q12, q13, q14, q15, q16, q17, q18, q19, q20, q21, q22, q23⟩, hh_19.recv (C := RX13) (T := TX13) (N := 50) hB15 rfl (by decide) hg_r0 hK, fun U hU hW => ⟨rfl, hU, hh_19.2.1, hG.step hW hU hh_19.1, hg_r0, hg_zf, hg_zg, hg_zh, hg_zp, hg_zs, hg_zn, hg_za, hg_zb, hg_zc, hg_zy, (hh_19.2.2.1.sub (L1 := [(r0, 15, 5, .int qn_13), (r0, 15, 34, .int 0), (r0, 15, 11, .int py), (r0, 15, 36, .int 0), (r0, 15, 15, .int pf), (r0, 15, 21, .int pg), (r0, 15, 18, .int pp), (r0, 15, 20, .int pl), (r0, 15, 42, .int qr_13), (r0, 15, 17, .ref zf), (r0, 15, 22, .ref zg), (r0, 15, 25, .ref zh), (r0, 15, 27, .ref zp), (r0, 15, 0, .ref zs), (r0, 15, 1, .ref zn), (r0, 15, 2, .ref za), (r0, 15, 3, .ref zb), (r0, 15, 4, .ref zc), (r0, 15, 14, .ref zy)]) [2, 1, 9, 0, 10, 11, 12, 13, 4, 14, 15, 16, 17, 18, 19, 20, 21, 22, 23] rfl), (hh_19.2.2.2.2.2.2.2.1.sub (L1 := [(zf, 160, 16, ca 1, ff), (zg, 161, 46, ca 1, fg), (zh, 159, 46, ca 1, fh), (zp, 162, 368, ca 1, fp), (zs, 150, 120000, ca 1, D_13.s), (zn, 151, 120000, ca 1, D_13.n), (za, 152, 120000, ca 1, D_13.a), (zb, 153, 120000, ca 1, D_13.b), (zc, 154, 120000, ca 1, D_13.c), (zy, 165, 16, ca 1, D_13.y)]) [7, 8, 9, 10, 0, 1, 2, 3, 4, 5] rfl), ⟨(by first | assumption | exact hKr | exact hrd | omega), (by first | assumption | exact hKr | exact hrd | omega), (by first | omega | rfl | assumption | exact hKr | exact hrd), (by first | omega | rfl | assumption | exact hKr | exact hrd), (by first | omega | rfl | assumption | exact hKr | exact hrd), (by first | omega | rfl | assumption | exact hKr | exact hrd), (by first | omega | rfl | assumption | exact hKr | exact hrd), (by first | omega | rfl | assumption | exact hKr | exact hrd), (by first | omega | rfl | assumption | exact hKr | exact hrd), (by first | omega | rfl | assumption | exact hKr | exact hrd)⟩⟩⟩ rfl rfl hl.1 rfl (lv_room (Nat.le_of_ble_eq_true rfl)) dX13_sentence_118 ⟨Nat.zero_le _, Nat.zero_le _⟩) hh_19.1 (fun q _ h => h) (fun q h => h) (fun u_22 t_22 H_22 locs_22 ht_22 hvm_22 hr_23 hb_22 hz_22 hk_22 hS_22 => ?_)
                  obtain ⟨qn_22, qu_22, qg_22, gg_22, gh_22, gp_22, D_22⟩ := u_22
                  rw [ht_22] at hb_22
                  obtain ⟨⟨hb_221, hb_222, hb_223, hb_224, hb_225⟩, hb_226⟩ := hb_22
                  have hh_22 : jSt (dC, dI) B base G0 G0 EX13_sentencev9 s.heap 0 0 [(r0, 15, 5, .int qn_22), (r0, 15, 34, .int qu_22), (r0, 15, 21, .int qg_22), (r0, 15, 33, .int qx_13), (r0, 15, 42, .int qr_13), (r0, 15, 31, .int loose_10), (r0, 15, 30, .int qk_2), (r0, 15, 10, .int qc_2), (r0, 15, 7, .int qs_2), (r0, 15, 11, .int py), (r0, 15, 15, .int pf), (r0, 15, 18, .int pp), (r0, 15, 20, .int pl), (r0, 15, 17, .ref zf), (r0, 15, 22, .ref zg), (r0, 15, 25, .ref zh), (r0, 15, 27, .ref zp), (r0, 15, 0, .ref zs), (r0, 15, 1, .ref zn), (r0, 15, 2, .ref za), (r0, 15, 3, .ref zb), (r0, 15, 4, .ref zc), (r0, 15, 14, .ref zy)] [(zg, 161, 46, ca 1, gg_22), (zh, 159, 46, ca 1, gh_22), (zp, 162, 368, ca 1, gp_22), (zs, 150, 120000, ca 1, D_22.s), (zn, 151, 120000, ca 1, D_22.n), (za, 152, 120000, ca 1, D_22.a), (zb, 153, 120000, ca 1, D_22.b), (zc, 154, 120000, ca 1, D_22.c), (zy, 165, 16, ca 1, D_22.y), (zy, 165, 16, ca 1, D_13.y), (r1, 194, n1, ca 1, f_f1_4), (zf, 160, 16, ca 1, ff), (zy, 165, 16, ca 1, C.y)] [] H_22 locs_22 := ((hh_19.call hb_221 hb_222 hb_223 hb_224 hS_22 rfl (L1 := [(r0, 15, 33, .int qx_13), (r0, 15, 42, .int qr_13), (r0, 15, 31, .int loose_10), (r0, 15, 30, .int qk_2), (r0, 15, 10, .int qc_2), (r0, 15, 7, .int qs_2), (r0, 15, 11, .int py), (r0, 15, 15, .int pf), (r0, 15, 18, .int pp), (r0, 15, 20, .int pl), (r0, 15, 17, .ref zf), (r0, 15, 22, .ref zg), (r0, 15, 25, .ref zh), (r0, 15, 27, .ref zp), (r0, 15, 0, .ref zs), (r0, 15, 1, .ref zn), (r0, 15, 2, .ref za), (r0, 15, 3, .ref zb), (r0, 15, 4, .ref zc), (r0, 15, 14, .ref zy)]) [3, 4, 5, 6, 7, 8, 9, 10, 12, 13, 14, 15, 16, 17, 18, 19, 20, 21, 22, 23] rfl rfl (M1 := [(zy, 165, 16, ca 1, D_13.y), (r1, 194, n1, ca 1, f_f1_4), (zf, 160, 16, ca 1, ff), (zy, 165, 16, ca 1, C.y)]) [5, 6, 7, 11] rfl rfl (I1 := []) [] rfl rfl).more hb_225).moreM hb_226
                  clear hh_19 ht_22 hvm_22 hz_22 hk_22 hS_22 hb_221 hb_222 hb_223 hb_224 hb_225
                  clear hb_226
                  try simp only at hr_23
                  obtain ⟨hr_23_0, hr_23_1, hr_23_2, hr_23_3, hr_23_4⟩ := hr_23
                  refine lv_aload_n hx hb dX13_sentence_121 rfl (lv_at hl 0 rfl) ?_
                  refine j7_read hx hb hown hK (C := RX13) (T := TX13) (N := 50) rfl hly_15_34 hlk_221 (hh_22.at 1 rfl) dX13_sentence_122 ?_
                  rw [hQ]
                  exact W.iret (v := qu_22) hx hb hr (fun t ht hW => ⟨⟨qu_22, (qn_22, py, pf, qg_22, pp, pl, qc_2, qs_2, ff, gg_22, gh_22, gp_22, D_22), rfl, by (try dsimp only); exact ⟨by omega, by omega, by omega, by omega, by omega, by omega, hr_23_4⟩, ⟨hh_22.rt (M1 := [(r0, 15, 5, .int qn_22), (r0, 15, 11, .int py), (r0, 15, 15, .int pf), (r0, 15, 21, .int qg_22), (r0, 15, 18, .int pp), (r0, 15, 20, .int pl), (r0, 15, 10, .int qc_2), (r0, 15, 7, .int qs_2)]) [0, 9, 10, 2, 11, 12, 7, 8] rfl ht, by rw [ht]; exact hh_22.2.2.2.2.2.2.2.1.sub [11, 0, 1, 2, 3, 4, 5, 6, 7, 8] rfl⟩⟩, by rw [ht]; try exact hh_22.1.1, fun q h9 hq => by rw [ht]; try exact hh_22.1.2.1 q h9 hq⟩) hh_22.1.2.2 dX13_sentence_125
                · skip
                  have c_21' : r_6.toInt ≤ 5 := jb_gt_n (rfl) ((by decide)) c_21
                  obtain ⟨sx_24, esx_24, hsx_24⟩ := hh_19.sat (C := RX13) (T := TX13) (N := 50) hB15 rfl (by decide) hg_r0 (i := 18) (by decide) rfl 12 rfl
                  cases esx_24
                  have hsx_24' := jb_01 hsx_24
                  obtain ⟨sx_25, esx_25, hsx_25⟩ := hh_19.sat (C := RX13) (T := TX13) (N := 50) hB15 rfl (by decide) hg_r0 (i := 20) (by decide) rfl 13 rfl
                  cases esx_25
                  refine lv_aload_n hx hb dX13_sentence_106 rfl (lv_at hl 0 rfl) ?_
                  refine lv_iload hx hb dX13_sentence_107 (lv_at hl 5 rfl) ?_
                  refine va_callv (A0 := jA base) (H0 := s.heap) (va_runV (As := [.int r_6]) (rest := []) ⟨hx, hb, hml, hown, hts⟩ (uX13_closeK l dC dI ca base B hB hAp hB15 hB160 hB163 G0 H_19 r0 r_6 0 pf pg pp pl zf ff) (cwV 1 hts (jgV (jWr_66 _ (List.mem_of_getElem? (i := 3) rfl)) (jWr_66 _ (List.mem_of_getElem? (i := 4) rfl)) (jWr_66 _ (List.mem_of_getElem? (i := 5) rfl)) (jWr_12 _ (List.mem_of_getElem? (i := 12) rfl)) (jWr_66 _ (List.mem_of_getElem? (i := 6) rfl))) rfl rfl rfl (by decide +kernel) ⟨by rw [← hR]; exact Nat.le_of_ble_eq_true rfl, by rw [← hR]; exact Nat.le_of_ble_eq_true rfl⟩) ⟨fun a U g mk q => by obtain ⟨q0, q1, q2, qK, q10, q11, q12, q13, q14⟩ := q; exact ⟨q0, q1, q2, jG.calling g mk a qK, q10, q11, q12, q13, q14⟩, hh_19.recv (C := RX13) (T := TX13) (N := 50) hB15 rfl (by decide) hg_r0 hK, fun U hU hW => ⟨rfl, hU, hh_19.2.1, hG.step hW hU hh_19.1, hg_r0, hg_zf, (hh_19.2.2.1.sub (L1 := [(r0, 15, 34, .int 0), (r0, 15, 15, .int pf), (r0, 15, 21, .int pg), (r0, 15, 18, .int pp), (r0, 15, 20, .int pl), (r0, 15, 17, .ref zf)]) [1, 10, 11, 12, 13, 14] rfl), (hh_19.2.2.2.2.2.2.2.1.sub (L1 := [(zf, 160, 16, ca 1, ff)]) [7] rfl), by first | omega | (refine ⟨?_, ?_, ?_, ?_, ?_, ?_, ?_, ?_, ?_⟩ <;> (first | omega | rfl | assumption | decide | exact Or.inl rfl | exact Or.inr rfl | (simp only; omega)))⟩⟩ rfl rfl hl.1 rfl (lv_room (Nat.le_of_ble_eq_true rfl)) dX13_sentence_109 ⟨Nat.zero_le _, Nat.zero_le _⟩) hh_19.1 (fun q _ h => h) (fun q h => h) (fun u_26 t_26 H_26 locs_26 ht_26 hvm_26 hr_27 hb_26 hz_26 hk_26 hS_26 => ?_)
                  obtain ⟨qu_26, qf_26, qg_26, qp_26, gf_26⟩ := u_26
                  rw [ht_26] at hb_26
                  obtain ⟨⟨hb_261, hb_262, hb_263, hb_264, hb_265⟩, hb_266⟩ := hb_26
                  have hh_26 : jSt (dC, dI) B base G0 G0 EX13_sentencev9 s.heap 0 0 [(r0, 15, 34, .int qu_26), (r0, 15, 15, .int qf_26), (r0, 15, 21, .int qg_26), (r0, 15, 18, .int qp_26), (r0, 15, 36, .int 0), (r0, 15, 5, .int qn_13), (r0, 15, 33, .int qx_13), (r0, 15, 42, .int qr_13), (r0, 15, 31, .int loose_10), (r0, 15, 30, .int qk_2), (r0, 15, 10, .int qc_2), (r0, 15, 7, .int qs_2), (r0, 15, 11, .int py), (r0, 15, 20, .int pl), (r0, 15, 17, .ref zf), (r0, 15, 22, .ref zg), (r0, 15, 25, .ref zh), (r0, 15, 27, .ref zp), (r0, 15, 0, .ref zs), (r0, 15, 1, .ref zn), (r0, 15, 2, .ref za), (r0, 15, 3, .ref zb), (r0, 15, 4, .ref zc), (r0, 15, 14, .ref zy)] [(zf, 160, 16, ca 1, gf_26), (zs, 150, 120000, ca 1, D_13.s), (zn, 151, 120000, ca 1, D_13.n), (za, 152, 120000, ca 1, D_13.a), (zb, 153, 120000, ca 1, D_13.b), (zc, 154, 120000, ca 1, D_13.c), (zy, 165, 16, ca 1, D_13.y), (r1, 194, n1, ca 1, f_f1_4), (zg, 161, 46, ca 1, fg), (zh, 159, 46, ca 1, fh), (zp, 162, 368, ca 1, fp), (zy, 165, 16, ca 1, C.y)] [] H_26 locs_26 := ((hh_19.call hb_261 hb_262 hb_263 hb_264 hS_26 rfl (L1 := [(r0, 15, 36, .int 0), (r0, 15, 5, .int qn_13), (r0, 15, 33, .int qx_13), (r0, 15, 42, .int qr_13), (r0, 15, 31, .int loose_10), (r0, 15, 30, .int qk_2), (r0, 15, 10, .int qc_2), (r0, 15, 7, .int qs_2), (r0, 15, 11, .int py), (r0, 15, 20, .int pl), (r0, 15, 17, .ref zf), (r0, 15, 22, .ref zg), (r0, 15, 25, .ref zh), (r0, 15, 27, .ref zp), (r0, 15, 0, .ref zs), (r0, 15, 1, .ref zn), (r0, 15, 2, .ref za), (r0, 15, 3, .ref zb), (r0, 15, 4, .ref zc), (r0, 15, 14, .ref zy)]) [0, 2, 3, 4, 5, 6, 7, 8, 9, 13, 14, 15, 16, 17, 18, 19, 20, 21, 22, 23] rfl rfl (M1 := [(zs, 150, 120000, ca 1, D_13.s), (zn, 151, 120000, ca 1, D_13.n), (za, 152, 120000, ca 1, D_13.a), (zb, 153, 120000, ca 1, D_13.b), (zc, 154, 120000, ca 1, D_13.c), (zy, 165, 16, ca 1, D_13.y), (r1, 194, n1, ca 1, f_f1_4), (zg, 161, 46, ca 1, fg), (zh, 159, 46, ca 1, fh), (zp, 162, 368, ca 1, fp), (zy, 165, 16, ca 1, C.y)]) [0, 1, 2, 3, 4, 5, 6, 8, 9, 10, 11] rfl rfl (I1 := []) [] rfl rfl).more hb_265).moreM hb_266
                  clear hh_19 ht_26 hvm_26 hz_26 hk_26 hS_26 hb_261 hb_262 hb_263 hb_264 hb_265
                  clear hb_266
                  try simp only at hr_27
                  obtain ⟨hr_27_0, hr_27_1, hr_27_2, hr_27_3, hr_27_4, hr_27_5, hr_27_6, hr_27_7, hr_27_8⟩ := hr_27
                  refine lv_goto (tgt := 121) hx hb dX13_sentence_112 (by decide) ?_
                  refine lv_aload_n hx hb dX13_sentence_121 rfl (lv_at hl 0 rfl) ?_
                  refine j7_read hx hb hown hK (C := RX13) (T := TX13) (N := 50) rfl hly_15_34 hlk_221 (hh_26.at 0 rfl) dX13_sentence_122 ?_
                  rw [hQ]
                  exact W.iret (v := qu_26) hx hb hr (fun t ht hW => ⟨⟨qu_26, (qn_13, py, qf_26, qg_26, qp_26, pl, qc_2, qs_2, gf_26, fg, fh, fp, D_13), rfl, by
    try dsimp only
    obtain ⟨h1, h2, h3, h4, h5, h6, h7, h8, h9, h10⟩ := hKr
    exact ⟨by omega, by omega, by omega, by omega, by omega, by omega, ⟨h1, h2, h3, by omega, by omega, by omega, by omega, h8.fc hr_27_8 (h10 (by omega)), h9.less (by omega), fun q => h10 (by omega)⟩⟩, ⟨hh_26.rt (M1 := [(r0, 15, 5, .int qn_13), (r0, 15, 11, .int py), (r0, 15, 15, .int qf_26), (r0, 15, 21, .int qg_26), (r0, 15, 18, .int qp_26), (r0, 15, 20, .int pl), (r0, 15, 10, .int qc_2), (r0, 15, 7, .int qs_2)]) [5, 12, 1, 2, 3, 13, 10, 11] rfl ht, by rw [ht]; exact hh_26.2.2.2.2.2.2.2.1.sub [0, 8, 9, 10, 1, 2, 3, 4, 5, 6] rfl⟩⟩, by rw [ht]; try exact hh_26.1.1, fun q h9 hq => by rw [ht]; try exact hh_26.1.2.1 q h9 hq⟩) hh_26.1.2.2 dX13_sentence_125
              · skip
                have c_20' : r_6.toInt ≤ 3 := jb_gt_n (rfl) ((by decide)) c_20
                have hrd := hr_14_5 (by omega)
                refine lv_aload_n hx hb dX13_sentence_91 rfl (lv_at hl 0 rfl) ?_
                refine lv_iload hx hb dX13_sentence_92 (lv_at hl 5 rfl) ?_
                refine va_callv (A0 := jA base) (H0 := s.heap) (va_runV (As := [.int r_6]) (rest := []) ⟨hx, hb, hml, hown, hts⟩ (uX13_declare l dC dI ca base B hB hAp hB15 hB103 hB150 hB151 hB152 hB153 hB154 hB158 hB159 hB160 hB161 hB163 hB165 G0 H_19 r0 r_6 qn_13 0 py 0 pf pg pp pl qr_13 zf zg zh zp zs zn za zb zc zy pn.toInt qn_13.toInt ff fg fh fp D_13) (cwV 1 hts (jgV (jWr_63 _ (List.mem_of_getElem? (i := 17) rfl)) (jWr_63 _ (List.mem_of_getElem? (i := 18) rfl)) (jWr_63 _ (List.mem_of_getElem? (i := 19) rfl)) (jWr_12 _ (List.mem_of_getElem? (i := 12) rfl)) (jWr_63 _ (List.mem_of_getElem? (i := 20) rfl))) rfl rfl rfl (by decide +kernel) ⟨by rw [← hR]; exact Nat.le_of_ble_eq_true rfl, by rw [← hR]; exact Nat.le_of_ble_eq_true rfl⟩) ⟨fun a U g mk q => by obtain ⟨q0, q1, q2, qK, q10, q11, q12, q13, q14, q15, q16, q17, q18, q19, q20, q21, q22, q23⟩ := q; exact ⟨q0, q1, q2, jG.calling g mk a qK, q10, q11, q12, q13, q14, q15, q16, q17, q18, q19, q20, q21, q22, q23⟩, hh_19.recv (C := RX13) (T := TX13) (N := 50) hB15 rfl (by decide) hg_r0 hK, fun U hU hW => ⟨rfl, hU, hh_19.2.1, hG.step hW hU hh_19.1, hg_r0, hg_zf, hg_zg, hg_zh, hg_zp, hg_zs, hg_zn, hg_za, hg_zb, hg_zc, hg_zy, (hh_19.2.2.1.sub (L1 := [(r0, 15, 5, .int qn_13), (r0, 15, 34, .int 0), (r0, 15, 11, .int py), (r0, 15, 36, .int 0), (r0, 15, 15, .int pf), (r0, 15, 21, .int pg), (r0, 15, 18, .int pp), (r0, 15, 20, .int pl), (r0, 15, 42, .int qr_13), (r0, 15, 17, .ref zf), (r0, 15, 22, .ref zg), (r0, 15, 25, .ref zh), (r0, 15, 27, .ref zp), (r0, 15, 0, .ref zs), (r0, 15, 1, .ref zn), (r0, 15, 2, .ref za), (r0, 15, 3, .ref zb), (r0, 15, 4, .ref zc), (r0, 15, 14, .ref zy)]) [2, 1, 9, 0, 10, 11, 12, 13, 4, 14, 15, 16, 17, 18, 19, 20, 21, 22, 23] rfl), (hh_19.2.2.2.2.2.2.2.1.sub (L1 := [(zf, 160, 16, ca 1, ff), (zg, 161, 46, ca 1, fg), (zh, 159, 46, ca 1, fh), (zp, 162, 368, ca 1, fp), (zs, 150, 120000, ca 1, D_13.s), (zn, 151, 120000, ca 1, D_13.n), (za, 152, 120000, ca 1, D_13.a), (zb, 153, 120000, ca 1, D_13.b), (zc, 154, 120000, ca 1, D_13.c), (zy, 165, 16, ca 1, D_13.y)]) [7, 8, 9, 10, 0, 1, 2, 3, 4, 5] rfl), ⟨(by first | assumption | exact hKr | (intro h9; exact hrd.1 (by omega)) | omega), (by first | assumption | exact hKr | (intro h9; exact hrd.1 (by omega)) | omega), (by first | omega | rfl | assumption | exact hKr | (intro h9; exact hrd.1 (by omega))), (by first | omega | rfl | assumption | exact hKr | (intro h9; exact hrd.1 (by omega))), (by first | omega | rfl | assumption | exact hKr | (intro h9; exact hrd.1 (by omega))), (by first | omega | rfl | assumption | exact hKr | (intro h9; exact hrd.1 (by omega))), (by first | omega | rfl | assumption | exact hKr | (intro h9; exact hrd.1 (by omega))), (by first | omega | rfl | assumption | exact hKr | (intro h9; exact hrd.1 (by omega))), (by first | omega | rfl | assumption | exact hKr | (intro h9; exact hrd.1 (by omega))), (by first | omega | rfl | assumption | exact hKr | (intro h9; exact hrd.1 (by omega)))⟩⟩⟩ rfl rfl hl.1 rfl (lv_room (Nat.le_of_ble_eq_true rfl)) dX13_sentence_94 ⟨Nat.zero_le _, Nat.zero_le _⟩) hh_19.1 (fun q _ h => h) (fun q h => h) (fun u_28 t_28 H_28 locs_28 ht_28 hvm_28 hr_29 hb_28 hz_28 hk_28 hS_28 => ?_)
                obtain ⟨qn_28, qu_28, qy_28, qf_28, qg_28, qp_28, ql_28, gf_28, gg_28, gh_28, D_28⟩ := u_28
                rw [ht_28] at hb_28
                obtain ⟨⟨hb_281, hb_282, hb_283, hb_284, hb_285⟩, hb_286⟩ := hb_28
                have hh_28 : jSt (dC, dI) B base G0 G0 EX13_sentencev9 s.heap 0 0 [(r0, 15, 5, .int qn_28), (r0, 15, 34, .int qu_28), (r0, 15, 11, .int qy_28), (r0, 15, 15, .int qf_28), (r0, 15, 21, .int qg_28), (r0, 15, 18, .int qp_28), (r0, 15, 20, .int ql_28), (r0, 15, 33, .int qx_13), (r0, 15, 42, .int qr_13), (r0, 15, 31, .int loose_10), (r0, 15, 30, .int qk_2), (r0, 15, 10, .int qc_2), (r0, 15, 7, .int qs_2), (r0, 15, 17, .ref zf), (r0, 15, 22, .ref zg), (r0, 15, 25, .ref zh), (r0, 15, 27, .ref zp), (r0, 15, 0, .ref zs), (r0, 15, 1, .ref zn), (r0, 15, 2, .ref za), (r0, 15, 3, .ref zb), (r0, 15, 4, .ref zc), (r0, 15, 14, .ref zy)] [(zf, 160, 16, ca 1, gf_28), (zg, 161, 46, ca 1, gg_28), (zh, 159, 46, ca 1, gh_28), (zs, 150, 120000, ca 1, D_28.s), (zn, 151, 120000, ca 1, D_28.n), (za, 152, 120000, ca 1, D_28.a), (zb, 153, 120000, ca 1, D_28.b), (zc, 154, 120000, ca 1, D_28.c), (zy, 165, 16, ca 1, D_28.y), (r1, 194, n1, ca 1, f_f1_4), (zp, 162, 368, ca 1, fp)] [] H_28 locs_28 := ((hh_19.call hb_281 hb_282 hb_283 hb_284 hS_28 rfl (L1 := [(r0, 15, 33, .int qx_13), (r0, 15, 42, .int qr_13), (r0, 15, 31, .int loose_10), (r0, 15, 30, .int qk_2), (r0, 15, 10, .int qc_2), (r0, 15, 7, .int qs_2), (r0, 15, 17, .ref zf), (r0, 15, 22, .ref zg), (r0, 15, 25, .ref zh), (r0, 15, 27, .ref zp), (r0, 15, 0, .ref zs), (r0, 15, 1, .ref zn), (r0, 15, 2, .ref za), (r0, 15, 3, .ref zb), (r0, 15, 4, .ref zc), (r0, 15, 14, .ref zy)]) [3, 4, 5, 6, 7, 8, 14, 15, 16, 17, 18, 19, 20, 21, 22, 23] rfl rfl (M1 := [(r1, 194, n1, ca 1, f_f1_4), (zp, 162, 368, ca 1, fp)]) [6, 10] rfl rfl (I1 := []) [] rfl rfl).more hb_285).moreM hb_286
                clear hh_19 ht_28 hvm_28 hz_28 hk_28 hS_28 hb_281 hb_282 hb_283 hb_284 hb_285
                clear hb_286
                try simp only at hr_29
                obtain ⟨hr_29_0, hr_29_1, hr_29_2, hr_29_3, hr_29_4⟩ := hr_29
                refine lv_goto (tgt := 121) hx hb dX13_sentence_97 (by decide) ?_
                refine lv_aload_n hx hb dX13_sentence_121 rfl (lv_at hl 0 rfl) ?_
                refine j7_read hx hb hown hK (C := RX13) (T := TX13) (N := 50) rfl hly_15_34 hlk_221 (hh_28.at 1 rfl) dX13_sentence_122 ?_
                rw [hQ]
                exact W.iret (v := qu_28) hx hb hr (fun t ht hW => ⟨⟨qu_28, (qn_28, qy_28, qf_28, qg_28, qp_28, ql_28, qc_2, qs_2, gf_28, gg_28, gh_28, fp, D_28), rfl, by (try dsimp only); exact ⟨by omega, by omega, by omega, by omega, by omega, by omega, hr_29_4⟩, ⟨hh_28.rt (M1 := [(r0, 15, 5, .int qn_28), (r0, 15, 11, .int qy_28), (r0, 15, 15, .int qf_28), (r0, 15, 21, .int qg_28), (r0, 15, 18, .int qp_28), (r0, 15, 20, .int ql_28), (r0, 15, 10, .int qc_2), (r0, 15, 7, .int qs_2)]) [0, 2, 3, 4, 5, 6, 11, 12] rfl ht, by rw [ht]; exact hh_28.2.2.2.2.2.2.2.1.sub [0, 1, 2, 10, 3, 4, 5, 6, 7, 8] rfl⟩⟩, by rw [ht]; try exact hh_28.1.1, fun q h9 hq => by rw [ht]; try exact hh_28.1.2.1 q h9 hq⟩) hh_28.1.2.2 dX13_sentence_125
            · skip
              have c_17' : pp.toInt = w0_16.toInt := jb_ne_n (rfl) (rfl) c_17
              refine lv_iconst (v := 4) hx hb dX13_sentence_73 (by decide) ?_
              rw [hQ]
              exact W.iret (v := 4) hx hb hr (fun t ht hW => ⟨⟨4, (qn_13, py, pf, pg, pp, pl, qc_2, qs_2, ff, fg, fh, fp, D_13), rfl, by (try dsimp only); exact ⟨by omega, by omega, by omega, by omega, by omega, by omega, hKr⟩, ⟨hh_16.rt (M1 := [(r0, 15, 5, .int qn_13), (r0, 15, 11, .int py), (r0, 15, 15, .int pf), (r0, 15, 21, .int pg), (r0, 15, 18, .int pp), (r0, 15, 20, .int pl), (r0, 15, 10, .int qc_2), (r0, 15, 7, .int qs_2)]) [0, 7, 8, 9, 10, 11, 5, 6] rfl ht, by rw [ht]; exact hh_16.2.2.2.2.2.2.2.1.sub [7, 8, 9, 10, 0, 1, 2, 3, 4, 5] rfl⟩⟩, by rw [ht]; try exact hh_16.1.1, fun q h9 hq => by rw [ht]; try exact hh_16.1.2.1 q h9 hq⟩) hh_16.1.2.2 dX13_sentence_74
          refine lv_icmp_gt (tgt := 69) hx hb dX13_sentence_62 (by decide) (fun c_30 => ?_) (fun c_30 => ?_)
          · skip
            have c_30' : r_6.toInt > 3 := jb_gt (rfl) ((by decide)) c_30
            first | (have hr_6_2q := hr_6_2.resolve_left (by omega); clear hr_6_2) | (have hr_6_2q := hr_6_2.resolve_right (by omega); clear hr_6_2) | skip
            refine lv_iconst (v := 0) hx hb dX13_sentence_69 (by decide) ?_
            exact C70 0 _ _ hh_13 (Or.inl rfl) (by first | omega | (refine ⟨?_, ?_, ?_, ?_⟩ <;> (first | omega | rfl | assumption | decide | exact Or.inl rfl | exact Or.inr rfl | (simp only; omega)))) _ (lv_sub hl [1, 2, 3, 4, 5, 0] rfl)
          · skip
            have c_30' : r_6.toInt ≤ 3 := jb_gt_n (rfl) ((by decide)) c_30
            first | (have hr_6_2q := hr_6_2.resolve_left (by omega); clear hr_6_2) | (have hr_6_2q := hr_6_2.resolve_right (by omega); clear hr_6_2) | skip
            refine lv_iconst (v := 1) hx hb dX13_sentence_65 (by decide) ?_
            refine lv_goto (tgt := 70) hx hb dX13_sentence_66 (by decide) ?_
            exact C70 1 _ _ hh_13 (Or.inr rfl) (by first | omega | (refine ⟨?_, ?_, ?_, ?_⟩ <;> (first | omega | rfl | assumption | decide | exact Or.inl rfl | exact Or.inr rfl | (simp only; omega)))) _ (lv_sub hl [1, 2, 3, 4, 5, 0] rfl)
        · skip
          have c_15' : qx_13.toInt ≠ 0 := jb_eq_n (rfl) ((by decide)) c_15
          refine lv_iconst (v := 3) hx hb dX13_sentence_53 (by decide) ?_
          rw [hQ]
          exact W.iret (v := 3) hx hb hr (fun t ht hW => ⟨⟨3, (qn_13, py, pf, pg, pp, pl, qc_2, qs_2, ff, fg, fh, fp, D_13), rfl, by (try dsimp only); exact ⟨by omega, by omega, by omega, by omega, by omega, by omega, hKr⟩, ⟨hh_13.rt (M1 := [(r0, 15, 5, .int qn_13), (r0, 15, 11, .int py), (r0, 15, 15, .int pf), (r0, 15, 21, .int pg), (r0, 15, 18, .int pp), (r0, 15, 20, .int pl), (r0, 15, 10, .int qc_2), (r0, 15, 7, .int qs_2)]) [0, 7, 8, 9, 10, 11, 5, 6] rfl ht, by rw [ht]; exact hh_13.2.2.2.2.2.2.2.1.sub [7, 8, 9, 10, 0, 1, 2, 3, 4, 5] rfl⟩⟩, by rw [ht]; try exact hh_13.1.1, fun q h9 hq => by rw [ht]; try exact hh_13.1.2.1 q h9 hq⟩) hh_13.1.2.2 dX13_sentence_54
      · skip
        have c_11' : loose_10.toInt > 0 := jb_le_n (rfl) ((by decide)) c_11
        refine lv_iconst (v := 3) hx hb dX13_sentence_33 (by decide) ?_
        rw [hQ]
        exact W.iret (v := 3) hx hb hr (fun t ht hW => ⟨⟨3, (pn, py, pf, pg, pp, pl, qc_2, qs_2, ff, fg, fh, fp, C), rfl, by (try dsimp only); exact ⟨by omega, by omega, by omega, by omega, by omega, by omega, hp0⟩, ⟨hh_9.rt (M1 := [(r0, 15, 5, .int pn), (r0, 15, 11, .int py), (r0, 15, 15, .int pf), (r0, 15, 21, .int pg), (r0, 15, 18, .int pp), (r0, 15, 20, .int pl), (r0, 15, 10, .int qc_2), (r0, 15, 7, .int qs_2)]) [4, 5, 6, 7, 8, 9, 2, 3] rfl ht, by rw [ht]; exact hh_9.2.2.2.2.2.2.2.1.sub [1, 2, 3, 4, 5, 6, 7, 8, 9, 10] rfl⟩⟩, by rw [ht]; try exact hh_9.1.1, fun q h9 hq => by rw [ht]; try exact hh_9.1.2.1 q h9 hq⟩) hh_9.1.2.2 dX13_sentence_34
  · skip
    have c_1' : a4.toInt > 0 := jb_le_n (rfl) ((by decide)) c_1
    refine lv_iload hx hb dX13_sentence_5 (lv_at hl 4 rfl) ?_
    rw [hQ]
    exact W.iret (v := a4) hx hb hr (fun t ht hW => ⟨⟨a4, (pn, py, pf, pg, pp, pl, pc, ps, ff, fg, fh, fp, C), rfl, by (try dsimp only); exact ⟨by omega, by omega, by omega, by omega, by omega, by omega, hp0⟩, ⟨hh.rt (M1 := [(r0, 15, 5, .int pn), (r0, 15, 11, .int py), (r0, 15, 15, .int pf), (r0, 15, 21, .int pg), (r0, 15, 18, .int pp), (r0, 15, 20, .int pl), (r0, 15, 10, .int pc), (r0, 15, 7, .int ps)]) [0, 1, 2, 3, 4, 5, 6, 7] rfl ht, by rw [ht]; exact hh.2.2.2.2.2.2.2.1.sub [0, 1, 2, 3, 4, 5, 6, 7, 8, 9] rfl⟩⟩, by rw [ht]; try exact hh.1.1, fun q h9 hq => by rw [ht]; try exact hh.1.2.1 q h9 hq⟩) hh.1.2.2 dX13_sentence_7
end
section
-- printing: how often a bound name is marked
theorem jFm.two {C : jK} {N Y b x : Int} {d : Nat} (h : jFm C N Y d b x) (hs : (0 ≤ jSo C.s x ∧ jSo C.s x ≤ 2) ∨ jSo C.s x = 6) : jFm C N Y (d - 1) b (jSo C.a x) ∧ jFm C N Y (d - 1) b (jSo C.b x) ∧ (0 ≤ jSo C.a x ∧ jSo C.a x < N) ∧ (0 ≤ jSo C.b x ∧ jSo C.b x < N) := by
  have hp : jPts C x = 2 := (jPts_nl C x).2.2.1 (by omega)
  have hq : jQf C x = 0 := (jQf_ok C x).2.1 (by omega)
  have p0 := h.part (k := 0) (by omega) (by omega)
  have p1 := h.part (k := 1) (by omega) (by omega)
  rw [hq, Int.add_zero] at p0 p1
  exact ⟨p0, p1, ⟨p0.nd.1, p0.nd.2.1⟩, ⟨p1.nd.1, p1.nd.2.1⟩⟩
theorem jFm.onep {C : jK} {N Y b x : Int} {d : Nat} (h : jFm C N Y d b x) (hs : jSo C.s x = 4 ∨ jSo C.s x = 5) : jFm C N Y (d - 1) (b + 1) (jSo C.a x) ∧ 0 ≤ jSo C.n x ∧ jSo C.n x ≤ 1599 := by
  have hp : jPts C x = 1 := (jPts_nl C x).2.1 hs
  have hq : jQf C x = 1 := (jQf_ok C x).1 hs
  have p0 := h.part (k := 0) (by omega) (by omega)
  rw [hq] at p0
  exact ⟨p0, h.nd.2.2.2.2.2.2.1 (by omega)⟩
end
