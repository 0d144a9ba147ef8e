section
def EX14_escapeJ : List (Nat × Nat) := [(16, 28), (16, 29), (16, 31), (127, 0)]
def EX14_readStringJ : List (Nat × Nat) := [(16, 28), (16, 29), (16, 31), (16, 32), (16, 33), (127, 0)]
set_option maxHeartbeats 4000000 in
set_option maxRecDepth 20000 in
theorem uX14_escapeJ (l : Launch) (dC : Nat → ClassId) (dI : Nat → Nat → Nat) (ca : Nat → ClassId) (base : Nat) (B : jF) (hB : jBok B) (hAp : jAp (dC, dI)) (hB16 : ∀ n G a H, B 16 n G a H ↔ jOb (dC, dI) 16 74 (F16 n G) a H) (hB110 : ∀ n G a H, B 110 n G a H ↔ jAr (dC, dI) (ca 1) (fun j z => 0 ≤ z.toInt ∧ z.toInt ≤ 255) n a H) (hB127 : ∀ n G a H, B 127 n G a H ↔ jAr (dC, dI) (ca 1) (fun j z => True) n a H) (G0 : jT) (H0 : Heap) (r0 : Nat) (pt : Int32) (pe : Int32) (kp_ : Nat) (pp : Int32) (pb : Int32) (xp : Nat) (fb : Nat → Int32) (fu : Nat → Int32) : Met l yX14_escape (jw yX14_escape cX14_escape 6 none) ({ frames := 5, cells := 0, slots := 0, locals := 181 }) (va_Pc [.ref r0] (fun U => U.heap = H0 ∧ jX B base G0 [] H0 ∧ jG dC dI ca base U ∧ G0 r0 = some (16, 0) ∧ G0 kp_ = some (110, 3300) ∧ G0 xp = some (127, 3300) ∧ jP (dC, dI) G0 H0 [(r0, 16, 29, .int pt), (r0, 16, 30, .int pe), (r0, 16, 9, .ref kp_), (r0, 16, 28, .int pp), (r0, 16, 31, .int pb), (r0, 16, 27, .ref xp)] ∧ jMc (dC, dI) G0 H0 [(kp_, 110, 3300, ca 1, fb), (xp, 127, 3300, ca 1, fu)] ∧ 0 ≤ pt.toInt ∧ pt.toInt ≤ 90000 ∧ 0 ≤ pe.toInt ∧ pe.toInt ≤ 3000 ∧ 1 ≤ pt.toInt ∧ pt.toInt ≤ pe.toInt ∧ 0 ≤ pp.toInt ∧ pp.toInt ≤ 3290 ∧ pb.toInt = 0)) (va_Qv (S := Int32 × Int32 × Int32 × (Nat → Int32)) (fun u => jjQe (jjE (jB8 fb) pe.toInt (pt.toInt - 1)) (1 - u.2.2.1.toInt) (u.1.toInt - pt.toInt + 1) pp.toInt u.2.1.toInt fu u.2.2.2 ∧ 0 ≤ u.2.2.1.toInt ∧ u.2.2.1.toInt ≤ 1 ∧ pt.toInt + 1 ≤ u.1.toInt + u.2.2.1.toInt ∧ pt.toInt ≤ u.1.toInt ∧ u.1.toInt ≤ pe.toInt + u.2.2.1.toInt ∧ pp.toInt ≤ u.2.1.toInt ∧ u.2.1.toInt ≤ pp.toInt + (u.1.toInt - pt.toInt) + u.2.2.1.toInt) (fun u t => jRt (dC, dI) B base G0 EX14_escapeJ H0 [(r0, 16, 29, .int u.1), (r0, 16, 28, .int u.2.1), (r0, 16, 31, .int u.2.2.1)] t.heap ∧ jMc (dC, dI) G0 t.heap [(xp, 127, 3300, ca 1, u.2.2.2)]) (jA base)) 0 0 (jA base) := by
  refine Met.ofW (cc := cX14_escape) (maxL := 6) (ret := none) (by decide) rfl ?_
  intro p e s m args below meth c s₁ Bd hml hv
  obtain ⟨rfl, hH0, hX, hG, hg_r0, hg_kp_, hg_xp, hP0, hM0, hp0, hp1, hp2, hp3, hp4, hp5, hp6, hp7, hp8⟩ := hv
  have hK := hG.1
  have hx := Bd.exec
  have hb := Bd.bytes
  have hr := Bd.returns
  have hts := atoms_spec (ws := (jw yX14_escape cX14_escape 6 none)) Bd.pre
  have htw : ∀ w ∈ jWl, w.before _ s = true := fun w h => hts w (List.mem_cons_of_mem _ h)
  have hown : s.vm.findClass RX14 = some m.cls := findClass_of_methodNamed Bd.named
  have hlocks := Bd.notSynchronized
  obtain ⟨Q, hQ⟩ : ∃ Q, Q = MQ below (va_Qv (S := Int32 × Int32 × Int32 × (Nat → Int32)) (fun u => jjQe (jjE (jB8 fb) pe.toInt (pt.toInt - 1)) (1 - u.2.2.1.toInt) (u.1.toInt - pt.toInt + 1) pp.toInt u.2.1.toInt fu u.2.2.2 ∧ 0 ≤ u.2.2.1.toInt ∧ u.2.2.1.toInt ≤ 1 ∧ pt.toInt + 1 ≤ u.1.toInt + u.2.2.1.toInt ∧ pt.toInt ≤ u.1.toInt ∧ u.1.toInt ≤ pe.toInt + u.2.2.1.toInt ∧ pp.toInt ≤ u.2.1.toInt ∧ u.2.1.toInt ≤ pp.toInt + (u.1.toInt - pt.toInt) + u.2.2.1.toInt) (fun u t => jRt (dC, dI) B base G0 EX14_escapeJ H0 [(r0, 16, 29, .int u.1), (r0, 16, 28, .int u.2.1), (r0, 16, 31, .int u.2.2.1)] t.heap ∧ jMc (dC, dI) G0 t.heap [(xp, 127, 3300, ca 1, u.2.2.2)]) (jA base)) ([.ref r0] : List Value).toArray s 0 0 (jA base) := ⟨_, rfl⟩
  rw [← hQ]
  have hl := lv_entry ([.ref r0]) (n := 6) (Nat.le_of_ble_eq_true rfl)
  rw [lg_entry_eq]
  generalize (lg_sl ([.ref r0]) ++ List.replicate (6 - (lg_sl ([.ref r0])).length) Slot.unset).toArray = ls at hl ⊢
  have hl : lv_has ls 6 [(0, .ref r0)] := hl
  generalize hR : (headSpec (jw yX14_escape cX14_escape 6 none) ({ frames := 5, cells := 0, slots := 0, locals := 181 })).room = R
  subst hH0
  have hh : jSt (dC, dI) B base G0 G0 EX14_escapeJ s.heap 0 0 [(r0, 16, 29, .int pt), (r0, 16, 30, .int pe), (r0, 16, 9, .ref kp_), (r0, 16, 28, .int pp), (r0, 16, 31, .int pb), (r0, 16, 27, .ref xp)] [(kp_, 110, 3300, ca 1, fb), (xp, 127, 3300, ca 1, fu)] [] s.heap [] := jSt.start hX hP0 hM0 jIs.nil
  clear hX hP0
  have hkm1 : ((-1) : Int32).toInt = (-1) := by decide
  have hk0 : (0 : Int32).toInt = 0 := by decide
  have hk1 : (1 : Int32).toInt = 1 := by decide
  have hk3 : (3 : Int32).toInt = 3 := by decide
  have hk8 : (8 : Int32).toInt = 8 := by decide
  have hk9 : (9 : Int32).toInt = 9 := by decide
  have hk10 : (10 : Int32).toInt = 10 := by decide
  have hk12 : (12 : Int32).toInt = 12 := by decide
  have hk13 : (13 : Int32).toInt = 13 := by decide
  have hk98 : (98 : Int32).toInt = 98 := by decide
  have hk102 : (102 : Int32).toInt = 102 := by decide
  have hk110 : (110 : Int32).toInt = 110 := by decide
  have hk114 : (114 : Int32).toInt = 114 := by decide
  have hk117 : (117 : Int32).toInt = 117 := by decide
  have hk55296 : (55296 : Int32).toInt = 55296 := by decide
  have hk56319 : (56319 : Int32).toInt = 56319 := by decide
  have hk56320 : (56320 : Int32).toInt = 56320 := by decide
  have hk57343 : (57343 : Int32).toInt = 57343 := by decide
  have hly_16_29 := htw (u_lay RX14 TX14 29) (jWc_wsX140 _ (u_in_lay (by decide)))
  have hly_16_31 := htw (u_lay RX14 TX14 31) (jWc_wsX140 _ (u_in_lay (by decide)))
  have hlk_273 := (htw (.fieldLink RX14 273 "ProofServerModel" "at" "I") (jWr_50 _ (List.mem_of_getElem? (i := 5) rfl)))
  obtain ⟨str337, rstr337, hstr3370⟩ := hG.strT (o := RX14) (k := 337) (tx := "\"\\/bfnrt") (List.mem_of_getElem? (i := 2337) (by decide +kernel))
  have hTstr337 : jStrF base str337 8 (jChT "\"\\/bfnrt") s s.heap := hstr3370.F (by decide +kernel)
  have hstr337 : jStr base str337 8 s s.heap := hTstr337.str
  have hcs_185 := htw (.constant RX14 185 56320) (jWr_51 _ (List.mem_of_getElem? (i := 16) rfl))
  have hcs_186 := htw (.constant RX14 186 57343) (jWr_51 _ (List.mem_of_getElem? (i := 17) rfl))
  have hlk_288 := (htw (.fieldLink RX14 288 "ProofServerModel" "bad" "Z") (jWr_50 _ (List.mem_of_getElem? (i := 9) rfl)))
  have hcs_179 := htw (.constant RX14 179 55296) (jWr_51 _ (List.mem_of_getElem? (i := 18) rfl))
  have hcs_180 := htw (.constant RX14 180 56319) (jWr_51 _ (List.mem_of_getElem? (i := 19) rfl))
  obtain ⟨str348, rstr348, hstr3480⟩ := hG.strT (o := RX14) (k := 348) (tx := "\\u") (List.mem_of_getElem? (i := 2356) (by decide +kernel))
  have hTstr348 : jStrF base str348 2 (jChT "\\u") s s.heap := hstr3480.F (by decide +kernel)
  have hstr348 : jStr base str348 2 s s.heap := hTstr348.str
  refine lv_aload_n hx hb dX14_escape_0 rfl (lv_at hl 0 rfl) ?_
  refine va_calli (A0 := jA base) (H0 := s.heap) (va_runV (As := []) (rest := []) ⟨hx, hb, hml, hown, hts⟩ (uX14_hereJ l dC dI ca base B hB hAp hB16 hB110 G0 s.heap r0 pt pe kp_ fb) (cwV 0 hts (jgV (jWr_50 _ (List.mem_of_getElem? (i := 20) rfl)) (jWr_50 _ (List.mem_of_getElem? (i := 21) rfl)) (jWr_50 _ (List.mem_of_getElem? (i := 22) rfl)) (jWr_1 _ (List.mem_of_getElem? (i := 5) rfl)) (jWr_50 _ (List.mem_of_getElem? (i := 23) rfl))) rfl rfl rfl (by decide +kernel) ⟨by rw [← hR]; exact Nat.le_of_ble_eq_true rfl, by rw [← hR]; exact Nat.le_of_ble_eq_true rfl⟩) ⟨fun a U g mk q => by obtain ⟨q0, q1, q2, qK, q10, q11, q12, q13, q14⟩ := q; exact ⟨q0, q1, q2, jG.calling g mk a qK, q10, q11, q12, q13, q14⟩, hh.recv (C := RX14) (T := TX14) (N := 74) hB16 rfl (by decide) hg_r0 hK, fun U hU hW => ⟨rfl, hU, hh.2.1, hG.step hW hU hh.1, hg_r0, hg_kp_, (hh.2.2.1.sub (L1 := [(r0, 16, 29, .int pt), (r0, 16, 30, .int pe), (r0, 16, 9, .ref kp_)]) [0, 1, 2] rfl), (hh.2.2.2.2.2.2.2.1.sub (L1 := [(kp_, 110, 3300, ca 1, fb)]) [0] rfl), by first | omega | (refine ⟨?_, ?_, ?_, ?_⟩ <;> (first | omega | rfl | assumption | decide | exact Or.inl rfl | exact Or.inr rfl | (simp only; omega)))⟩⟩ rfl rfl hl.1 rfl (lv_room (Nat.le_of_ble_eq_true rfl)) dX14_escape_1 ⟨Nat.zero_le _, Nat.zero_le _⟩) hh.1 (fun q _ h => h) (fun q h => h) (fun r_2 u_1 t_1 H_1 locs_1 ht_1 hvm_1 hr_2 hb_1 hz_1 hk_1 hS_1 => ?_)
  rw [ht_1] at hb_1
  obtain ⟨hb_11, hb_12, hb_13, hb_14, hb_15⟩ := hb_1
  have hh_1 : jSt (dC, dI) B base G0 G0 EX14_escapeJ s.heap 0 0 [(r0, 16, 29, .int pt), (r0, 16, 30, .int pe), (r0, 16, 9, .ref kp_), (r0, 16, 28, .int pp), (r0, 16, 31, .int pb), (r0, 16, 27, .ref xp)] [(kp_, 110, 3300, ca 1, fb), (xp, 127, 3300, ca 1, fu)] [] H_1 locs_1 := ((hh.call hb_11 hb_12 hb_13 hb_14 hS_1 rfl (L1 := [(r0, 16, 29, .int pt), (r0, 16, 30, .int pe), (r0, 16, 9, .ref kp_), (r0, 16, 28, .int pp), (r0, 16, 31, .int pb), (r0, 16, 27, .ref xp)]) [0, 1, 2, 3, 4, 5] rfl rfl (M1 := [(kp_, 110, 3300, ca 1, fb), (xp, 127, 3300, ca 1, fu)]) [0, 1] rfl rfl (I1 := []) [] rfl rfl).more hb_15)
  clear hh ht_1 hvm_1 hz_1 hk_1 hS_1 hb_11 hb_12 hb_13 hb_14 hb_15
  obtain ⟨hr_2_0, hr_2_1, hr_2_2⟩ := hr_2
  have hc1 : r_2.toInt = jjK (jB8 fb) pe.toInt (pt.toInt - 1 + 1) := hr_2_0.trans (by rw [show pt.toInt - 1 + 1 = pt.toInt by omega])
  refine lv_istore_n (lv' := [(1, .int r_2), (0, .ref r0)]) hx hb dX14_escape_4 rfl hl (by decide) rfl (fun ls hl => ?_)
  refine lv_aload_n hx hb dX14_escape_5 rfl (lv_at hl 1 rfl) ?_
  refine lv_dup hx hb dX14_escape_6 rfl ?_
  refine j7_read hx hb hown hK (C := RX14) (T := TX14) (N := 74) rfl hly_16_29 hlk_273 (hh_1.at 0 rfl) dX14_escape_7 ?_
  refine lv_iconst (v := 1) hx hb dX14_escape_10 (by decide) ?_
  refine lv_iadd hx hb dX14_escape_11 ?_
  refine lv_topi (fun z_3 ez_3 => ?_)
  have hz_3 : z_3.toInt = pt.toInt + 1 := by rw [ez_3]; exact jb_iadd2 (rfl) ((by decide)) (by omega)
  refine j7_put hx hb hown hK hh_1 hB hAp hB16 (C := RX14) (T := TX14) (N := 74) rfl (by decide) hg_r0 (i := 29) (by decide) hly_16_29 rfl hlk_273 rfl (ty := .int) (v := .int z_3) (by decide +kernel) rfl rfl (⟨_, rfl, by omega, by omega⟩) rfl (L1 := [(r0, 16, 30, .int pe), (r0, 16, 9, .ref kp_), (r0, 16, 28, .int pp), (r0, 16, 31, .int pb), (r0, 16, 27, .ref xp)]) [1, 2, 3, 4, 5] rfl rfl rfl dX14_escape_12 (fun H_4 locs_4 hh_4 => ?_)
  clear hh_1
  refine j_ldcSw hx hb hown rstr337 dX14_escape_15 ?_
  refine lv_astore_n (lv' := [(2, .ref str337), (1, .int r_2), (0, .ref r0)]) hx hb dX14_escape_18 rfl hl (by decide) rfl (fun ls hl => ?_)
  refine lv_iload_n hx hb dX14_escape_19 rfl (lv_at hl 1 rfl) ?_
  have C32 : ∀ (w0_5 : Int32) (H_5 : Heap) (locs_5 : List Loc), jSt (dC, dI) B base G0 G0 EX14_escapeJ s.heap 0 0 [(r0, 16, 29, .int z_3), (r0, 16, 30, .int pe), (r0, 16, 9, .ref kp_), (r0, 16, 28, .int pp), (r0, 16, 31, .int pb), (r0, 16, 27, .ref xp)] [(kp_, 110, 3300, ca 1, fb), (xp, 127, 3300, ca 1, fu)] [] H_5 locs_5 → (jxE r_2.toInt w0_5.toInt ∧ -1 ≤ w0_5.toInt ∧ w0_5.toInt < 8) → ∀ ls : Array Slot, lv_has ls 6 [(0, .ref r0), (1, .int r_2), (2, .ref str337)] → W p l e R s m ([.ref r0] : List Value).toArray below meth c H_5 locs_5 0 0 Q (F0 m 32 ls [.int w0_5]) := by
    intro w0_5 H_5 locs_5 hh_5  hi_5 ls hl
    obtain ⟨hi_5_0, hi_5_1, hi_5_2⟩ := hi_5
    refine lv_istore_n (lv' := [(3, .int w0_5), (0, .ref r0), (1, .int r_2), (2, .ref str337)]) hx hb dX14_escape_32 rfl hl (by decide) rfl (fun ls hl => ?_)
    refine lv_iload_n hx hb dX14_escape_33 rfl (lv_at hl 0 rfl) ?_
    refine lv_if_lt (tgt := 97) hx hb dX14_escape_34 (by decide) (fun c_6 => ?_) (fun c_6 => ?_)
    · skip
      have c_6' : w0_5.toInt < 0 := jb_lt (rfl) ((by decide)) c_6
      refine lv_iload_n hx hb dX14_escape_97 rfl (lv_at hl 2 rfl) ?_
      refine lv_bipush (v := 117) hx hb dX14_escape_98 (by decide) ?_
      refine lv_icmp_ne (tgt := 110) hx hb dX14_escape_100 (by decide) (fun c_7 => ?_) (fun c_7 => ?_)
      · skip
        have c_7' : r_2.toInt ≠ 117 := jb_ne (rfl) ((by decide)) c_7
        refine lv_iconst (v := (-1)) hx hb dX14_escape_110 (by decide) ?_
        refine lv_istore (lv' := [(4, .int (-1)), (3, .int w0_5), (0, .ref r0), (1, .int r_2), (2, .ref str337)]) hx hb dX14_escape_111 hl (by decide) rfl (fun ls hl => ?_)
        refine lv_iload hx hb dX14_escape_113 (lv_at hl 0 rfl) ?_
        refine lv_if_lt (tgt := 130) hx hb dX14_escape_115 (by decide) (fun c_8 => ?_) (fun c_8 => ?_)
        · skip
          refine lv_aload_n hx hb dX14_escape_130 rfl (lv_at hl 2 rfl) ?_
          refine lv_iconst (v := 1) hx hb dX14_escape_131 (by decide) ?_
          refine j7_put hx hb hown hK hh_5 hB hAp hB16 (C := RX14) (T := TX14) (N := 74) rfl (by decide) hg_r0 (i := 31) (by decide) hly_16_31 rfl hlk_288 rfl (ty := .boolean) (v := .int 1) (by decide +kernel) (jb_nz (Or.inr rfl)) (jb_fz (Or.inr rfl)) (⟨_, rfl, (Or.inr rfl)⟩) rfl (L1 := [(r0, 16, 29, .int z_3), (r0, 16, 30, .int pe), (r0, 16, 9, .ref kp_), (r0, 16, 28, .int pp), (r0, 16, 27, .ref xp)]) [0, 1, 2, 3, 5] rfl rfl rfl dX14_escape_132 (fun H_9 locs_9 hh_9 => ?_)
          clear hh_5
          rw [hQ]
          exact W.vret hx hb hr (fun t ht hW => ⟨⟨(z_3, pp, 1, fu), rfl, by (try dsimp only); refine ⟨jjQe.no (jjE_n hc1 (by omega) (by have h9 := hi_5_0.m (by omega); omega)) (by omega), by omega, by omega, by omega, by omega, by omega, by omega, by omega⟩, ⟨hh_9.rt (M1 := [(r0, 16, 29, .int z_3), (r0, 16, 28, .int pp), (r0, 16, 31, .int 1)]) [1, 4, 0] rfl ht, by rw [ht]; exact hh_9.2.2.2.2.2.2.2.1.sub [1] rfl⟩⟩, by rw [ht]; try exact hh_9.1.1, fun q h9 hq => by rw [ht]; try exact hh_9.1.2.1 q h9 hq⟩) hh_9.1.2.2 dX14_escape_135
        · skip
          exact absurd c_8 (by decide)
      · skip
        have c_7' : r_2.toInt = 117 := jb_ne_n (rfl) ((by decide)) c_7
        refine lv_aload_n hx hb dX14_escape_103 rfl (lv_at hl 1 rfl) ?_
        refine va_calli (A0 := jA base) (H0 := s.heap) (va_runV (As := []) (rest := []) ⟨hx, hb, hml, hown, hts⟩ (uX14_fourJ l dC dI ca base B hB hAp hB16 hB110 G0 H_5 r0 z_3 pe kp_ pb fb) (cwV 0 hts (jgV (jWr_52 _ (List.mem_of_getElem? (i := 3) rfl)) (jWr_52 _ (List.mem_of_getElem? (i := 4) rfl)) (jWr_52 _ (List.mem_of_getElem? (i := 5) rfl)) (jWr_1 _ (List.mem_of_getElem? (i := 5) rfl)) (jWr_52 _ (List.mem_of_getElem? (i := 6) rfl))) rfl rfl rfl (by decide +kernel) ⟨by rw [← hR]; exact Nat.le_of_ble_eq_true rfl, by rw [← hR]; exact Nat.le_of_ble_eq_true rfl⟩) ⟨fun a U g mk q => by obtain ⟨q0, q1, q2, qK, q10, q11, q12, q13, q14⟩ := q; exact ⟨q0, q1, q2, jG.calling g mk a qK, q10, q11, q12, q13, q14⟩, hh_5.recv (C := RX14) (T := TX14) (N := 74) hB16 rfl (by decide) hg_r0 hK, fun U hU hW => ⟨rfl, hU, hh_5.2.1, hG.step hW hU hh_5.1, hg_r0, hg_kp_, (hh_5.2.2.1.sub (L1 := [(r0, 16, 29, .int z_3), (r0, 16, 30, .int pe), (r0, 16, 9, .ref kp_), (r0, 16, 31, .int pb)]) [0, 1, 2, 4] rfl), (hh_5.2.2.2.2.2.2.2.1.sub (L1 := [(kp_, 110, 3300, ca 1, fb)]) [0] rfl), ⟨(by first | omega | rfl | assumption | (have h9 := jjK.lt hr_2_0 (by omega); omega)), (by first | omega | rfl | assumption | (have h9 := jjK.lt hr_2_0 (by omega); omega)), (by first | omega | rfl | assumption | (have h9 := jjK.lt hr_2_0 (by omega); omega)), (by first | omega | rfl | assumption | (have h9 := jjK.lt hr_2_0 (by omega); omega)), (by first | omega | rfl | assumption | (have h9 := jjK.lt hr_2_0 (by omega); omega)), (by first | omega | rfl | assumption | (have h9 := jjK.lt hr_2_0 (by omega); omega))⟩⟩⟩ rfl rfl hl.1 rfl (lv_room (Nat.le_of_ble_eq_true rfl)) dX14_escape_104 ⟨Nat.zero_le _, Nat.zero_le _⟩) hh_5.1 (fun q _ h => h) (fun q h => h) (fun r_11 u_10 t_10 H_10 locs_10 ht_10 hvm_10 hr_11 hb_10 hz_10 hk_10 hS_10 => ?_)
        obtain ⟨qt_10, qb_10⟩ := u_10
        rw [ht_10] at hb_10
        obtain ⟨hb_101, hb_102, hb_103, hb_104, hb_105⟩ := hb_10
        have hh_10 : jSt (dC, dI) B base G0 G0 EX14_escapeJ s.heap 0 0 [(r0, 16, 29, .int qt_10), (r0, 16, 31, .int qb_10), (r0, 16, 30, .int pe), (r0, 16, 9, .ref kp_), (r0, 16, 28, .int pp), (r0, 16, 27, .ref xp)] [(kp_, 110, 3300, ca 1, fb), (xp, 127, 3300, ca 1, fu)] [] H_10 locs_10 := ((hh_5.call hb_101 hb_102 hb_103 hb_104 hS_10 rfl (L1 := [(r0, 16, 30, .int pe), (r0, 16, 9, .ref kp_), (r0, 16, 28, .int pp), (r0, 16, 27, .ref xp)]) [1, 2, 3, 5] rfl rfl (M1 := [(kp_, 110, 3300, ca 1, fb), (xp, 127, 3300, ca 1, fu)]) [0, 1] rfl rfl (I1 := []) [] rfl rfl).more hb_105)
        clear hh_5 ht_10 hvm_10 hz_10 hk_10 hS_10 hb_101 hb_102 hb_103 hb_104 hb_105
        try simp only at hr_11
        obtain ⟨hr_11_0, hr_11_1, hr_11_2, hr_11_3, hr_11_4, hr_11_5⟩ := hr_11
        refine lv_goto (tgt := 111) hx hb dX14_escape_107 (by decide) ?_
        refine lv_istore (lv' := [(4, .int r_11), (3, .int w0_5), (0, .ref r0), (1, .int r_2), (2, .ref str337)]) hx hb dX14_escape_111 hl (by decide) rfl (fun ls hl => ?_)
        refine lv_iload hx hb dX14_escape_113 (lv_at hl 0 rfl) ?_
        refine lv_if_lt (tgt := 130) hx hb dX14_escape_115 (by decide) (fun c_12 => ?_) (fun c_12 => ?_)
        · skip
          have c_12' : r_11.toInt < 0 := jb_lt (rfl) ((by decide)) c_12
          first | (have hr_11_5q := hr_11_5.resolve_left (by omega); clear hr_11_5) | (have hr_11_5q := hr_11_5.resolve_right (by omega); clear hr_11_5) | skip
          refine lv_aload_n hx hb dX14_escape_130 rfl (lv_at hl 2 rfl) ?_
          refine lv_iconst (v := 1) hx hb dX14_escape_131 (by decide) ?_
          refine j7_put hx hb hown hK hh_10 hB hAp hB16 (C := RX14) (T := TX14) (N := 74) rfl (by decide) hg_r0 (i := 31) (by decide) hly_16_31 rfl hlk_288 rfl (ty := .boolean) (v := .int 1) (by decide +kernel) (jb_nz (Or.inr rfl)) (jb_fz (Or.inr rfl)) (⟨_, rfl, (Or.inr rfl)⟩) rfl (L1 := [(r0, 16, 29, .int qt_10), (r0, 16, 30, .int pe), (r0, 16, 9, .ref kp_), (r0, 16, 28, .int pp), (r0, 16, 27, .ref xp)]) [0, 2, 3, 4, 5] rfl rfl rfl dX14_escape_132 (fun H_13 locs_13 hh_13 => ?_)
          clear hh_10
          rw [hQ]
          exact W.vret hx hb hr (fun t ht hW => ⟨⟨(qt_10, pp, 1, fu), rfl, by (try dsimp only); refine ⟨jjQe.no (by rw [jjE_u (by rw [← hc1]; omega) (p := z_3.toInt) (by omega)]; exact jjEu_n hr_11_0 (by omega)) (by omega), by omega, by omega, by omega, by omega, by omega, by omega, by omega⟩, ⟨hh_13.rt (M1 := [(r0, 16, 29, .int qt_10), (r0, 16, 28, .int pp), (r0, 16, 31, .int 1)]) [1, 4, 0] rfl ht, by rw [ht]; exact hh_13.2.2.2.2.2.2.2.1.sub [1] rfl⟩⟩, by rw [ht]; try exact hh_13.1.1, fun q h9 hq => by rw [ht]; try exact hh_13.1.2.1 q h9 hq⟩) hh_13.1.2.2 dX14_escape_135
        · skip
          have c_12' : r_11.toInt ≥ 0 := jb_lt_n (rfl) ((by decide)) c_12
          first | (have hr_11_5q := hr_11_5.resolve_left (by omega); clear hr_11_5) | (have hr_11_5q := hr_11_5.resolve_right (by omega); clear hr_11_5) | skip
          refine lv_iload hx hb dX14_escape_118 (lv_at hl 0 rfl) ?_
          refine lv_ldc hx hb hown hcs_185 dX14_escape_120 ?_
          refine lv_ldc hx hb hown hcs_186 dX14_escape_122 ?_
          refine va_calli (A0 := jA base) (H0 := s.heap) (va_runS (As := [.int r_11, .int 56320, .int 57343]) (rest := []) ⟨hx, hb, hml, hown, hts⟩ (uX14_in l dC dI ca base B hB hAp G0 H_10 r_11 56320 57343) (va_cwS 3 hts (jgS (jWr_48 _ (List.mem_of_getElem? (i := 10) rfl)) (jWr_48 _ (List.mem_of_getElem? (i := 11) rfl)) (jWr_1 _ (List.mem_of_getElem? (i := 5) rfl)) (jWr_48 _ (List.mem_of_getElem? (i := 12) rfl))) rfl rfl rfl (by decide +kernel) ⟨by rw [← hR]; exact Nat.le_of_ble_eq_true rfl, by rw [← hR]; exact Nat.le_of_ble_eq_true rfl⟩) ⟨fun a U g mk q => by obtain ⟨q0, q1, q2, qK, q10, q11⟩ := q; exact ⟨q0, q1, q2, jG.calling g mk a qK, q10, q11⟩, fun U hU hW => ⟨rfl, hU, hh_10.2.1, hG.step hW hU hh_10.1, jP.nil, trivial⟩⟩ rfl rfl hl.1 rfl (lv_room (Nat.le_of_ble_eq_true rfl)) dX14_escape_124 ⟨Nat.zero_le _, Nat.zero_le _⟩) hh_10.1 (fun q _ h => h) (fun q h => h) (fun r_15 u_14 t_14 H_14 locs_14 ht_14 hvm_14 hr_15 hb_14 hz_14 hk_14 hS_14 => ?_)
          rw [ht_14] at hb_14
          obtain ⟨hb_141, hb_142, hb_143, hb_144, hb_145⟩ := hb_14
          have hh_14 : jSt (dC, dI) B base G0 G0 EX14_escapeJ s.heap 0 0 [(r0, 16, 29, .int qt_10), (r0, 16, 31, .int qb_10), (r0, 16, 30, .int pe), (r0, 16, 9, .ref kp_), (r0, 16, 28, .int pp), (r0, 16, 27, .ref xp)] [(kp_, 110, 3300, ca 1, fb), (xp, 127, 3300, ca 1, fu)] [] H_14 locs_14 := ((hh_10.call hb_141 hb_142 hb_143 hb_144 hS_14 rfl (L1 := [(r0, 16, 29, .int qt_10), (r0, 16, 31, .int qb_10), (r0, 16, 30, .int pe), (r0, 16, 9, .ref kp_), (r0, 16, 28, .int pp), (r0, 16, 27, .ref xp)]) [0, 1, 2, 3, 4, 5] rfl rfl (M1 := [(kp_, 110, 3300, ca 1, fb), (xp, 127, 3300, ca 1, fu)]) [0, 1] rfl rfl (I1 := []) [] rfl rfl).more hb_145)
          clear hh_10 ht_14 hvm_14 hz_14 hk_14 hS_14 hb_141 hb_142 hb_143 hb_144 hb_145
          obtain ⟨hr_15b, hr_15p⟩ := hr_15
          obtain ⟨hr_15p_0, hr_15p_1, hr_15p_2⟩ := hr_15p
          have hr_15' := jb_01 hr_15b
          have hi1 := jIn.or r_11.toInt (56320 : Int32).toInt (57343 : Int32).toInt
          refine lv_if_eq (tgt := 136) hx hb dX14_escape_127 (by decide) (fun c_16 => ?_) (fun c_16 => ?_)
          · skip
            have c_16' : r_15.toInt = 0 := jb_eq (rfl) ((by decide)) c_16
            first | (have hr_11_5q := hr_11_5.resolve_left (by omega); clear hr_11_5) | (have hr_11_5q := hr_11_5.resolve_right (by omega); clear hr_11_5) | skip
            refine lv_iload hx hb dX14_escape_136 (lv_at hl 0 rfl) ?_
            refine lv_ldc hx hb hown hcs_179 dX14_escape_138 ?_
            refine lv_ldc hx hb hown hcs_180 dX14_escape_140 ?_
            refine va_calli (A0 := jA base) (H0 := s.heap) (va_runS (As := [.int r_11, .int 55296, .int 56319]) (rest := []) ⟨hx, hb, hml, hown, hts⟩ (uX14_in l dC dI ca base B hB hAp G0 H_14 r_11 55296 56319) (va_cwS 3 hts (jgS (jWr_48 _ (List.mem_of_getElem? (i := 10) rfl)) (jWr_48 _ (List.mem_of_getElem? (i := 11) rfl)) (jWr_1 _ (List.mem_of_getElem? (i := 5) rfl)) (jWr_48 _ (List.mem_of_getElem? (i := 12) rfl))) rfl rfl rfl (by decide +kernel) ⟨by rw [← hR]; exact Nat.le_of_ble_eq_true rfl, by rw [← hR]; exact Nat.le_of_ble_eq_true rfl⟩) ⟨fun a U g mk q => by obtain ⟨q0, q1, q2, qK, q10, q11⟩ := q; exact ⟨q0, q1, q2, jG.calling g mk a qK, q10, q11⟩, fun U hU hW => ⟨rfl, hU, hh_14.2.1, hG.step hW hU hh_14.1, jP.nil, trivial⟩⟩ rfl rfl hl.1 rfl (lv_room (Nat.le_of_ble_eq_true rfl)) dX14_escape_142 ⟨Nat.zero_le _, Nat.zero_le _⟩) hh_14.1 (fun q _ h => h) (fun q h => h) (fun r_18 u_17 t_17 H_17 locs_17 ht_17 hvm_17 hr_18 hb_17 hz_17 hk_17 hS_17 => ?_)
            rw [ht_17] at hb_17
            obtain ⟨hb_171, hb_172, hb_173, hb_174, hb_175⟩ := hb_17
            have hh_17 : jSt (dC, dI) B base G0 G0 EX14_escapeJ s.heap 0 0 [(r0, 16, 29, .int qt_10), (r0, 16, 31, .int qb_10), (r0, 16, 30, .int pe), (r0, 16, 9, .ref kp_), (r0, 16, 28, .int pp), (r0, 16, 27, .ref xp)] [(kp_, 110, 3300, ca 1, fb), (xp, 127, 3300, ca 1, fu)] [] H_17 locs_17 := ((hh_14.call hb_171 hb_172 hb_173 hb_174 hS_17 rfl (L1 := [(r0, 16, 29, .int qt_10), (r0, 16, 31, .int qb_10), (r0, 16, 30, .int pe), (r0, 16, 9, .ref kp_), (r0, 16, 28, .int pp), (r0, 16, 27, .ref xp)]) [0, 1, 2, 3, 4, 5] rfl rfl (M1 := [(kp_, 110, 3300, ca 1, fb), (xp, 127, 3300, ca 1, fu)]) [0, 1] rfl rfl (I1 := []) [] rfl rfl).more hb_175)
            clear hh_14 ht_17 hvm_17 hz_17 hk_17 hS_17 hb_171 hb_172 hb_173 hb_174 hb_175
            obtain ⟨hr_18b, hr_18p⟩ := hr_18
            obtain ⟨hr_18p_0, hr_18p_1, hr_18p_2⟩ := hr_18p
            have hr_18' := jb_01 hr_18b
            have hi2 := jIn.or r_11.toInt (55296 : Int32).toInt (56319 : Int32).toInt
            refine lv_if_ne (tgt := 155) hx hb dX14_escape_145 (by decide) (fun c_19 => ?_) (fun c_19 => ?_)
            · skip
              have c_19' : r_18.toInt ≠ 0 := jb_ne (rfl) ((by decide)) c_19
              first | (have hr_11_5q := hr_11_5.resolve_left (by omega); clear hr_11_5) | (have hr_11_5q := hr_11_5.resolve_right (by omega); clear hr_11_5) | skip
              refine lv_aload_n hx hb dX14_escape_155 rfl (lv_at hl 2 rfl) ?_
              refine j_ldcSw hx hb hown rstr348 dX14_escape_156 ?_
              refine va_calli (A0 := jA base) (H0 := s.heap) (va_runV (As := [.ref str348]) (rest := []) ⟨hx, hb, hml, hown, hts⟩ (uX14_takesJ l dC dI ca base B hB hAp hB16 hB110 G0 H_17 r0 str348 2 (jChT "\\u") qt_10 pe kp_ fb) (cwV 1 hts (jgV (jWr_52 _ (List.mem_of_getElem? (i := 10) rfl)) (jWr_52 _ (List.mem_of_getElem? (i := 11) rfl)) (jWr_52 _ (List.mem_of_getElem? (i := 12) rfl)) (jWr_1 _ (List.mem_of_getElem? (i := 5) rfl)) (jWr_52 _ (List.mem_of_getElem? (i := 13) rfl))) rfl rfl rfl (by decide +kernel) ⟨by rw [← hR]; exact Nat.le_of_ble_eq_true rfl, by rw [← hR]; exact Nat.le_of_ble_eq_true rfl⟩) ⟨fun a U g mk q => by obtain ⟨q0, q1, q2, qK, q10, q11, q12, q13, q14, q15⟩ := q; exact ⟨q0, q1, q2, jG.calling g mk a qK, (q10.moved (Vm.Alike.refl U.vm)), q11, q12, q13, q14, q15⟩, hh_17.recv (C := RX14) (T := TX14) (N := 74) hB16 rfl (by decide) hg_r0 hK, fun U hU hW => ⟨rfl, hU, hh_17.2.1, hG.step hW hU hh_17.1, (hTstr348.moved hW.alike).kept hh_17.1.2.1, hg_r0, hg_kp_, (hh_17.2.2.1.sub (L1 := [(r0, 16, 29, .int qt_10), (r0, 16, 30, .int pe), (r0, 16, 9, .ref kp_)]) [0, 2, 3] rfl), (hh_17.2.2.2.2.2.2.2.1.sub (L1 := [(kp_, 110, 3300, ca 1, fb)]) [0] rfl), ⟨(by first | omega | rfl | assumption | exact jjAs_u), (by first | omega | rfl | assumption | exact jjAs_u), (by first | omega | rfl | assumption | exact jjAs_u), (by first | omega | rfl | assumption | exact jjAs_u), (by first | omega | rfl | assumption | exact jjAs_u), (by first | omega | rfl | assumption | exact jjAs_u), (by first | omega | rfl | assumption | exact jjAs_u), (by first | assumption | exact jjAs_u | omega)⟩⟩⟩ rfl rfl hl.1 rfl (lv_room (Nat.le_of_ble_eq_true rfl)) dX14_escape_159 ⟨Nat.zero_le _, Nat.zero_le _⟩) hh_17.1 (fun q _ h => h) (fun q h => h) (fun r_21 u_20 t_20 H_20 locs_20 ht_20 hvm_20 hr_21 hb_20 hz_20 hk_20 hS_20 => ?_)
              obtain ⟨qt_20, rfl⟩ : ∃ z, z = u_20 := ⟨_, rfl⟩
              rw [ht_20] at hb_20
              obtain ⟨hb_201, hb_202, hb_203, hb_204, hb_205⟩ := hb_20
              have hh_20 : jSt (dC, dI) B base G0 G0 EX14_escapeJ s.heap 0 0 [(r0, 16, 29, .int qt_20), (r0, 16, 31, .int qb_10), (r0, 16, 30, .int pe), (r0, 16, 9, .ref kp_), (r0, 16, 28, .int pp), (r0, 16, 27, .ref xp)] [(kp_, 110, 3300, ca 1, fb), (xp, 127, 3300, ca 1, fu)] [] H_20 locs_20 := ((hh_17.call hb_201 hb_202 hb_203 hb_204 hS_20 rfl (L1 := [(r0, 16, 31, .int qb_10), (r0, 16, 30, .int pe), (r0, 16, 9, .ref kp_), (r0, 16, 28, .int pp), (r0, 16, 27, .ref xp)]) [1, 2, 3, 4, 5] rfl rfl (M1 := [(kp_, 110, 3300, ca 1, fb), (xp, 127, 3300, ca 1, fu)]) [0, 1] rfl rfl (I1 := []) [] rfl rfl).more hb_205)
              clear hh_17 ht_20 hvm_20 hz_20 hk_20 hS_20 hb_201 hb_202 hb_203 hb_204 hb_205
              obtain ⟨hr_21b, hr_21p⟩ := hr_21
              obtain ⟨hr_21p_0, hr_21p_1⟩ := hr_21p
              have hr_21' := jb_01 hr_21b
              refine lv_if_eq (tgt := 172) hx hb dX14_escape_162 (by decide) (fun c_22 => ?_) (fun c_22 => ?_)
              · skip
                have c_22' : r_21.toInt = 0 := jb_eq (rfl) ((by decide)) c_22
                first | (have hr_21p_1q := hr_21p_1.resolve_left (by omega); clear hr_21p_1) | (have hr_21p_1q := hr_21p_1.resolve_right (by omega); clear hr_21p_1) | skip
                refine lv_iconst (v := (-1)) hx hb dX14_escape_172 (by decide) ?_
                refine lv_istore (lv' := [(5, .int (-1)), (4, .int r_11), (3, .int w0_5), (0, .ref r0), (1, .int r_2), (2, .ref str337)]) hx hb dX14_escape_173 hl (by decide) rfl (fun ls hl => ?_)
                refine lv_iload hx hb dX14_escape_175 (lv_at hl 0 rfl) ?_
                refine lv_ldc hx hb hown hcs_185 dX14_escape_177 ?_
                refine lv_ldc hx hb hown hcs_186 dX14_escape_179 ?_
                refine va_calli (A0 := jA base) (H0 := s.heap) (va_runS (As := [.int (-1), .int 56320, .int 57343]) (rest := []) ⟨hx, hb, hml, hown, hts⟩ (uX14_in l dC dI ca base B hB hAp G0 H_20 (-1) 56320 57343) (va_cwS 3 hts (jgS (jWr_48 _ (List.mem_of_getElem? (i := 10) rfl)) (jWr_48 _ (List.mem_of_getElem? (i := 11) rfl)) (jWr_1 _ (List.mem_of_getElem? (i := 5) rfl)) (jWr_48 _ (List.mem_of_getElem? (i := 12) rfl))) rfl rfl rfl (by decide +kernel) ⟨by rw [← hR]; exact Nat.le_of_ble_eq_true rfl, by rw [← hR]; exact Nat.le_of_ble_eq_true rfl⟩) ⟨fun a U g mk q => by obtain ⟨q0, q1, q2, qK, q10, q11⟩ := q; exact ⟨q0, q1, q2, jG.calling g mk a qK, q10, q11⟩, fun U hU hW => ⟨rfl, hU, hh_20.2.1, hG.step hW hU hh_20.1, jP.nil, trivial⟩⟩ rfl rfl hl.1 rfl (lv_room (Nat.le_of_ble_eq_true rfl)) dX14_escape_181 ⟨Nat.zero_le _, Nat.zero_le _⟩) hh_20.1 (fun q _ h => h) (fun q h => h) (fun r_24 u_23 t_23 H_23 locs_23 ht_23 hvm_23 hr_24 hb_23 hz_23 hk_23 hS_23 => ?_)
                rw [ht_23] at hb_23
                obtain ⟨hb_231, hb_232, hb_233, hb_234, hb_235⟩ := hb_23
                have hh_23 : jSt (dC, dI) B base G0 G0 EX14_escapeJ s.heap 0 0 [(r0, 16, 29, .int qt_20), (r0, 16, 31, .int qb_10), (r0, 16, 30, .int pe), (r0, 16, 9, .ref kp_), (r0, 16, 28, .int pp), (r0, 16, 27, .ref xp)] [(kp_, 110, 3300, ca 1, fb), (xp, 127, 3300, ca 1, fu)] [] H_23 locs_23 := ((hh_20.call hb_231 hb_232 hb_233 hb_234 hS_23 rfl (L1 := [(r0, 16, 29, .int qt_20), (r0, 16, 31, .int qb_10), (r0, 16, 30, .int pe), (r0, 16, 9, .ref kp_), (r0, 16, 28, .int pp), (r0, 16, 27, .ref xp)]) [0, 1, 2, 3, 4, 5] rfl rfl (M1 := [(kp_, 110, 3300, ca 1, fb), (xp, 127, 3300, ca 1, fu)]) [0, 1] rfl rfl (I1 := []) [] rfl rfl).more hb_235)
                clear hh_20 ht_23 hvm_23 hz_23 hk_23 hS_23 hb_231 hb_232 hb_233 hb_234 hb_235
                obtain ⟨hr_24b, hr_24p⟩ := hr_24
                obtain ⟨hr_24p_0, hr_24p_1, hr_24p_2⟩ := hr_24p
                have hr_24' := jb_01 hr_24b
                have hi3 := jIn.or (-1 : Int32).toInt (56320 : Int32).toInt (57343 : Int32).toInt
                refine lv_if_ne (tgt := 193) hx hb dX14_escape_184 (by decide) (fun c_25 => ?_) (fun c_25 => ?_)
                · skip
                  have c_25' : r_24.toInt ≠ 0 := jb_ne (rfl) ((by decide)) c_25
                  exact (by omega : False).elim
                · skip
                  have c_25' : r_24.toInt = 0 := jb_ne_n (rfl) ((by decide)) c_25
                  refine lv_aload_n hx hb dX14_escape_187 rfl (lv_at hl 3 rfl) ?_
                  refine lv_iconst (v := 1) hx hb dX14_escape_188 (by decide) ?_
                  refine j7_put hx hb hown hK hh_23 hB hAp hB16 (C := RX14) (T := TX14) (N := 74) rfl (by decide) hg_r0 (i := 31) (by decide) hly_16_31 rfl hlk_288 rfl (ty := .boolean) (v := .int 1) (by decide +kernel) (jb_nz (Or.inr rfl)) (jb_fz (Or.inr rfl)) (⟨_, rfl, (Or.inr rfl)⟩) rfl (L1 := [(r0, 16, 29, .int qt_20), (r0, 16, 30, .int pe), (r0, 16, 9, .ref kp_), (r0, 16, 28, .int pp), (r0, 16, 27, .ref xp)]) [0, 2, 3, 4, 5] rfl rfl rfl dX14_escape_189 (fun H_26 locs_26 hh_26 => ?_)
                  clear hh_23
                  rw [hQ]
                  exact W.vret hx hb hr (fun t ht hW => ⟨⟨(qt_20, pp, 1, fu), rfl, by (try dsimp only); refine ⟨jjQe.no (by rw [jjE_u (by rw [← hc1]; omega) (p := z_3.toInt) (by omega)]; exact jjEu_x hr_11_0 (by omega) (by omega) (p4 := qt_10.toInt) (by omega) (Or.inl (by rw [← hr_21p_0]; omega))) (by omega), by omega, by omega, by omega, by omega, by omega, by omega, by omega⟩, ⟨hh_26.rt (M1 := [(r0, 16, 29, .int qt_20), (r0, 16, 28, .int pp), (r0, 16, 31, .int 1)]) [1, 4, 0] rfl ht, by rw [ht]; exact hh_26.2.2.2.2.2.2.2.1.sub [1] rfl⟩⟩, by rw [ht]; try exact hh_26.1.1, fun q h9 hq => by rw [ht]; try exact hh_26.1.2.1 q h9 hq⟩) hh_26.1.2.2 dX14_escape_192
              · skip
                have c_22' : r_21.toInt ≠ 0 := jb_eq_n (rfl) ((by decide)) c_22
                first | (have hr_21p_1q := hr_21p_1.resolve_left (by omega); clear hr_21p_1) | (have hr_21p_1q := hr_21p_1.resolve_right (by omega); clear hr_21p_1) | skip
                refine lv_aload_n hx hb dX14_escape_165 rfl (lv_at hl 2 rfl) ?_
                refine va_calli (A0 := jA base) (H0 := s.heap) (va_runV (As := []) (rest := []) ⟨hx, hb, hml, hown, hts⟩ (uX14_fourJ l dC dI ca base B hB hAp hB16 hB110 G0 H_20 r0 qt_20 pe kp_ qb_10 fb) (cwV 0 hts (jgV (jWr_52 _ (List.mem_of_getElem? (i := 3) rfl)) (jWr_52 _ (List.mem_of_getElem? (i := 4) rfl)) (jWr_52 _ (List.mem_of_getElem? (i := 5) rfl)) (jWr_1 _ (List.mem_of_getElem? (i := 5) rfl)) (jWr_52 _ (List.mem_of_getElem? (i := 6) rfl))) rfl rfl rfl (by decide +kernel) ⟨by rw [← hR]; exact Nat.le_of_ble_eq_true rfl, by rw [← hR]; exact Nat.le_of_ble_eq_true rfl⟩) ⟨fun a U g mk q => by obtain ⟨q0, q1, q2, qK, q10, q11, q12, q13, q14⟩ := q; exact ⟨q0, q1, q2, jG.calling g mk a qK, q10, q11, q12, q13, q14⟩, hh_20.recv (C := RX14) (T := TX14) (N := 74) hB16 rfl (by decide) hg_r0 hK, fun U hU hW => ⟨rfl, hU, hh_20.2.1, hG.step hW hU hh_20.1, hg_r0, hg_kp_, (hh_20.2.2.1.sub (L1 := [(r0, 16, 29, .int qt_20), (r0, 16, 30, .int pe), (r0, 16, 9, .ref kp_), (r0, 16, 31, .int qb_10)]) [0, 2, 3, 1] rfl), (hh_20.2.2.2.2.2.2.2.1.sub (L1 := [(kp_, 110, 3300, ca 1, fb)]) [0] rfl), by first | omega | (refine ⟨?_, ?_, ?_, ?_, ?_, ?_⟩ <;> (first | omega | rfl | assumption | decide | exact Or.inl rfl | exact Or.inr rfl | (simp only; omega)))⟩⟩ rfl rfl hl.1 rfl (lv_room (Nat.le_of_ble_eq_true rfl)) dX14_escape_166 ⟨Nat.zero_le _, Nat.zero_le _⟩) hh_20.1 (fun q _ h => h) (fun q h => h) (fun r_28 u_27 t_27 H_27 locs_27 ht_27 hvm_27 hr_28 hb_27 hz_27 hk_27 hS_27 => ?_)
                obtain ⟨qt_27, qb_27⟩ := u_27
                rw [ht_27] at hb_27
                obtain ⟨hb_271, hb_272, hb_273, hb_274, hb_275⟩ := hb_27
                have hh_27 : jSt (dC, dI) B base G0 G0 EX14_escapeJ s.heap 0 0 [(r0, 16, 29, .int qt_27), (r0, 16, 31, .int qb_27), (r0, 16, 30, .int pe), (r0, 16, 9, .ref kp_), (r0, 16, 28, .int pp), (r0, 16, 27, .ref xp)] [(kp_, 110, 3300, ca 1, fb), (xp, 127, 3300, ca 1, fu)] [] H_27 locs_27 := ((hh_20.call hb_271 hb_272 hb_273 hb_274 hS_27 rfl (L1 := [(r0, 16, 30, .int pe), (r0, 16, 9, .ref kp_), (r0, 16, 28, .int pp), (r0, 16, 27, .ref xp)]) [2, 3, 4, 5] rfl rfl (M1 := [(kp_, 110, 3300, ca 1, fb), (xp, 127, 3300, ca 1, fu)]) [0, 1] rfl rfl (I1 := []) [] rfl rfl).more hb_275)
                clear hh_20 ht_27 hvm_27 hz_27 hk_27 hS_27 hb_271 hb_272 hb_273 hb_274 hb_275
                try simp only at hr_28
                obtain ⟨hr_28_0, hr_28_1, hr_28_2, hr_28_3, hr_28_4, hr_28_5⟩ := hr_28
                refine lv_goto (tgt := 173) hx hb dX14_escape_169 (by decide) ?_
                refine lv_istore (lv' := [(5, .int r_28), (4, .int r_11), (3, .int w0_5), (0, .ref r0), (1, .int r_2), (2, .ref str337)]) hx hb dX14_escape_173 hl (by decide) rfl (fun ls hl => ?_)
                refine lv_iload hx hb dX14_escape_175 (lv_at hl 0 rfl) ?_
                refine lv_ldc hx hb hown hcs_185 dX14_escape_177 ?_
                refine lv_ldc hx hb hown hcs_186 dX14_escape_179 ?_
                refine va_calli (A0 := jA base) (H0 := s.heap) (va_runS (As := [.int r_28, .int 56320, .int 57343]) (rest := []) ⟨hx, hb, hml, hown, hts⟩ (uX14_in l dC dI ca base B hB hAp G0 H_27 r_28 56320 57343) (va_cwS 3 hts (jgS (jWr_48 _ (List.mem_of_getElem? (i := 10) rfl)) (jWr_48 _ (List.mem_of_getElem? (i := 11) rfl)) (jWr_1 _ (List.mem_of_getElem? (i := 5) rfl)) (jWr_48 _ (List.mem_of_getElem? (i := 12) rfl))) rfl rfl rfl (by decide +kernel) ⟨by rw [← hR]; exact Nat.le_of_ble_eq_true rfl, by rw [← hR]; exact Nat.le_of_ble_eq_true rfl⟩) ⟨fun a U g mk q => by obtain ⟨q0, q1, q2, qK, q10, q11⟩ := q; exact ⟨q0, q1, q2, jG.calling g mk a qK, q10, q11⟩, fun U hU hW => ⟨rfl, hU, hh_27.2.1, hG.step hW hU hh_27.1, jP.nil, trivial⟩⟩ rfl rfl hl.1 rfl (lv_room (Nat.le_of_ble_eq_true rfl)) dX14_escape_181 ⟨Nat.zero_le _, Nat.zero_le _⟩) hh_27.1 (fun q _ h => h) (fun q h => h) (fun r_30 u_29 t_29 H_29 locs_29 ht_29 hvm_29 hr_30 hb_29 hz_29 hk_29 hS_29 => ?_)
                rw [ht_29] at hb_29
                obtain ⟨hb_291, hb_292, hb_293, hb_294, hb_295⟩ := hb_29
                have hh_29 : jSt (dC, dI) B base G0 G0 EX14_escapeJ s.heap 0 0 [(r0, 16, 29, .int qt_27), (r0, 16, 31, .int qb_27), (r0, 16, 30, .int pe), (r0, 16, 9, .ref kp_), (r0, 16, 28, .int pp), (r0, 16, 27, .ref xp)] [(kp_, 110, 3300, ca 1, fb), (xp, 127, 3300, ca 1, fu)] [] H_29 locs_29 := ((hh_27.call hb_291 hb_292 hb_293 hb_294 hS_29 rfl (L1 := [(r0, 16, 29, .int qt_27), (r0, 16, 31, .int qb_27), (r0, 16, 30, .int pe), (r0, 16, 9, .ref kp_), (r0, 16, 28, .int pp), (r0, 16, 27, .ref xp)]) [0, 1, 2, 3, 4, 5] rfl rfl (M1 := [(kp_, 110, 3300, ca 1, fb), (xp, 127, 3300, ca 1, fu)]) [0, 1] rfl rfl (I1 := []) [] rfl rfl).more hb_295)
                clear hh_27 ht_29 hvm_29 hz_29 hk_29 hS_29 hb_291 hb_292 hb_293 hb_294 hb_295
                obtain ⟨hr_30b, hr_30p⟩ := hr_30
                obtain ⟨hr_30p_0, hr_30p_1, hr_30p_2⟩ := hr_30p
                have hr_30' := jb_01 hr_30b
                have hi3 := jIn.or r_28.toInt (56320 : Int32).toInt (57343 : Int32).toInt
                refine lv_if_ne (tgt := 193) hx hb dX14_escape_184 (by decide) (fun c_31 => ?_) (fun c_31 => ?_)
                · skip
                  have c_31' : r_30.toInt ≠ 0 := jb_ne (rfl) ((by decide)) c_31
                  first | (have hr_28_5q := hr_28_5.resolve_left (by omega); clear hr_28_5) | (have hr_28_5q := hr_28_5.resolve_right (by omega); clear hr_28_5) | skip
                  refine lv_aload_n hx hb dX14_escape_193 rfl (lv_at hl 3 rfl) ?_
                  refine lv_iload hx hb dX14_escape_194 (lv_at hl 1 rfl) ?_
                  refine va_callv (A0 := jA base) (H0 := s.heap) (va_runV (As := [.int r_11]) (rest := []) ⟨hx, hb, hml, hown, hts⟩ (uX14_unitJ l dC dI ca base B hB hAp hB16 hB127 G0 H_29 r0 r_11 pp xp fu) (cwV 1 hts (jgV (jWr_51 _ (List.mem_of_getElem? (i := 21) rfl)) (jWr_51 _ (List.mem_of_getElem? (i := 22) rfl)) (jWr_51 _ (List.mem_of_getElem? (i := 23) rfl)) (jWr_1 _ (List.mem_of_getElem? (i := 5) rfl)) (jWr_52 _ (List.mem_of_getElem? (i := 0) rfl))) rfl rfl rfl (by decide +kernel) ⟨by rw [← hR]; exact Nat.le_of_ble_eq_true rfl, by rw [← hR]; exact Nat.le_of_ble_eq_true rfl⟩) ⟨fun a U g mk q => by obtain ⟨q0, q1, q2, qK, q10, q11, q12, q13, q14⟩ := q; exact ⟨q0, q1, q2, jG.calling g mk a qK, q10, q11, q12, q13, q14⟩, hh_29.recv (C := RX14) (T := TX14) (N := 74) hB16 rfl (by decide) hg_r0 hK, fun U hU hW => ⟨rfl, hU, hh_29.2.1, hG.step hW hU hh_29.1, hg_r0, hg_xp, (hh_29.2.2.1.sub (L1 := [(r0, 16, 28, .int pp), (r0, 16, 27, .ref xp)]) [4, 5] rfl), (hh_29.2.2.2.2.2.2.2.1.sub (L1 := [(xp, 127, 3300, ca 1, fu)]) [1] rfl), by first | omega | (refine ⟨?_, ?_, ?_, ?_⟩ <;> (first | omega | rfl | assumption | decide | exact Or.inl rfl | exact Or.inr rfl | (simp only; omega)))⟩⟩ rfl rfl hl.1 rfl (lv_room (Nat.le_of_ble_eq_true rfl)) dX14_escape_196 ⟨Nat.zero_le _, Nat.zero_le _⟩) hh_29.1 (fun q _ h => h) (fun q h => h) (fun u_32 t_32 H_32 locs_32 ht_32 hvm_32 hr_33 hb_32 hz_32 hk_32 hS_32 => ?_)
                  obtain ⟨qp_32, gu_32⟩ := u_32
                  rw [ht_32] at hb_32
                  obtain ⟨⟨hb_321, hb_322, hb_323, hb_324, hb_325⟩, hb_326⟩ := hb_32
                  have hh_32 : jSt (dC, dI) B base G0 G0 EX14_escapeJ s.heap 0 0 [(r0, 16, 28, .int qp_32), (r0, 16, 29, .int qt_27), (r0, 16, 31, .int qb_27), (r0, 16, 30, .int pe), (r0, 16, 9, .ref kp_), (r0, 16, 27, .ref xp)] [(xp, 127, 3300, ca 1, gu_32), (kp_, 110, 3300, ca 1, fb)] [] H_32 locs_32 := ((hh_29.call hb_321 hb_322 hb_323 hb_324 hS_32 rfl (L1 := [(r0, 16, 29, .int qt_27), (r0, 16, 31, .int qb_27), (r0, 16, 30, .int pe), (r0, 16, 9, .ref kp_), (r0, 16, 27, .ref xp)]) [0, 1, 2, 3, 5] rfl rfl (M1 := [(kp_, 110, 3300, ca 1, fb)]) [0] rfl rfl (I1 := []) [] rfl rfl).more hb_325).moreM hb_326
                  clear hh_29 ht_32 hvm_32 hz_32 hk_32 hS_32 hb_321 hb_322 hb_323 hb_324 hb_325
                  clear hb_326
                  try simp only at hr_33
                  refine lv_aload_n hx hb dX14_escape_199 rfl (lv_at hl 3 rfl) ?_
                  refine lv_iload hx hb dX14_escape_200 (lv_at hl 0 rfl) ?_
                  refine va_callv (A0 := jA base) (H0 := s.heap) (va_runV (As := [.int r_28]) (rest := []) ⟨hx, hb, hml, hown, hts⟩ (uX14_unitJ l dC dI ca base B hB hAp hB16 hB127 G0 H_32 r0 r_28 qp_32 xp gu_32) (cwV 1 hts (jgV (jWr_51 _ (List.mem_of_getElem? (i := 21) rfl)) (jWr_51 _ (List.mem_of_getElem? (i := 22) rfl)) (jWr_51 _ (List.mem_of_getElem? (i := 23) rfl)) (jWr_1 _ (List.mem_of_getElem? (i := 5) rfl)) (jWr_52 _ (List.mem_of_getElem? (i := 0) rfl))) rfl rfl rfl (by decide +kernel) ⟨by rw [← hR]; exact Nat.le_of_ble_eq_true rfl, by rw [← hR]; exact Nat.le_of_ble_eq_true rfl⟩) ⟨fun a U g mk q => by obtain ⟨q0, q1, q2, qK, q10, q11, q12, q13, q14⟩ := q; exact ⟨q0, q1, q2, jG.calling g mk a qK, q10, q11, q12, q13, q14⟩, hh_32.recv (C := RX14) (T := TX14) (N := 74) hB16 rfl (by decide) hg_r0 hK, fun U hU hW => ⟨rfl, hU, hh_32.2.1, hG.step hW hU hh_32.1, hg_r0, hg_xp, (hh_32.2.2.1.sub (L1 := [(r0, 16, 28, .int qp_32), (r0, 16, 27, .ref xp)]) [0, 5] rfl), (hh_32.2.2.2.2.2.2.2.1.sub (L1 := [(xp, 127, 3300, ca 1, gu_32)]) [0] rfl), by first | omega | (refine ⟨?_, ?_, ?_, ?_⟩ <;> (first | omega | rfl | assumption | decide | exact Or.inl rfl | exact Or.inr rfl | (simp only; omega)))⟩⟩ rfl rfl hl.1 rfl (lv_room (Nat.le_of_ble_eq_true rfl)) dX14_escape_202 ⟨Nat.zero_le _, Nat.zero_le _⟩) hh_32.1 (fun q _ h => h) (fun q h => h) (fun u_34 t_34 H_34 locs_34 ht_34 hvm_34 hr_35 hb_34 hz_34 hk_34 hS_34 => ?_)
                  obtain ⟨qp_34, gu_34⟩ := u_34
                  rw [ht_34] at hb_34
                  obtain ⟨⟨hb_341, hb_342, hb_343, hb_344, hb_345⟩, hb_346⟩ := hb_34
                  have hh_34 : jSt (dC, dI) B base G0 G0 EX14_escapeJ s.heap 0 0 [(r0, 16, 28, .int qp_34), (r0, 16, 29, .int qt_27), (r0, 16, 31, .int qb_27), (r0, 16, 30, .int pe), (r0, 16, 9, .ref kp_), (r0, 16, 27, .ref xp)] [(xp, 127, 3300, ca 1, gu_34), (kp_, 110, 3300, ca 1, fb)] [] H_34 locs_34 := ((hh_32.call hb_341 hb_342 hb_343 hb_344 hS_34 rfl (L1 := [(r0, 16, 29, .int qt_27), (r0, 16, 31, .int qb_27), (r0, 16, 30, .int pe), (r0, 16, 9, .ref kp_), (r0, 16, 27, .ref xp)]) [1, 2, 3, 4, 5] rfl rfl (M1 := [(kp_, 110, 3300, ca 1, fb)]) [1] rfl rfl (I1 := []) [] rfl rfl).more hb_345).moreM hb_346
                  clear hh_32 ht_34 hvm_34 hz_34 hk_34 hS_34 hb_341 hb_342 hb_343 hb_344 hb_345
                  clear hb_346
                  try simp only at hr_35
                  rw [hQ]
                  exact W.vret hx hb hr (fun t ht hW => ⟨⟨(qt_27, qp_34, qb_27, gu_34), rfl, by (try dsimp only); have hu1 := (hr_33.resolve_left (fun h9 => by omega)); have hu2 := (hr_35.resolve_left (fun h9 => by omega)); refine ⟨jjQe.two (by rw [show qt_27.toInt - pt.toInt + 1 = 12 by omega]; exact (jjE_u (by rw [← hc1]; omega) (p := z_3.toInt) (by omega)).trans (jjEu_2 hr_11_0 (by omega) (by omega) (p4 := qt_10.toInt) (by omega) (by rw [← hr_21p_0]; omega) (p6 := qt_20.toInt) (by omega) hr_28_0 (by omega) (by omega))) (by omega) (by omega) ((hu2.2.2.2 _ (by omega) (by omega)).trans hu1.2.2.1) (jSoA hu2.2.2.1 (by omega)) (hu1.2.2.2.tr hu2.2.2.2 (by omega)), by omega, by omega, by omega, by omega, by omega, by omega, by omega⟩, ⟨hh_34.rt (M1 := [(r0, 16, 29, .int qt_27), (r0, 16, 28, .int qp_34), (r0, 16, 31, .int qb_27)]) [1, 0, 2] rfl ht, by rw [ht]; exact hh_34.2.2.2.2.2.2.2.1.sub [0] rfl⟩⟩, by rw [ht]; try exact hh_34.1.1, fun q h9 hq => by rw [ht]; try exact hh_34.1.2.1 q h9 hq⟩) hh_34.1.2.2 dX14_escape_205
                · skip
                  have c_31' : r_30.toInt = 0 := jb_ne_n (rfl) ((by decide)) c_31
                  first | (have hr_28_5q := hr_28_5.resolve_left (by omega); clear hr_28_5) | (have hr_28_5q := hr_28_5.resolve_right (by omega); clear hr_28_5) | skip
                  refine lv_aload_n hx hb dX14_escape_187 rfl (lv_at hl 3 rfl) ?_
                  refine lv_iconst (v := 1) hx hb dX14_escape_188 (by decide) ?_
                  refine j7_put hx hb hown hK hh_29 hB hAp hB16 (C := RX14) (T := TX14) (N := 74) rfl (by decide) hg_r0 (i := 31) (by decide) hly_16_31 rfl hlk_288 rfl (ty := .boolean) (v := .int 1) (by decide +kernel) (jb_nz (Or.inr rfl)) (jb_fz (Or.inr rfl)) (⟨_, rfl, (Or.inr rfl)⟩) rfl (L1 := [(r0, 16, 29, .int qt_27), (r0, 16, 30, .int pe), (r0, 16, 9, .ref kp_), (r0, 16, 28, .int pp), (r0, 16, 27, .ref xp)]) [0, 2, 3, 4, 5] rfl rfl rfl dX14_escape_189 (fun H_36 locs_36 hh_36 => ?_)
                  clear hh_29
                  rw [hQ]
                  exact W.vret hx hb hr (fun t ht hW => ⟨⟨(qt_27, pp, 1, fu), rfl, by (try dsimp only); refine ⟨jjQe.no (by rw [jjE_u (by rw [← hc1]; omega) (p := z_3.toInt) (by omega)]; exact jjEu_x hr_11_0 (by omega) (by omega) (p4 := qt_10.toInt) (by omega) (Or.inr ⟨_, hr_28_0.trans (by rw [show qt_20.toInt = z_3.toInt + 6 by omega]), by omega⟩)) (by omega), by omega, by omega, by omega, by omega, by omega, by omega, by omega⟩, ⟨hh_36.rt (M1 := [(r0, 16, 29, .int qt_27), (r0, 16, 28, .int pp), (r0, 16, 31, .int 1)]) [1, 4, 0] rfl ht, by rw [ht]; exact hh_36.2.2.2.2.2.2.2.1.sub [1] rfl⟩⟩, by rw [ht]; try exact hh_36.1.1, fun q h9 hq => by rw [ht]; try exact hh_36.1.2.1 q h9 hq⟩) hh_36.1.2.2 dX14_escape_192
            · skip
              have c_19' : r_18.toInt = 0 := jb_ne_n (rfl) ((by decide)) c_19
              first | (have hr_11_5q := hr_11_5.resolve_left (by omega); clear hr_11_5) | (have hr_11_5q := hr_11_5.resolve_right (by omega); clear hr_11_5) | skip
              refine lv_aload_n hx hb dX14_escape_148 rfl (lv_at hl 2 rfl) ?_
              refine lv_iload hx hb dX14_escape_149 (lv_at hl 0 rfl) ?_
              refine va_callv (A0 := jA base) (H0 := s.heap) (va_runV (As := [.int r_11]) (rest := []) ⟨hx, hb, hml, hown, hts⟩ (uX14_unitJ l dC dI ca base B hB hAp hB16 hB127 G0 H_17 r0 r_11 pp xp fu) (cwV 1 hts (jgV (jWr_51 _ (List.mem_of_getElem? (i := 21) rfl)) (jWr_51 _ (List.mem_of_getElem? (i := 22) rfl)) (jWr_51 _ (List.mem_of_getElem? (i := 23) rfl)) (jWr_1 _ (List.mem_of_getElem? (i := 5) rfl)) (jWr_52 _ (List.mem_of_getElem? (i := 0) rfl))) rfl rfl rfl (by decide +kernel) ⟨by rw [← hR]; exact Nat.le_of_ble_eq_true rfl, by rw [← hR]; exact Nat.le_of_ble_eq_true rfl⟩) ⟨fun a U g mk q => by obtain ⟨q0, q1, q2, qK, q10, q11, q12, q13, q14⟩ := q; exact ⟨q0, q1, q2, jG.calling g mk a qK, q10, q11, q12, q13, q14⟩, hh_17.recv (C := RX14) (T := TX14) (N := 74) hB16 rfl (by decide) hg_r0 hK, fun U hU hW => ⟨rfl, hU, hh_17.2.1, hG.step hW hU hh_17.1, hg_r0, hg_xp, (hh_17.2.2.1.sub (L1 := [(r0, 16, 28, .int pp), (r0, 16, 27, .ref xp)]) [4, 5] rfl), (hh_17.2.2.2.2.2.2.2.1.sub (L1 := [(xp, 127, 3300, ca 1, fu)]) [1] rfl), by first | omega | (refine ⟨?_, ?_, ?_, ?_⟩ <;> (first | omega | rfl | assumption | decide | exact Or.inl rfl | exact Or.inr rfl | (simp only; omega)))⟩⟩ rfl rfl hl.1 rfl (lv_room (Nat.le_of_ble_eq_true rfl)) dX14_escape_151 ⟨Nat.zero_le _, Nat.zero_le _⟩) hh_17.1 (fun q _ h => h) (fun q h => h) (fun u_37 t_37 H_37 locs_37 ht_37 hvm_37 hr_38 hb_37 hz_37 hk_37 hS_37 => ?_)
              obtain ⟨qp_37, gu_37⟩ := u_37
              rw [ht_37] at hb_37
              obtain ⟨⟨hb_371, hb_372, hb_373, hb_374, hb_375⟩, hb_376⟩ := hb_37
              have hh_37 : jSt (dC, dI) B base G0 G0 EX14_escapeJ s.heap 0 0 [(r0, 16, 28, .int qp_37), (r0, 16, 29, .int qt_10), (r0, 16, 31, .int qb_10), (r0, 16, 30, .int pe), (r0, 16, 9, .ref kp_), (r0, 16, 27, .ref xp)] [(xp, 127, 3300, ca 1, gu_37), (kp_, 110, 3300, ca 1, fb)] [] H_37 locs_37 := ((hh_17.call hb_371 hb_372 hb_373 hb_374 hS_37 rfl (L1 := [(r0, 16, 29, .int qt_10), (r0, 16, 31, .int qb_10), (r0, 16, 30, .int pe), (r0, 16, 9, .ref kp_), (r0, 16, 27, .ref xp)]) [0, 1, 2, 3, 5] rfl rfl (M1 := [(kp_, 110, 3300, ca 1, fb)]) [0] rfl rfl (I1 := []) [] rfl rfl).more hb_375).moreM hb_376
              clear hh_17 ht_37 hvm_37 hz_37 hk_37 hS_37 hb_371 hb_372 hb_373 hb_374 hb_375
              clear hb_376
              try simp only at hr_38
              rw [hQ]
              exact W.vret hx hb hr (fun t ht hW => ⟨⟨(qt_10, qp_37, qb_10, gu_37), rfl, by (try dsimp only); have hu1 := (hr_38.resolve_left (fun h9 => by omega)); refine ⟨jjQe.one (by rw [show qt_10.toInt - pt.toInt + 1 = 6 by omega]; exact (jjE_u (by rw [← hc1]; omega) (p := z_3.toInt) (by omega)).trans (jjEu_1 hr_11_0 (by omega) (by omega))) (by omega) hu1.2.1 hu1.2.2.1 hu1.2.2.2, by omega, by omega, by omega, by omega, by omega, by omega, by omega⟩, ⟨hh_37.rt (M1 := [(r0, 16, 29, .int qt_10), (r0, 16, 28, .int qp_37), (r0, 16, 31, .int qb_10)]) [1, 0, 2] rfl ht, by rw [ht]; exact hh_37.2.2.2.2.2.2.2.1.sub [0] rfl⟩⟩, by rw [ht]; try exact hh_37.1.1, fun q h9 hq => by rw [ht]; try exact hh_37.1.2.1 q h9 hq⟩) hh_37.1.2.2 dX14_escape_154
          · skip
            have c_16' : r_15.toInt ≠ 0 := jb_eq_n (rfl) ((by decide)) c_16
            first | (have hr_11_5q := hr_11_5.resolve_left (by omega); clear hr_11_5) | (have hr_11_5q := hr_11_5.resolve_right (by omega); clear hr_11_5) | skip
            refine lv_aload_n hx hb dX14_escape_130 rfl (lv_at hl 2 rfl) ?_
            refine lv_iconst (v := 1) hx hb dX14_escape_131 (by decide) ?_
            refine j7_put hx hb hown hK hh_14 hB hAp hB16 (C := RX14) (T := TX14) (N := 74) rfl (by decide) hg_r0 (i := 31) (by decide) hly_16_31 rfl hlk_288 rfl (ty := .boolean) (v := .int 1) (by decide +kernel) (jb_nz (Or.inr rfl)) (jb_fz (Or.inr rfl)) (⟨_, rfl, (Or.inr rfl)⟩) rfl (L1 := [(r0, 16, 29, .int qt_10), (r0, 16, 30, .int pe), (r0, 16, 9, .ref kp_), (r0, 16, 28, .int pp), (r0, 16, 27, .ref xp)]) [0, 2, 3, 4, 5] rfl rfl rfl dX14_escape_132 (fun H_39 locs_39 hh_39 => ?_)
            clear hh_14
            rw [hQ]
            exact W.vret hx hb hr (fun t ht hW => ⟨⟨(qt_10, pp, 1, fu), rfl, by (try dsimp only); refine ⟨jjQe.no (by rw [jjE_u (by rw [← hc1]; omega) (p := z_3.toInt) (by omega)]; exact jjEu_n hr_11_0 (by omega)) (by omega), by omega, by omega, by omega, by omega, by omega, by omega, by omega⟩, ⟨hh_39.rt (M1 := [(r0, 16, 29, .int qt_10), (r0, 16, 28, .int pp), (r0, 16, 31, .int 1)]) [1, 4, 0] rfl ht, by rw [ht]; exact hh_39.2.2.2.2.2.2.2.1.sub [1] rfl⟩⟩, by rw [ht]; try exact hh_39.1.1, fun q h9 hq => by rw [ht]; try exact hh_39.1.2.1 q h9 hq⟩) hh_39.1.2.2 dX14_escape_135
    · skip
      have c_6' : w0_5.toInt ≥ 0 := jb_lt_n (rfl) ((by decide)) c_6
      have hx9 := hi_5_0.p (by omega)
      refine lv_aload_n hx hb dX14_escape_37 rfl (lv_at hl 1 rfl) ?_
      refine lv_iload_n hx hb dX14_escape_38 rfl (lv_at hl 0 rfl) ?_
      refine lv_iconst (v := 3) hx hb dX14_escape_39 (by decide) ?_
      have C93 : ∀ (w0_40 : Int32) (H_40 : Heap) (locs_40 : List Loc), jSt (dC, dI) B base G0 G0 EX14_escapeJ s.heap 0 0 [(r0, 16, 29, .int z_3), (r0, 16, 30, .int pe), (r0, 16, 9, .ref kp_), (r0, 16, 28, .int pp), (r0, 16, 31, .int pb), (r0, 16, 27, .ref xp)] [(kp_, 110, 3300, ca 1, fb), (xp, 127, 3300, ca 1, fu)] [] H_40 locs_40 → (w0_40.toInt = jjEs r_2.toInt ∧ 0 ≤ w0_40.toInt ∧ w0_40.toInt ≤ 255 ∧ r_2.toInt ≠ 117 ∧ 0 ≤ r_2.toInt) → ∀ ls : Array Slot, lv_has ls 6 [(0, .ref r0), (1, .int r_2), (2, .ref str337), (3, .int w0_5)] → W p l e R s m ([.ref r0] : List Value).toArray below meth c H_40 locs_40 0 0 Q (F0 m 93 ls [.int w0_40, .ref r0]) := by
        intro w0_40 H_40 locs_40 hh_40  hi_40 ls hl
        obtain ⟨hi_40_0, hi_40_1, hi_40_2, hi_40_3, hi_40_4⟩ := hi_40
        refine va_callv (A0 := jA base) (H0 := s.heap) (va_runV (As := [.int w0_40]) (rest := []) ⟨hx, hb, hml, hown, hts⟩ (uX14_unitJ l dC dI ca base B hB hAp hB16 hB127 G0 H_40 r0 w0_40 pp xp fu) (cwV 1 hts (jgV (jWr_51 _ (List.mem_of_getElem? (i := 21) rfl)) (jWr_51 _ (List.mem_of_getElem? (i := 22) rfl)) (jWr_51 _ (List.mem_of_getElem? (i := 23) rfl)) (jWr_1 _ (List.mem_of_getElem? (i := 5) rfl)) (jWr_52 _ (List.mem_of_getElem? (i := 0) rfl))) rfl rfl rfl (by decide +kernel) ⟨by rw [← hR]; exact Nat.le_of_ble_eq_true rfl, by rw [← hR]; exact Nat.le_of_ble_eq_true rfl⟩) ⟨fun a U g mk q => by obtain ⟨q0, q1, q2, qK, q10, q11, q12, q13, q14⟩ := q; exact ⟨q0, q1, q2, jG.calling g mk a qK, q10, q11, q12, q13, q14⟩, hh_40.recv (C := RX14) (T := TX14) (N := 74) hB16 rfl (by decide) hg_r0 hK, fun U hU hW => ⟨rfl, hU, hh_40.2.1, hG.step hW hU hh_40.1, hg_r0, hg_xp, (hh_40.2.2.1.sub (L1 := [(r0, 16, 28, .int pp), (r0, 16, 27, .ref xp)]) [3, 5] rfl), (hh_40.2.2.2.2.2.2.2.1.sub (L1 := [(xp, 127, 3300, ca 1, fu)]) [1] rfl), by first | omega | (refine ⟨?_, ?_, ?_, ?_⟩ <;> (first | omega | rfl | assumption | decide | exact Or.inl rfl | exact Or.inr rfl | (simp only; omega)))⟩⟩ rfl rfl hl.1 rfl (lv_room (Nat.le_of_ble_eq_true rfl)) dX14_escape_93 ⟨Nat.zero_le _, Nat.zero_le _⟩) hh_40.1 (fun q _ h => h) (fun q h => h) (fun u_41 t_41 H_41 locs_41 ht_41 hvm_41 hr_42 hb_41 hz_41 hk_41 hS_41 => ?_)
        obtain ⟨qp_41, gu_41⟩ := u_41
        rw [ht_41] at hb_41
        obtain ⟨⟨hb_411, hb_412, hb_413, hb_414, hb_415⟩, hb_416⟩ := hb_41
        have hh_41 : jSt (dC, dI) B base G0 G0 EX14_escapeJ s.heap 0 0 [(r0, 16, 28, .int qp_41), (r0, 16, 29, .int z_3), (r0, 16, 30, .int pe), (r0, 16, 9, .ref kp_), (r0, 16, 31, .int pb), (r0, 16, 27, .ref xp)] [(xp, 127, 3300, ca 1, gu_41), (kp_, 110, 3300, ca 1, fb)] [] H_41 locs_41 := ((hh_40.call hb_411 hb_412 hb_413 hb_414 hS_41 rfl (L1 := [(r0, 16, 29, .int z_3), (r0, 16, 30, .int pe), (r0, 16, 9, .ref kp_), (r0, 16, 31, .int pb), (r0, 16, 27, .ref xp)]) [0, 1, 2, 4, 5] rfl rfl (M1 := [(kp_, 110, 3300, ca 1, fb)]) [0] rfl rfl (I1 := []) [] rfl rfl).more hb_415).moreM hb_416
        clear hh_40 ht_41 hvm_41 hz_41 hk_41 hS_41 hb_411 hb_412 hb_413 hb_414 hb_415
        clear hb_416
        try simp only at hr_42
        rw [hQ]
        exact W.vret hx hb hr (fun t ht hW => ⟨⟨(z_3, qp_41, pb, gu_41), rfl, by (try dsimp only); have hlt9 := jjK.lt hr_2_0 (by omega); have hu1 := (hr_42.resolve_left (fun h9 => by omega)); refine ⟨jjQe.one (by rw [show z_3.toInt - pt.toInt + 1 = 2 by omega]; exact jjE_s hc1 (by omega) hi_40_0 (by omega)) (by omega) hu1.2.1 (hu1.2.2.1.trans rfl) hu1.2.2.2, by omega, by omega, by omega, by omega, by omega, by omega, by omega⟩, ⟨hh_41.rt (M1 := [(r0, 16, 29, .int z_3), (r0, 16, 28, .int qp_41), (r0, 16, 31, .int pb)]) [1, 0, 4] rfl ht, by rw [ht]; exact hh_41.2.2.2.2.2.2.2.1.sub [0] rfl⟩⟩, by rw [ht]; try exact hh_41.1.1, fun q h9 hq => by rw [ht]; try exact hh_41.1.2.1 q h9 hq⟩) hh_41.1.2.2 dX14_escape_96
      refine lv_icmp_ge (tgt := 47) hx hb dX14_escape_40 (by decide) (fun c_43 => ?_) (fun c_43 => ?_)
      · skip
        have c_43' : w0_5.toInt ≥ 3 := jb_ge (rfl) ((by decide)) c_43
        refine lv_iload_n hx hb dX14_escape_47 rfl (lv_at hl 2 rfl) ?_
        refine lv_bipush (v := 98) hx hb dX14_escape_48 (by decide) ?_
        refine lv_icmp_ne (tgt := 58) hx hb dX14_escape_50 (by decide) (fun c_44 => ?_) (fun c_44 => ?_)
        · skip
          have c_44' : r_2.toInt ≠ 98 := jb_ne (rfl) ((by decide)) c_44
          refine lv_iload_n hx hb dX14_escape_58 rfl (lv_at hl 2 rfl) ?_
          refine lv_bipush (v := 102) hx hb dX14_escape_59 (by decide) ?_
          refine lv_icmp_ne (tgt := 69) hx hb dX14_escape_61 (by decide) (fun c_45 => ?_) (fun c_45 => ?_)
          · skip
            have c_45' : r_2.toInt ≠ 102 := jb_ne (rfl) ((by decide)) c_45
            refine lv_iload_n hx hb dX14_escape_69 rfl (lv_at hl 2 rfl) ?_
            refine lv_bipush (v := 110) hx hb dX14_escape_70 (by decide) ?_
            refine lv_icmp_ne (tgt := 80) hx hb dX14_escape_72 (by decide) (fun c_46 => ?_) (fun c_46 => ?_)
            · skip
              have c_46' : r_2.toInt ≠ 110 := jb_ne (rfl) ((by decide)) c_46
              refine lv_iload_n hx hb dX14_escape_80 rfl (lv_at hl 2 rfl) ?_
              refine lv_bipush (v := 114) hx hb dX14_escape_81 (by decide) ?_
              refine lv_icmp_ne (tgt := 91) hx hb dX14_escape_83 (by decide) (fun c_47 => ?_) (fun c_47 => ?_)
              · skip
                have c_47' : r_2.toInt ≠ 114 := jb_ne (rfl) ((by decide)) c_47
                refine lv_bipush (v := 9) hx hb dX14_escape_91 (by decide) ?_
                exact C93 9 _ _ hh_5 (⟨(by first | assumption | exact jjEs.t (by omega) | exact hjs | omega), (by first | omega | rfl | assumption | exact jjEs.t (by omega) | exact hjs), (by first | omega | rfl | assumption | exact jjEs.t (by omega) | exact hjs), (by first | omega | rfl | assumption | exact jjEs.t (by omega) | exact hjs), (by first | omega | rfl | assumption | exact jjEs.t (by omega) | exact hjs)⟩) _ (lv_sub hl [1, 2, 3, 0] rfl)
              · skip
                have c_47' : r_2.toInt = 114 := jb_ne_n (rfl) ((by decide)) c_47
                refine lv_bipush (v := 13) hx hb dX14_escape_86 (by decide) ?_
                refine lv_goto (tgt := 93) hx hb dX14_escape_88 (by decide) ?_
                exact C93 13 _ _ hh_5 (⟨(by first | assumption | exact jjEs.t (by omega) | exact hjs | omega), (by first | omega | rfl | assumption | exact jjEs.t (by omega) | exact hjs), (by first | omega | rfl | assumption | exact jjEs.t (by omega) | exact hjs), (by first | omega | rfl | assumption | exact jjEs.t (by omega) | exact hjs), (by first | omega | rfl | assumption | exact jjEs.t (by omega) | exact hjs)⟩) _ (lv_sub hl [1, 2, 3, 0] rfl)
            · skip
              have c_46' : r_2.toInt = 110 := jb_ne_n (rfl) ((by decide)) c_46
              refine lv_bipush (v := 10) hx hb dX14_escape_75 (by decide) ?_
              refine lv_goto (tgt := 93) hx hb dX14_escape_77 (by decide) ?_
              exact C93 10 _ _ hh_5 (⟨(by first | assumption | exact jjEs.t (by omega) | exact hjs | omega), (by first | omega | rfl | assumption | exact jjEs.t (by omega) | exact hjs), (by first | omega | rfl | assumption | exact jjEs.t (by omega) | exact hjs), (by first | omega | rfl | assumption | exact jjEs.t (by omega) | exact hjs), (by first | omega | rfl | assumption | exact jjEs.t (by omega) | exact hjs)⟩) _ (lv_sub hl [1, 2, 3, 0] rfl)
          · skip
            have c_45' : r_2.toInt = 102 := jb_ne_n (rfl) ((by decide)) c_45
            refine lv_bipush (v := 12) hx hb dX14_escape_64 (by decide) ?_
            refine lv_goto (tgt := 93) hx hb dX14_escape_66 (by decide) ?_
            exact C93 12 _ _ hh_5 (⟨(by first | assumption | exact jjEs.t (by omega) | exact hjs | omega), (by first | omega | rfl | assumption | exact jjEs.t (by omega) | exact hjs), (by first | omega | rfl | assumption | exact jjEs.t (by omega) | exact hjs), (by first | omega | rfl | assumption | exact jjEs.t (by omega) | exact hjs), (by first | omega | rfl | assumption | exact jjEs.t (by omega) | exact hjs)⟩) _ (lv_sub hl [1, 2, 3, 0] rfl)
        · skip
          have c_44' : r_2.toInt = 98 := jb_ne_n (rfl) ((by decide)) c_44
          refine lv_bipush (v := 8) hx hb dX14_escape_53 (by decide) ?_
          refine lv_goto (tgt := 93) hx hb dX14_escape_55 (by decide) ?_
          exact C93 8 _ _ hh_5 (⟨(by first | assumption | exact jjEs.t (by omega) | exact hjs | omega), (by first | omega | rfl | assumption | exact jjEs.t (by omega) | exact hjs), (by first | omega | rfl | assumption | exact jjEs.t (by omega) | exact hjs), (by first | omega | rfl | assumption | exact jjEs.t (by omega) | exact hjs), (by first | omega | rfl | assumption | exact jjEs.t (by omega) | exact hjs)⟩) _ (lv_sub hl [1, 2, 3, 0] rfl)
      · skip
        have c_43' : w0_5.toInt < 3 := jb_ge_n (rfl) ((by decide)) c_43
        have hjs : r_2.toInt = jjEs r_2.toInt := by have h9 := hi_5_0.s (by omega) (by omega); omega
        refine lv_iload_n hx hb dX14_escape_43 rfl (lv_at hl 2 rfl) ?_
        refine lv_goto (tgt := 93) hx hb dX14_escape_44 (by decide) ?_
        exact C93 r_2 _ _ hh_5 (⟨(by first | assumption | exact jjEs.t (by omega) | exact hjs | omega), (by first | omega | rfl | assumption | exact jjEs.t (by omega) | exact hjs), (by first | omega | rfl | assumption | exact jjEs.t (by omega) | exact hjs), (by first | omega | rfl | assumption | exact jjEs.t (by omega) | exact hjs), (by first | omega | rfl | assumption | exact jjEs.t (by omega) | exact hjs)⟩) _ (lv_sub hl [1, 2, 3, 0] rfl)
  refine lv_if_ge (tgt := 27) hx hb dX14_escape_20 (by decide) (fun c_48 => ?_) (fun c_48 => ?_)
  · skip
    have c_48' : r_2.toInt ≥ 0 := jb_ge (rfl) ((by decide)) c_48
    refine lv_aload_n hx hb dX14_escape_27 rfl (lv_at hl 0 rfl) ?_
    refine lv_iload_n hx hb dX14_escape_28 rfl (lv_at hl 1 rfl) ?_
    refine vp_callSi (W.runV (As := [.int r_2]) (rest := []) ⟨hx, hb, hml, hown, hts⟩ (gJ0_indexOf_0f7a4 l dC dI ca base H_4 str337 8 (jChT "\"\\/bfnrt") r_2) (cwV 1 hts (jgV (jWr_51 _ (List.mem_of_getElem? (i := 20) rfl)) (jWr_37 _ (List.mem_of_getElem? (i := 12) rfl)) (jWr_37 _ (List.mem_of_getElem? (i := 13) rfl)) (jWr_5 _ (List.mem_of_getElem? (i := 15) rfl)) (jWr_37 _ (List.mem_of_getElem? (i := 14) rfl))) rfl rfl rfl (by decide +kernel) ⟨by rw [← hR]; exact Nat.le_of_ble_eq_true rfl, by rw [← hR]; exact Nat.le_of_ble_eq_true rfl⟩) ⟨fun a U g mk q => by obtain ⟨q0, q1, q2, qK, q9⟩ := q; exact ⟨q0, q1, (q2.moved (Vm.Alike.refl U.vm)), jG.calling g mk a qK, q9⟩, jStr_recv hstr337 hh_4.1, fun U hU hW => ⟨rfl, hU, (hTstr337.moved hW.alike).kept hh_4.1.2.1, hG.step hW hU hh_4.1, by omega⟩⟩ rfl rfl hl.1 rfl (lv_room (Nat.le_of_ble_eq_true rfl)) dX14_escape_29 ⟨Nat.zero_le _, Nat.zero_le _⟩) (fun r_49 hr_49 => ?_)
    exact C32 r_49 _ _ hh_4 (⟨(by first | omega | rfl | assumption | exact jxE.lo (by omega) (by omega) | exact jxE.of hr_49 (by omega) (by omega) | (have h9 := hr_49.r; omega)), (by first | omega | rfl | assumption | exact jxE.lo (by omega) (by omega) | exact jxE.of hr_49 (by omega) (by omega) | (have h9 := hr_49.r; omega)), (by first | omega | rfl | assumption | exact jxE.lo (by omega) (by omega) | exact jxE.of hr_49 (by omega) (by omega) | (have h9 := hr_49.r; omega))⟩) _ (lv_sub hl [2, 1, 0] rfl)
  · skip
    have c_48' : r_2.toInt < 0 := jb_ge_n (rfl) ((by decide)) c_48
    refine lv_iconst (v := (-1)) hx hb dX14_escape_23 (by decide) ?_
    refine lv_goto (tgt := 32) hx hb dX14_escape_24 (by decide) ?_
    exact C32 (-1) _ _ hh_4 (⟨(by first | omega | rfl | assumption | exact jxE.lo (by omega) (by omega) | exact jxE.of (zz_none) (by omega) (by omega) | (have h9 := (zz_none).r; omega)), (by first | omega | rfl | assumption | exact jxE.lo (by omega) (by omega) | exact jxE.of (zz_none) (by omega) (by omega) | (have h9 := (zz_none).r; omega)), (by first | omega | rfl | assumption | exact jxE.lo (by omega) (by omega) | exact jxE.of (zz_none) (by omega) (by omega) | (have h9 := (zz_none).r; omega))⟩) _ (lv_sub hl [2, 1, 0] rfl)
set_option maxHeartbeats 4000000 in
set_option maxRecDepth 20000 in
theorem uX14_readStringJ (l : Launch) (dC : Nat → ClassId) (dI : Nat → Nat → Nat) (ca : Nat → ClassId) (base : Nat) (B : jF) (hB : jBok B) (hAp : jAp (dC, dI)) (hB16 : ∀ n G a H, B 16 n G a H ↔ jOb (dC, dI) 16 74 (F16 n G) a H) (hB110 : ∀ n G a H, B 110 n G a H ↔ jAr (dC, dI) (ca 1) (fun j z => 0 ≤ z.toInt ∧ z.toInt ≤ 255) n a H) (hB127 : ∀ n G a H, B 127 n G a H ↔ jAr (dC, dI) (ca 1) (fun j z => True) n a H) (G0 : jT) (H0 : Heap) (r0 : Nat) (pt : Int32) (pe : Int32) (kp_ : Nat) (pp : Int32) (pb : Int32) (xp : Nat) (T9 : Nat → Int → Int) (fb : Nat → Int32) (fu : Nat → Int32) : Met l yX14_readString (jw yX14_readString cX14_readString 4 none) ({ frames := 6, cells := 0, slots := 0, locals := 206 }) (va_Pc [.ref r0] (fun U => U.heap = H0 ∧ jX B base G0 [] H0 ∧ jG dC dI ca base U ∧ G0 r0 = some (16, 0) ∧ G0 kp_ = some (110, 3300) ∧ G0 xp = some (127, 3300) ∧ jP (dC, dI) G0 H0 [(r0, 16, 29, .int pt), (r0, 16, 30, .int pe), (r0, 16, 9, .ref kp_), (r0, 16, 28, .int pp), (r0, 16, 31, .int pb), (r0, 16, 27, .ref xp)] ∧ jMc (dC, dI) G0 H0 [(kp_, 110, 3300, ca 1, fb), (xp, 127, 3300, ca 1, fu)] ∧ 0 ≤ pt.toInt ∧ pt.toInt ≤ 90000 ∧ 0 ≤ pe.toInt ∧ pe.toInt ≤ 3000 ∧ pt.toInt < pe.toInt ∧ 0 ≤ pp.toInt ∧ pp.toInt ≤ pt.toInt ∧ pb.toInt = 0 ∧ jjK (jB8 fb) pe.toInt pt.toInt = 34 ∧ jjA T9 7 pp.toInt fu)) (va_Qv (S := Int32 × Int32 × Int32 × Int32 × (Nat → Int32)) (fun u => 0 ≤ u.2.2.1.toInt ∧ u.2.2.1.toInt ≤ 1 ∧ pt.toInt + 1 ≤ u.1.toInt ∧ pp.toInt ≤ u.2.1.toInt ∧ u.2.1.toInt ≤ u.1.toInt ∧ u.2.2.2.1.toInt = pp.toInt ∧ u.1.toInt ≤ pe.toInt + 2 * u.2.2.1.toInt ∧ (u.2.2.1.toInt = 1 ∨ u.2.1.toInt - pp.toInt + 2 ≤ u.1.toInt - pt.toInt) ∧ jjQs (jjStr (jB8 fb) pe.toInt pt.toInt pp.toInt T9) (1 - u.2.2.1.toInt) u.1.toInt u.2.1.toInt u.2.2.2.2) (fun u t => jRt (dC, dI) B base G0 EX14_readStringJ H0 [(r0, 16, 29, .int u.1), (r0, 16, 28, .int u.2.1), (r0, 16, 31, .int u.2.2.1), (r0, 16, 32, .int u.2.2.2.1)] t.heap ∧ jMc (dC, dI) G0 t.heap [(xp, 127, 3300, ca 1, u.2.2.2.2)]) (jA base)) 0 0 (jA base) := by
  refine Met.ofW (cc := cX14_readString) (maxL := 4) (ret := none) (by decide) rfl ?_
  intro p e s m args below meth c s₁ Bd hml hv
  obtain ⟨rfl, hH0, hX, hG, hg_r0, hg_kp_, hg_xp, hP0, hM0, hp0, hp1, hp2, hp3, hp4, hp5, hp6, hp7, hp8, hp9⟩ := hv
  have hK := hG.1
  have hx := Bd.exec
  have hb := Bd.bytes
  have hr := Bd.returns
  have hts := atoms_spec (ws := (jw yX14_readString cX14_readString 4 none)) Bd.pre
  have htw : ∀ w ∈ jWl, w.before _ s = true := fun w h => hts w (List.mem_cons_of_mem _ h)
  have hown : s.vm.findClass RX14 = some m.cls := findClass_of_methodNamed Bd.named
  have hlocks := Bd.notSynchronized
  obtain ⟨Q, hQ⟩ : ∃ Q, Q = MQ below (va_Qv (S := Int32 × Int32 × Int32 × Int32 × (Nat → Int32)) (fun u => 0 ≤ u.2.2.1.toInt ∧ u.2.2.1.toInt ≤ 1 ∧ pt.toInt + 1 ≤ u.1.toInt ∧ pp.toInt ≤ u.2.1.toInt ∧ u.2.1.toInt ≤ u.1.toInt ∧ u.2.2.2.1.toInt = pp.toInt ∧ u.1.toInt ≤ pe.toInt + 2 * u.2.2.1.toInt ∧ (u.2.2.1.toInt = 1 ∨ u.2.1.toInt - pp.toInt + 2 ≤ u.1.toInt - pt.toInt) ∧ jjQs (jjStr (jB8 fb) pe.toInt pt.toInt pp.toInt T9) (1 - u.2.2.1.toInt) u.1.toInt u.2.1.toInt u.2.2.2.2) (fun u t => jRt (dC, dI) B base G0 EX14_readStringJ H0 [(r0, 16, 29, .int u.1), (r0, 16, 28, .int u.2.1), (r0, 16, 31, .int u.2.2.1), (r0, 16, 32, .int u.2.2.2.1)] t.heap ∧ jMc (dC, dI) G0 t.heap [(xp, 127, 3300, ca 1, u.2.2.2.2)]) (jA base)) ([.ref r0] : List Value).toArray s 0 0 (jA base) := ⟨_, rfl⟩
  rw [← hQ]
  have hl := lv_entry ([.ref r0]) (n := 4) (Nat.le_of_ble_eq_true rfl)
  rw [lg_entry_eq]
  generalize (lg_sl ([.ref r0]) ++ List.replicate (4 - (lg_sl ([.ref r0])).length) Slot.unset).toArray = ls at hl ⊢
  have hl : lv_has ls 4 [(0, .ref r0)] := hl
  generalize hR : (headSpec (jw yX14_readString cX14_readString 4 none) ({ frames := 6, cells := 0, slots := 0, locals := 206 })).room = R
  subst hH0
  have hh : jSt (dC, dI) B base G0 G0 EX14_readStringJ s.heap 0 0 [(r0, 16, 29, .int pt), (r0, 16, 30, .int pe), (r0, 16, 9, .ref kp_), (r0, 16, 28, .int pp), (r0, 16, 31, .int pb), (r0, 16, 27, .ref xp)] [(kp_, 110, 3300, ca 1, fb), (xp, 127, 3300, ca 1, fu)] [] s.heap [] := jSt.start hX hP0 hM0 jIs.nil
  clear hX hP0
  have hk0 : (0 : Int32).toInt = 0 := by decide
  have hk1 : (1 : Int32).toInt = 1 := by decide
  have hk32 : (32 : Int32).toInt = 32 := by decide
  have hk34 : (34 : Int32).toInt = 34 := by decide
  have hk92 : (92 : Int32).toInt = 92 := by decide
  have hly_16_9 := htw (u_lay RX14 TX14 9) (jWc_wsX140 _ (u_in_lay (by decide)))
  have hly_16_28 := htw (u_lay RX14 TX14 28) (jWc_wsX140 _ (u_in_lay (by decide)))
  have hly_16_29 := htw (u_lay RX14 TX14 29) (jWc_wsX140 _ (u_in_lay (by decide)))
  have hly_16_30 := htw (u_lay RX14 TX14 30) (jWc_wsX140 _ (u_in_lay (by decide)))
  have hly_16_31 := htw (u_lay RX14 TX14 31) (jWc_wsX140 _ (u_in_lay (by decide)))
  have hly_16_32 := htw (u_lay RX14 TX14 32) (jWc_wsX140 _ (u_in_lay (by decide)))
  have hly_16_33 := htw (u_lay RX14 TX14 33) (jWc_wsX140 _ (u_in_lay (by decide)))
  have hlk_273 := (htw (.fieldLink RX14 273 "ProofServerModel" "at" "I") (jWr_50 _ (List.mem_of_getElem? (i := 5) rfl)))
  have hlk_304 := (htw (.fieldLink RX14 304 "ProofServerModel" "pooled" "I") (jWr_50 _ (List.mem_of_getElem? (i := 8) rfl)))
  have hlk_288 := (htw (.fieldLink RX14 288 "ProofServerModel" "bad" "Z") (jWr_50 _ (List.mem_of_getElem? (i := 9) rfl)))
  have hlk_20 := (htw (.fieldLink RX14 20 "ProofServerModel" "kept" "[I") (jWr_10 _ (List.mem_of_getElem? (i := 21) rfl)))
  have hlk_276 := (htw (.fieldLink RX14 276 "ProofServerModel" "end" "I") (jWr_50 _ (List.mem_of_getElem? (i := 6) rfl)))
  have hlk_357 := (htw (.fieldLink RX14 357 "ProofServerModel" "utfChar" "I") (jWr_51 _ (List.mem_of_getElem? (i := 11) rfl)))
  have hlk_301 := (htw (.fieldLink RX14 301 "ProofServerModel" "stringFrom" "I") (jWr_50 _ (List.mem_of_getElem? (i := 15) rfl)))
  refine lv_aload_n hx hb dX14_readString_0 rfl (lv_at hl 0 rfl) ?_
  refine lv_dup hx hb dX14_readString_1 rfl ?_
  refine j7_read hx hb hown hK (C := RX14) (T := TX14) (N := 74) rfl hly_16_29 hlk_273 (hh.at 0 rfl) dX14_readString_2 ?_
  refine lv_iconst (v := 1) hx hb dX14_readString_5 (by decide) ?_
  refine lv_iadd hx hb dX14_readString_6 ?_
  refine lv_topi (fun z_1 ez_1 => ?_)
  have hz_1 : z_1.toInt = pt.toInt + 1 := by rw [ez_1]; exact jb_iadd2 (rfl) ((by decide)) (by omega)
  refine j7_put hx hb hown hK hh hB hAp hB16 (C := RX14) (T := TX14) (N := 74) rfl (by decide) hg_r0 (i := 29) (by decide) hly_16_29 rfl hlk_273 rfl (ty := .int) (v := .int z_1) (by decide +kernel) rfl rfl (⟨_, rfl, by omega, by omega⟩) rfl (L1 := [(r0, 16, 30, .int pe), (r0, 16, 9, .ref kp_), (r0, 16, 28, .int pp), (r0, 16, 31, .int pb), (r0, 16, 27, .ref xp)]) [1, 2, 3, 4, 5] rfl rfl rfl dX14_readString_7 (fun H_2 locs_2 hh_2 => ?_)
  clear hh
  refine lv_aload_n hx hb dX14_readString_10 rfl (lv_at hl 0 rfl) ?_
  refine j7_read hx hb hown hK (C := RX14) (T := TX14) (N := 74) rfl hly_16_28 hlk_304 (hh_2.at 3 rfl) dX14_readString_11 ?_
  refine lv_istore_n (lv' := [(1, .int pp), (0, .ref r0)]) hx hb dX14_readString_14 rfl hl (by decide) rfl (fun ls hl => ?_)
  have L15 : ∀ (N : Nat) (wt_3 : Int32) (wp_3 : Int32) (wb_3 : Int32) (fu_3 : Nat → Int32) (kf : Nat) (H_3 : Heap) (locs_3 : List Loc), jSt (dC, dI) B base G0 G0 EX14_readStringJ s.heap 0 0 [(r0, 16, 29, .int wt_3), (r0, 16, 28, .int wp_3), (r0, 16, 31, .int wb_3), (r0, 16, 30, .int pe), (r0, 16, 9, .ref kp_), (r0, 16, 27, .ref xp)] [(xp, 127, 3300, ca 1, fu_3), (kp_, 110, 3300, ca 1, fb)] [] H_3 locs_3 → (pt.toInt + 1 ≤ wt_3.toInt ∧ pp.toInt ≤ wp_3.toInt ∧ wp_3.toInt ≤ wt_3.toInt ∧ 0 ≤ wb_3.toInt ∧ wb_3.toInt ≤ 1 ∧ wt_3.toInt ≤ pe.toInt + wb_3.toInt ∧ (wb_3.toInt = 1 ∨ (wp_3.toInt - pp.toInt + 1 ≤ wt_3.toInt - pt.toInt ∧ pe.toInt - wt_3.toInt < kf)) ∧ jjLw (jB8 fb) pe.toInt kf wt_3.toInt wp_3.toInt wb_3.toInt fu_3 (jjStr (jB8 fb) pe.toInt pt.toInt pp.toInt T9)) → (((pe.toInt - wt_3.toInt).toNat : Int) + (1 - wb_3.toInt) : Int) < N → ∀ ls : Array Slot, lv_has ls 4 [(0, .ref r0), (1, .int pp)] → W p l e R s m ([.ref r0] : List Value).toArray below meth c H_3 locs_3 0 0 Q (F0 m 15 ls []) := by
    intro N
    induction N with
    | zero => intro wt_3 wp_3 wb_3 fu_3 kf H_3 locs_3 hh_3  hi_3 hm; exact absurd hm (by omega)
    | succ N L15 =>
      intro wt_3 wp_3 wb_3 fu_3 kf H_3 locs_3 hh_3  hi_3 hm_3 ls hl
      obtain ⟨hi_3_0, hi_3_1, hi_3_2, hi_3_3, hi_3_4, hi_3_5, hi_3_6, hi_3_7⟩ := hi_3
      refine lv_aload_n hx hb dX14_readString_15 rfl (lv_at hl 0 rfl) ?_
      refine j7_read hx hb hown hK (C := RX14) (T := TX14) (N := 74) rfl hly_16_31 hlk_288 (hh_3.at 2 rfl) dX14_readString_16 ?_
      refine lv_if_ne (tgt := 123) hx hb dX14_readString_19 (by decide) (fun c_4 => ?_) (fun c_4 => ?_)
      · skip
        have c_4' : wb_3.toInt ≠ 0 := jb_ne (rfl) ((by decide)) c_4
        refine lv_aload_n hx hb dX14_readString_123 rfl (lv_at hl 0 rfl) ?_
        refine lv_dup hx hb dX14_readString_124 rfl ?_
        refine j7_read hx hb hown hK (C := RX14) (T := TX14) (N := 74) rfl hly_16_29 hlk_273 (hh_3.at 0 rfl) dX14_readString_125 ?_
        refine lv_iconst (v := 1) hx hb dX14_readString_128 (by decide) ?_
        refine lv_iadd hx hb dX14_readString_129 ?_
        refine lv_topi (fun z_5 ez_5 => ?_)
        have hz_5 : z_5.toInt = wt_3.toInt + 1 := by rw [ez_5]; exact jb_iadd2 (rfl) ((by decide)) (by omega)
        refine j7_put hx hb hown hK hh_3 hB hAp hB16 (C := RX14) (T := TX14) (N := 74) rfl (by decide) hg_r0 (i := 29) (by decide) hly_16_29 rfl hlk_273 rfl (ty := .int) (v := .int z_5) (by decide +kernel) rfl rfl (⟨_, rfl, by omega, by omega⟩) rfl (L1 := [(r0, 16, 28, .int wp_3), (r0, 16, 31, .int wb_3), (r0, 16, 30, .int pe), (r0, 16, 9, .ref kp_), (r0, 16, 27, .ref xp)]) [1, 2, 3, 4, 5] rfl rfl rfl dX14_readString_130 (fun H_6 locs_6 hh_6 => ?_)
        clear hh_3
        refine lv_aload_n hx hb dX14_readString_133 rfl (lv_at hl 0 rfl) ?_
        refine lv_iload_n hx hb dX14_readString_134 rfl (lv_at hl 1 rfl) ?_
        refine j7_put hx hb hown hK hh_6 hB hAp hB16 (C := RX14) (T := TX14) (N := 74) rfl (by decide) hg_r0 (i := 32) (by decide) hly_16_32 rfl hlk_301 rfl (ty := .int) (v := .int pp) (by decide +kernel) rfl rfl (⟨_, rfl, by omega, by omega⟩) rfl (L1 := [(r0, 16, 29, .int z_5), (r0, 16, 28, .int wp_3), (r0, 16, 31, .int wb_3), (r0, 16, 30, .int pe), (r0, 16, 9, .ref kp_), (r0, 16, 27, .ref xp)]) [0, 1, 2, 3, 4, 5] rfl rfl rfl dX14_readString_135 (fun H_7 locs_7 hh_7 => ?_)
        clear hh_6
        rw [hQ]
        exact W.vret hx hb hr (fun t ht hW => ⟨⟨(z_5, wp_3, wb_3, pp, fu_3), rfl, by (try dsimp only); refine ⟨by omega, by omega, by omega, by omega, by omega, by omega, by omega, by omega, ?_⟩; exact Or.inl ⟨by omega, hi_3_7.bad (by omega)⟩, ⟨hh_7.rt (M1 := [(r0, 16, 29, .int z_5), (r0, 16, 28, .int wp_3), (r0, 16, 31, .int wb_3), (r0, 16, 32, .int pp)]) [1, 2, 3, 0] rfl ht, by rw [ht]; exact hh_7.2.2.2.2.2.2.2.1.sub [0] rfl⟩⟩, by rw [ht]; try exact hh_7.1.1, fun q h9 hq => by rw [ht]; try exact hh_7.1.2.1 q h9 hq⟩) hh_7.1.2.2 dX14_readString_138
      · skip
        have c_4' : wb_3.toInt = 0 := jb_ne_n (rfl) ((by decide)) c_4
        refine lv_aload_n hx hb dX14_readString_22 rfl (lv_at hl 0 rfl) ?_
        refine va_calli (A0 := jA base) (H0 := s.heap) (va_runV (As := []) (rest := []) ⟨hx, hb, hml, hown, hts⟩ (uX14_hereJ l dC dI ca base B hB hAp hB16 hB110 G0 H_3 r0 wt_3 pe kp_ fb) (cwV 0 hts (jgV (jWr_50 _ (List.mem_of_getElem? (i := 20) rfl)) (jWr_50 _ (List.mem_of_getElem? (i := 21) rfl)) (jWr_50 _ (List.mem_of_getElem? (i := 22) rfl)) (jWr_1 _ (List.mem_of_getElem? (i := 5) rfl)) (jWr_50 _ (List.mem_of_getElem? (i := 23) rfl))) rfl rfl rfl (by decide +kernel) ⟨by rw [← hR]; exact Nat.le_of_ble_eq_true rfl, by rw [← hR]; exact Nat.le_of_ble_eq_true rfl⟩) ⟨fun a U g mk q => by obtain ⟨q0, q1, q2, qK, q10, q11, q12, q13, q14⟩ := q; exact ⟨q0, q1, q2, jG.calling g mk a qK, q10, q11, q12, q13, q14⟩, hh_3.recv (C := RX14) (T := TX14) (N := 74) hB16 rfl (by decide) hg_r0 hK, fun U hU hW => ⟨rfl, hU, hh_3.2.1, hG.step hW hU hh_3.1, hg_r0, hg_kp_, (hh_3.2.2.1.sub (L1 := [(r0, 16, 29, .int wt_3), (r0, 16, 30, .int pe), (r0, 16, 9, .ref kp_)]) [0, 3, 4] rfl), (hh_3.2.2.2.2.2.2.2.1.sub (L1 := [(kp_, 110, 3300, ca 1, fb)]) [1] rfl), by first | omega | (refine ⟨?_, ?_, ?_, ?_⟩ <;> (first | omega | rfl | assumption | decide | exact Or.inl rfl | exact Or.inr rfl | (simp only; omega)))⟩⟩ rfl rfl hl.1 rfl (lv_room (Nat.le_of_ble_eq_true rfl)) dX14_readString_23 ⟨Nat.zero_le _, Nat.zero_le _⟩) hh_3.1 (fun q _ h => h) (fun q h => h) (fun r_9 u_8 t_8 H_8 locs_8 ht_8 hvm_8 hr_9 hb_8 hz_8 hk_8 hS_8 => ?_)
        rw [ht_8] at hb_8
        obtain ⟨hb_81, hb_82, hb_83, hb_84, hb_85⟩ := hb_8
        have hh_8 : jSt (dC, dI) B base G0 G0 EX14_readStringJ s.heap 0 0 [(r0, 16, 29, .int wt_3), (r0, 16, 28, .int wp_3), (r0, 16, 31, .int wb_3), (r0, 16, 30, .int pe), (r0, 16, 9, .ref kp_), (r0, 16, 27, .ref xp)] [(xp, 127, 3300, ca 1, fu_3), (kp_, 110, 3300, ca 1, fb)] [] H_8 locs_8 := ((hh_3.call hb_81 hb_82 hb_83 hb_84 hS_8 rfl (L1 := [(r0, 16, 29, .int wt_3), (r0, 16, 28, .int wp_3), (r0, 16, 31, .int wb_3), (r0, 16, 30, .int pe), (r0, 16, 9, .ref kp_), (r0, 16, 27, .ref xp)]) [0, 1, 2, 3, 4, 5] rfl rfl (M1 := [(xp, 127, 3300, ca 1, fu_3), (kp_, 110, 3300, ca 1, fb)]) [0, 1] rfl rfl (I1 := []) [] rfl rfl).more hb_85)
        clear hh_3 ht_8 hvm_8 hz_8 hk_8 hS_8 hb_81 hb_82 hb_83 hb_84 hb_85
        obtain ⟨hr_9_0, hr_9_1, hr_9_2⟩ := hr_9
        refine lv_bipush (v := 34) hx hb dX14_readString_26 (by decide) ?_
        refine lv_icmp_eq (tgt := 123) hx hb dX14_readString_28 (by decide) (fun c_10 => ?_) (fun c_10 => ?_)
        · skip
          have c_10' : r_9.toInt = 34 := jb_eq (rfl) ((by decide)) c_10
          refine lv_aload_n hx hb dX14_readString_123 rfl (lv_at hl 0 rfl) ?_
          refine lv_dup hx hb dX14_readString_124 rfl ?_
          refine j7_read hx hb hown hK (C := RX14) (T := TX14) (N := 74) rfl hly_16_29 hlk_273 (hh_8.at 0 rfl) dX14_readString_125 ?_
          refine lv_iconst (v := 1) hx hb dX14_readString_128 (by decide) ?_
          refine lv_iadd hx hb dX14_readString_129 ?_
          refine lv_topi (fun z_11 ez_11 => ?_)
          have hz_11 : z_11.toInt = wt_3.toInt + 1 := by rw [ez_11]; exact jb_iadd2 (rfl) ((by decide)) (by omega)
          refine j7_put hx hb hown hK hh_8 hB hAp hB16 (C := RX14) (T := TX14) (N := 74) rfl (by decide) hg_r0 (i := 29) (by decide) hly_16_29 rfl hlk_273 rfl (ty := .int) (v := .int z_11) (by decide +kernel) rfl rfl (⟨_, rfl, by omega, by omega⟩) rfl (L1 := [(r0, 16, 28, .int wp_3), (r0, 16, 31, .int wb_3), (r0, 16, 30, .int pe), (r0, 16, 9, .ref kp_), (r0, 16, 27, .ref xp)]) [1, 2, 3, 4, 5] rfl rfl rfl dX14_readString_130 (fun H_12 locs_12 hh_12 => ?_)
          clear hh_8
          refine lv_aload_n hx hb dX14_readString_133 rfl (lv_at hl 0 rfl) ?_
          refine lv_iload_n hx hb dX14_readString_134 rfl (lv_at hl 1 rfl) ?_
          refine j7_put hx hb hown hK hh_12 hB hAp hB16 (C := RX14) (T := TX14) (N := 74) rfl (by decide) hg_r0 (i := 32) (by decide) hly_16_32 rfl hlk_301 rfl (ty := .int) (v := .int pp) (by decide +kernel) rfl rfl (⟨_, rfl, by omega, by omega⟩) rfl (L1 := [(r0, 16, 29, .int z_11), (r0, 16, 28, .int wp_3), (r0, 16, 31, .int wb_3), (r0, 16, 30, .int pe), (r0, 16, 9, .ref kp_), (r0, 16, 27, .ref xp)]) [0, 1, 2, 3, 4, 5] rfl rfl rfl dX14_readString_135 (fun H_13 locs_13 hh_13 => ?_)
          clear hh_12
          rw [hQ]
          exact W.vret hx hb hr (fun t ht hW => ⟨⟨(z_11, wp_3, wb_3, pp, fu_3), rfl, by (try dsimp only); have hlt9 := jjK.lt hr_9_0 (by omega); refine ⟨by omega, by omega, by omega, by omega, by omega, by omega, by omega, by omega, ?_⟩; exact (hi_3_7.ok (by omega)).end (jjP_q (jUc.as hr_9_0 (by omega) (by omega)).2 (jUc.as hr_9_0 (by omega) (by omega)).1 (by omega)) (by omega) (by omega) (by omega), ⟨hh_13.rt (M1 := [(r0, 16, 29, .int z_11), (r0, 16, 28, .int wp_3), (r0, 16, 31, .int wb_3), (r0, 16, 32, .int pp)]) [1, 2, 3, 0] rfl ht, by rw [ht]; exact hh_13.2.2.2.2.2.2.2.1.sub [0] rfl⟩⟩, by rw [ht]; try exact hh_13.1.1, fun q h9 hq => by rw [ht]; try exact hh_13.1.2.1 q h9 hq⟩) hh_13.1.2.2 dX14_readString_138
        · skip
          have c_10' : r_9.toInt ≠ 34 := jb_eq_n (rfl) ((by decide)) c_10
          refine lv_aload_n hx hb dX14_readString_31 rfl (lv_at hl 0 rfl) ?_
          refine va_calli (A0 := jA base) (H0 := s.heap) (va_runV (As := []) (rest := []) ⟨hx, hb, hml, hown, hts⟩ (uX14_hereJ l dC dI ca base B hB hAp hB16 hB110 G0 H_8 r0 wt_3 pe kp_ fb) (cwV 0 hts (jgV (jWr_50 _ (List.mem_of_getElem? (i := 20) rfl)) (jWr_50 _ (List.mem_of_getElem? (i := 21) rfl)) (jWr_50 _ (List.mem_of_getElem? (i := 22) rfl)) (jWr_1 _ (List.mem_of_getElem? (i := 5) rfl)) (jWr_50 _ (List.mem_of_getElem? (i := 23) rfl))) rfl rfl rfl (by decide +kernel) ⟨by rw [← hR]; exact Nat.le_of_ble_eq_true rfl, by rw [← hR]; exact Nat.le_of_ble_eq_true rfl⟩) ⟨fun a U g mk q => by obtain ⟨q0, q1, q2, qK, q10, q11, q12, q13, q14⟩ := q; exact ⟨q0, q1, q2, jG.calling g mk a qK, q10, q11, q12, q13, q14⟩, hh_8.recv (C := RX14) (T := TX14) (N := 74) hB16 rfl (by decide) hg_r0 hK, fun U hU hW => ⟨rfl, hU, hh_8.2.1, hG.step hW hU hh_8.1, hg_r0, hg_kp_, (hh_8.2.2.1.sub (L1 := [(r0, 16, 29, .int wt_3), (r0, 16, 30, .int pe), (r0, 16, 9, .ref kp_)]) [0, 3, 4] rfl), (hh_8.2.2.2.2.2.2.2.1.sub (L1 := [(kp_, 110, 3300, ca 1, fb)]) [1] rfl), by first | omega | (refine ⟨?_, ?_, ?_, ?_⟩ <;> (first | omega | rfl | assumption | decide | exact Or.inl rfl | exact Or.inr rfl | (simp only; omega)))⟩⟩ rfl rfl hl.1 rfl (lv_room (Nat.le_of_ble_eq_true rfl)) dX14_readString_32 ⟨Nat.zero_le _, Nat.zero_le _⟩) hh_8.1 (fun q _ h => h) (fun q h => h) (fun r_15 u_14 t_14 H_14 locs_14 ht_14 hvm_14 hr_15 hb_14 hz_14 hk_14 hS_14 => ?_)
          rw [ht_14] at hb_14
          obtain ⟨hb_141, hb_142, hb_143, hb_144, hb_145⟩ := hb_14
          have hh_14 : jSt (dC, dI) B base G0 G0 EX14_readStringJ s.heap 0 0 [(r0, 16, 29, .int wt_3), (r0, 16, 28, .int wp_3), (r0, 16, 31, .int wb_3), (r0, 16, 30, .int pe), (r0, 16, 9, .ref kp_), (r0, 16, 27, .ref xp)] [(xp, 127, 3300, ca 1, fu_3), (kp_, 110, 3300, ca 1, fb)] [] H_14 locs_14 := ((hh_8.call hb_141 hb_142 hb_143 hb_144 hS_14 rfl (L1 := [(r0, 16, 29, .int wt_3), (r0, 16, 28, .int wp_3), (r0, 16, 31, .int wb_3), (r0, 16, 30, .int pe), (r0, 16, 9, .ref kp_), (r0, 16, 27, .ref xp)]) [0, 1, 2, 3, 4, 5] rfl rfl (M1 := [(xp, 127, 3300, ca 1, fu_3), (kp_, 110, 3300, ca 1, fb)]) [0, 1] rfl rfl (I1 := []) [] rfl rfl).more hb_145)
          clear hh_8 ht_14 hvm_14 hz_14 hk_14 hS_14 hb_141 hb_142 hb_143 hb_144 hb_145
          obtain ⟨hr_15_0, hr_15_1, hr_15_2⟩ := hr_15
          have hlt9 : wt_3.toInt < pe.toInt ∨ r_15.toInt = -1 := by by_cases q : wt_3.toInt < pe.toInt; exact Or.inl q; (have h9 := jjK.n (b := jB8 fb) (e := pe.toInt) (a := wt_3.toInt) (by omega); exact Or.inr (by omega))
          refine lv_istore_n (lv' := [(2, .int r_15), (0, .ref r0), (1, .int pp)]) hx hb dX14_readString_35 rfl hl (by decide) rfl (fun ls hl => ?_)
          refine lv_iload_n hx hb dX14_readString_36 rfl (lv_at hl 0 rfl) ?_
          refine lv_bipush (v := 32) hx hb dX14_readString_37 (by decide) ?_
          refine lv_icmp_ge (tgt := 50) hx hb dX14_readString_39 (by decide) (fun c_16 => ?_) (fun c_16 => ?_)
          · skip
            have c_16' : r_15.toInt ≥ 32 := jb_ge (rfl) ((by decide)) c_16
            refine lv_iload_n hx hb dX14_readString_50 rfl (lv_at hl 0 rfl) ?_
            refine lv_bipush (v := 92) hx hb dX14_readString_51 (by decide) ?_
            refine lv_icmp_ne (tgt := 73) hx hb dX14_readString_53 (by decide) (fun c_17 => ?_) (fun c_17 => ?_)
            · skip
              have c_17' : r_15.toInt ≠ 92 := jb_ne (rfl) ((by decide)) c_17
              refine lv_aload_n hx hb dX14_readString_73 rfl (lv_at hl 1 rfl) ?_
              refine lv_aload_n hx hb dX14_readString_74 rfl (lv_at hl 1 rfl) ?_
              refine j7_read hx hb hown hK (C := RX14) (T := TX14) (N := 74) rfl hly_16_9 hlk_20 (hh_14.at 4 rfl) dX14_readString_75 ?_
              refine lv_aload_n hx hb dX14_readString_78 rfl (lv_at hl 1 rfl) ?_
              refine j7_read hx hb hown hK (C := RX14) (T := TX14) (N := 74) rfl hly_16_29 hlk_273 (hh_14.at 0 rfl) dX14_readString_79 ?_
              refine lv_aload_n hx hb dX14_readString_82 rfl (lv_at hl 1 rfl) ?_
              refine j7_read hx hb hown hK (C := RX14) (T := TX14) (N := 74) rfl hly_16_30 hlk_276 (hh_14.at 3 rfl) dX14_readString_83 ?_
              refine va_calli (A0 := jA base) (H0 := s.heap) (va_runV (As := [.ref kp_, .int wt_3, .int pe]) (rest := []) ⟨hx, hb, hml, hown, hts⟩ (uX14_utfLengthJ l dC dI ca base B hB hAp hB16 hB110 G0 H_14 r0 kp_ wt_3 pe 3300 fb) (cwV 3 hts (jgV (jWr_52 _ (List.mem_of_getElem? (i := 14) rfl)) (jWr_52 _ (List.mem_of_getElem? (i := 15) rfl)) (jWr_52 _ (List.mem_of_getElem? (i := 16) rfl)) (jWr_1 _ (List.mem_of_getElem? (i := 5) rfl)) (jWr_52 _ (List.mem_of_getElem? (i := 17) rfl))) rfl rfl rfl (by decide +kernel) ⟨by rw [← hR]; exact Nat.le_of_ble_eq_true rfl, by rw [← hR]; exact Nat.le_of_ble_eq_true rfl⟩) ⟨fun a U g mk q => by obtain ⟨q0, q1, q2, qK, q10, q11, q12, q13, q14⟩ := q; exact ⟨q0, q1, q2, jG.calling g mk a qK, q10, q11, q12, q13, q14⟩, hh_14.recv (C := RX14) (T := TX14) (N := 74) hB16 rfl (by decide) hg_r0 hK, fun U hU hW => ⟨rfl, hU, hh_14.2.1, hG.step hW hU hh_14.1, hg_kp_, hg_r0, jP.nil, (hh_14.2.2.2.2.2.2.2.1.sub (L1 := [(kp_, 110, 3300, ca 1, fb)]) [1] rfl), by first | omega | (refine ⟨?_, ?_, ?_, ?_⟩ <;> (first | omega | rfl | assumption | decide | exact Or.inl rfl | exact Or.inr rfl | (simp only; omega)))⟩⟩ rfl rfl hl.1 rfl (lv_room (Nat.le_of_ble_eq_true rfl)) dX14_readString_86 ⟨Nat.zero_le _, Nat.zero_le _⟩) hh_14.1 (fun q _ h => h) (fun q h => h) (fun r_19 u_18 t_18 H_18 locs_18 ht_18 hvm_18 hr_19 hb_18 hz_18 hk_18 hS_18 => ?_)
              obtain ⟨qc_18, rfl⟩ : ∃ z, z = u_18 := ⟨_, rfl⟩
              rw [ht_18] at hb_18
              obtain ⟨hb_181, hb_182, hb_183, hb_184, hb_185⟩ := hb_18
              have hh_18 : jSt (dC, dI) B base G0 G0 EX14_readStringJ s.heap 0 0 [(r0, 16, 33, .int qc_18), (r0, 16, 29, .int wt_3), (r0, 16, 28, .int wp_3), (r0, 16, 31, .int wb_3), (r0, 16, 30, .int pe), (r0, 16, 9, .ref kp_), (r0, 16, 27, .ref xp)] [(xp, 127, 3300, ca 1, fu_3), (kp_, 110, 3300, ca 1, fb)] [] H_18 locs_18 := ((hh_14.call hb_181 hb_182 hb_183 hb_184 hS_18 rfl (L1 := [(r0, 16, 29, .int wt_3), (r0, 16, 28, .int wp_3), (r0, 16, 31, .int wb_3), (r0, 16, 30, .int pe), (r0, 16, 9, .ref kp_), (r0, 16, 27, .ref xp)]) [0, 1, 2, 3, 4, 5] rfl rfl (M1 := [(xp, 127, 3300, ca 1, fu_3), (kp_, 110, 3300, ca 1, fb)]) [0, 1] rfl rfl (I1 := []) [] rfl rfl).more hb_185)
              clear hh_14 ht_18 hvm_18 hz_18 hk_18 hS_18 hb_181 hb_182 hb_183 hb_184 hb_185
              obtain ⟨hr_19_0, hr_19_1⟩ := hr_19
              refine lv_istore_n (lv' := [(3, .int r_19), (2, .int r_15), (0, .ref r0), (1, .int pp)]) hx hb dX14_readString_89 rfl hl (by decide) rfl (fun ls hl => ?_)
              refine lv_iload_n hx hb dX14_readString_90 rfl (lv_at hl 0 rfl) ?_
              refine lv_if_ne (tgt := 102) hx hb dX14_readString_91 (by decide) (fun c_20 => ?_) (fun c_20 => ?_)
              · skip
                have c_20' : r_19.toInt ≠ 0 := jb_ne (rfl) ((by decide)) c_20
                refine lv_aload_n hx hb dX14_readString_102 rfl (lv_at hl 2 rfl) ?_
                have hq8 := hr_19_0.p (by omega)
                have hsz9 := jUc.sz (b := jB8 fb) (a := wt_3.toInt) (e := pe.toInt) (by rw [← hq8.2.2.2.2.1]; omega) (by omega)
                rw [← hq8.2.2.2.2.1] at hsz9
                have hql : qc_18.toInt < 128 → qc_18.toInt = r_15.toInt := fun h => by have h7 := jUc.low hq8.2.2.2.2.1 (by omega) h; have h6 := jjK.lt hr_15_0 (by omega); omega
                refine lv_aload_n hx hb dX14_readString_103 rfl (lv_at hl 2 rfl) ?_
                refine j7_read hx hb hown hK (C := RX14) (T := TX14) (N := 74) rfl hly_16_33 hlk_357 (hh_18.at 0 rfl) dX14_readString_104 ?_
                refine va_callv (A0 := jA base) (H0 := s.heap) (va_runV (As := [.int qc_18]) (rest := []) ⟨hx, hb, hml, hown, hts⟩ (uX14_unitJ l dC dI ca base B hB hAp hB16 hB127 G0 H_18 r0 qc_18 wp_3 xp fu_3) (cwV 1 hts (jgV (jWr_51 _ (List.mem_of_getElem? (i := 21) rfl)) (jWr_51 _ (List.mem_of_getElem? (i := 22) rfl)) (jWr_51 _ (List.mem_of_getElem? (i := 23) rfl)) (jWr_1 _ (List.mem_of_getElem? (i := 5) rfl)) (jWr_52 _ (List.mem_of_getElem? (i := 0) rfl))) rfl rfl rfl (by decide +kernel) ⟨by rw [← hR]; exact Nat.le_of_ble_eq_true rfl, by rw [← hR]; exact Nat.le_of_ble_eq_true rfl⟩) ⟨fun a U g mk q => by obtain ⟨q0, q1, q2, qK, q10, q11, q12, q13, q14⟩ := q; exact ⟨q0, q1, q2, jG.calling g mk a qK, q10, q11, q12, q13, q14⟩, hh_18.recv (C := RX14) (T := TX14) (N := 74) hB16 rfl (by decide) hg_r0 hK, fun U hU hW => ⟨rfl, hU, hh_18.2.1, hG.step hW hU hh_18.1, hg_r0, hg_xp, (hh_18.2.2.1.sub (L1 := [(r0, 16, 28, .int wp_3), (r0, 16, 27, .ref xp)]) [2, 6] rfl), (hh_18.2.2.2.2.2.2.2.1.sub (L1 := [(xp, 127, 3300, ca 1, fu_3)]) [0] rfl), by first | omega | (refine ⟨?_, ?_, ?_, ?_⟩ <;> (first | omega | rfl | assumption | decide | exact Or.inl rfl | exact Or.inr rfl | (simp only; omega)))⟩⟩ rfl rfl hl.1 rfl (lv_room (Nat.le_of_ble_eq_true rfl)) dX14_readString_107 ⟨Nat.zero_le _, Nat.zero_le _⟩) hh_18.1 (fun q _ h => h) (fun q h => h) (fun u_21 t_21 H_21 locs_21 ht_21 hvm_21 hr_22 hb_21 hz_21 hk_21 hS_21 => ?_)
                obtain ⟨qp_21, gu_21⟩ := u_21
                rw [ht_21] at hb_21
                obtain ⟨⟨hb_211, hb_212, hb_213, hb_214, hb_215⟩, hb_216⟩ := hb_21
                have hh_21 : jSt (dC, dI) B base G0 G0 EX14_readStringJ s.heap 0 0 [(r0, 16, 28, .int qp_21), (r0, 16, 33, .int qc_18), (r0, 16, 29, .int wt_3), (r0, 16, 31, .int wb_3), (r0, 16, 30, .int pe), (r0, 16, 9, .ref kp_), (r0, 16, 27, .ref xp)] [(xp, 127, 3300, ca 1, gu_21), (kp_, 110, 3300, ca 1, fb)] [] H_21 locs_21 := ((hh_18.call hb_211 hb_212 hb_213 hb_214 hS_21 rfl (L1 := [(r0, 16, 33, .int qc_18), (r0, 16, 29, .int wt_3), (r0, 16, 31, .int wb_3), (r0, 16, 30, .int pe), (r0, 16, 9, .ref kp_), (r0, 16, 27, .ref xp)]) [0, 1, 3, 4, 5, 6] rfl rfl (M1 := [(kp_, 110, 3300, ca 1, fb)]) [1] rfl rfl (I1 := []) [] rfl rfl).more hb_215).moreM hb_216
                clear hh_18 ht_21 hvm_21 hz_21 hk_21 hS_21 hb_211 hb_212 hb_213 hb_214 hb_215
                clear hb_216
                try simp only at hr_22
                refine lv_aload_n hx hb dX14_readString_110 rfl (lv_at hl 2 rfl) ?_
                refine lv_dup hx hb dX14_readString_111 rfl ?_
                refine j7_read hx hb hown hK (C := RX14) (T := TX14) (N := 74) rfl hly_16_29 hlk_273 (hh_21.at 2 rfl) dX14_readString_112 ?_
                refine lv_iload_n hx hb dX14_readString_115 rfl (lv_at hl 0 rfl) ?_
                refine lv_iadd hx hb dX14_readString_116 ?_
                refine lv_topi (fun z_23 ez_23 => ?_)
                have hz_23 : z_23.toInt = wt_3.toInt + r_19.toInt := by rw [ez_23]; exact jb_iadd2 (rfl) (rfl) (by omega)
                refine j7_put hx hb hown hK hh_21 hB hAp hB16 (C := RX14) (T := TX14) (N := 74) rfl (by decide) hg_r0 (i := 29) (by decide) hly_16_29 rfl hlk_273 rfl (ty := .int) (v := .int z_23) (by decide +kernel) rfl rfl (⟨_, rfl, by omega, by omega⟩) rfl (L1 := [(r0, 16, 28, .int qp_21), (r0, 16, 33, .int qc_18), (r0, 16, 31, .int wb_3), (r0, 16, 30, .int pe), (r0, 16, 9, .ref kp_), (r0, 16, 27, .ref xp)]) [0, 1, 3, 4, 5, 6] rfl rfl rfl dX14_readString_117 (fun H_24 locs_24 hh_24 => ?_)
                clear hh_21
                refine lv_goto (tgt := 15) hx hb dX14_readString_120 (by decide) ?_
                exact L15 z_23 qp_21 wb_3 gu_21 (kf - 1) _ _ (hh_24.sub (L1 := [(r0, 16, 29, .int z_23), (r0, 16, 28, .int qp_21), (r0, 16, 31, .int wb_3), (r0, 16, 30, .int pe), (r0, 16, 9, .ref kp_), (r0, 16, 27, .ref xp)]) [0, 1, 3, 4, 5, 6] rfl (M1 := [(xp, 127, 3300, ca 1, gu_21), (kp_, 110, 3300, ca 1, fb)]) [0, 1] rfl (I1 := []) [] rfl) (by have hq9 := hr_19_0.p (by omega); rcases hr_22 with ⟨h1, h2, h3, h4, h5⟩ | ⟨h1, h2, h3, h4⟩; (refine ⟨by omega, by omega, by omega, by omega, by omega, by omega, by omega, Or.inl ⟨by omega, ?_⟩⟩; exact (hi_3_7.ok (by omega)).two (jjP_2 (by omega) hq9.2.2.2.2.1 h1 rfl rfl hq9.2.2.2.2.2) (by omega) (by omega) h2 h3 h4 h5); (refine ⟨by omega, by omega, by omega, by omega, by omega, by omega, by omega, Or.inl ⟨by omega, ?_⟩⟩; exact (hi_3_7.ok (by omega)).one (jjP_1 (by omega) hq9.2.2.2.2.1 (by omega) (by omega) (by omega) h1 hq9.2.2.2.2.2) (by omega) (by omega) h2 h3 h4)) (by omega) _ (lv_sub hl [2, 3] rfl)
              · skip
                have c_20' : r_19.toInt = 0 := jb_ne_n (rfl) ((by decide)) c_20
                first | (have hr_19_1q := hr_19_1.resolve_left (by omega); clear hr_19_1) | (have hr_19_1q := hr_19_1.resolve_right (by omega); clear hr_19_1) | skip
                refine lv_aload_n hx hb dX14_readString_94 rfl (lv_at hl 2 rfl) ?_
                refine lv_iconst (v := 1) hx hb dX14_readString_95 (by decide) ?_
                refine j7_put hx hb hown hK hh_18 hB hAp hB16 (C := RX14) (T := TX14) (N := 74) rfl (by decide) hg_r0 (i := 31) (by decide) hly_16_31 rfl hlk_288 rfl (ty := .boolean) (v := .int 1) (by decide +kernel) (jb_nz (Or.inr rfl)) (jb_fz (Or.inr rfl)) (⟨_, rfl, (Or.inr rfl)⟩) rfl (L1 := [(r0, 16, 33, .int qc_18), (r0, 16, 29, .int wt_3), (r0, 16, 28, .int wp_3), (r0, 16, 30, .int pe), (r0, 16, 9, .ref kp_), (r0, 16, 27, .ref xp)]) [0, 1, 2, 4, 5, 6] rfl rfl rfl dX14_readString_96 (fun H_25 locs_25 hh_25 => ?_)
                clear hh_18
                refine lv_goto (tgt := 110) hx hb dX14_readString_99 (by decide) ?_
                refine lv_aload_n hx hb dX14_readString_110 rfl (lv_at hl 2 rfl) ?_
                refine lv_dup hx hb dX14_readString_111 rfl ?_
                refine j7_read hx hb hown hK (C := RX14) (T := TX14) (N := 74) rfl hly_16_29 hlk_273 (hh_25.at 2 rfl) dX14_readString_112 ?_
                refine lv_iload_n hx hb dX14_readString_115 rfl (lv_at hl 0 rfl) ?_
                refine lv_iadd hx hb dX14_readString_116 ?_
                refine lv_topi (fun z_26 ez_26 => ?_)
                have hz_26 : z_26.toInt = wt_3.toInt + r_19.toInt := by rw [ez_26]; exact jb_iadd2 (rfl) (rfl) (by omega)
                refine j7_put hx hb hown hK hh_25 hB hAp hB16 (C := RX14) (T := TX14) (N := 74) rfl (by decide) hg_r0 (i := 29) (by decide) hly_16_29 rfl hlk_273 rfl (ty := .int) (v := .int z_26) (by decide +kernel) rfl rfl (⟨_, rfl, by omega, by omega⟩) rfl (L1 := [(r0, 16, 31, .int 1), (r0, 16, 33, .int qc_18), (r0, 16, 28, .int wp_3), (r0, 16, 30, .int pe), (r0, 16, 9, .ref kp_), (r0, 16, 27, .ref xp)]) [0, 1, 3, 4, 5, 6] rfl rfl rfl dX14_readString_117 (fun H_27 locs_27 hh_27 => ?_)
                clear hh_25
                refine lv_goto (tgt := 15) hx hb dX14_readString_120 (by decide) ?_
                exact L15 z_26 wp_3 1 fu_3 (kf - 1) _ _ (hh_27.sub (L1 := [(r0, 16, 29, .int z_26), (r0, 16, 28, .int wp_3), (r0, 16, 31, .int 1), (r0, 16, 30, .int pe), (r0, 16, 9, .ref kp_), (r0, 16, 27, .ref xp)]) [0, 3, 1, 4, 5, 6] rfl (M1 := [(xp, 127, 3300, ca 1, fu_3), (kp_, 110, 3300, ca 1, fb)]) [0, 1] rfl (I1 := []) [] rfl) (by refine ⟨by omega, by omega, by omega, by omega, by omega, by omega, by omega, ?_⟩; exact jjLw.x (hi_3_7.ok (by omega)) (jjP_c (by omega) rfl (by have h9 := hr_19_0.n (by omega); omega)) (by omega)) (by omega) _ (lv_sub hl [2, 3] rfl)
            · skip
              have c_17' : r_15.toInt = 92 := jb_ne_n (rfl) ((by decide)) c_17
              have hu92 := jUc.as hr_15_0 (by omega) (by omega)
              refine lv_aload_n hx hb dX14_readString_56 rfl (lv_at hl 1 rfl) ?_
              refine lv_dup hx hb dX14_readString_57 rfl ?_
              refine j7_read hx hb hown hK (C := RX14) (T := TX14) (N := 74) rfl hly_16_29 hlk_273 (hh_14.at 0 rfl) dX14_readString_58 ?_
              refine lv_iconst (v := 1) hx hb dX14_readString_61 (by decide) ?_
              refine lv_iadd hx hb dX14_readString_62 ?_
              refine lv_topi (fun z_28 ez_28 => ?_)
              have hz_28 : z_28.toInt = wt_3.toInt + 1 := by rw [ez_28]; exact jb_iadd2 (rfl) ((by decide)) (by omega)
              refine j7_put hx hb hown hK hh_14 hB hAp hB16 (C := RX14) (T := TX14) (N := 74) rfl (by decide) hg_r0 (i := 29) (by decide) hly_16_29 rfl hlk_273 rfl (ty := .int) (v := .int z_28) (by decide +kernel) rfl rfl (⟨_, rfl, by omega, by omega⟩) rfl (L1 := [(r0, 16, 28, .int wp_3), (r0, 16, 31, .int wb_3), (r0, 16, 30, .int pe), (r0, 16, 9, .ref kp_), (r0, 16, 27, .ref xp)]) [1, 2, 3, 4, 5] rfl rfl rfl dX14_readString_63 (fun H_29 locs_29 hh_29 => ?_)
              clear hh_14
              refine lv_aload_n hx hb dX14_readString_66 rfl (lv_at hl 1 rfl) ?_
              refine va_callv (A0 := jA base) (H0 := s.heap) (va_runV (As := []) (rest := []) ⟨hx, hb, hml, hown, hts⟩ (uX14_escapeJ l dC dI ca base B hB hAp hB16 hB110 hB127 G0 H_29 r0 z_28 pe kp_ wp_3 wb_3 xp fb fu_3) (cwV 0 hts (jgV (jWr_51 _ (List.mem_of_getElem? (i := 12) rfl)) (jWr_51 _ (List.mem_of_getElem? (i := 13) rfl)) (jWr_51 _ (List.mem_of_getElem? (i := 14) rfl)) (jWr_1 _ (List.mem_of_getElem? (i := 5) rfl)) (jWr_51 _ (List.mem_of_getElem? (i := 15) rfl))) rfl rfl rfl (by decide +kernel) ⟨by rw [← hR]; exact Nat.le_of_ble_eq_true rfl, by rw [← hR]; exact Nat.le_of_ble_eq_true rfl⟩) ⟨fun a U g mk q => by obtain ⟨q0, q1, q2, qK, q10, q11, q12, q13, q14, q15⟩ := q; exact ⟨q0, q1, q2, jG.calling g mk a qK, q10, q11, q12, q13, q14, q15⟩, hh_29.recv (C := RX14) (T := TX14) (N := 74) hB16 rfl (by decide) hg_r0 hK, fun U hU hW => ⟨rfl, hU, hh_29.2.1, hG.step hW hU hh_29.1, hg_r0, hg_kp_, hg_xp, (hh_29.2.2.1.sub (L1 := [(r0, 16, 29, .int z_28), (r0, 16, 30, .int pe), (r0, 16, 9, .ref kp_), (r0, 16, 28, .int wp_3), (r0, 16, 31, .int wb_3), (r0, 16, 27, .ref xp)]) [0, 3, 4, 1, 2, 5] rfl), (hh_29.2.2.2.2.2.2.2.1.sub (L1 := [(kp_, 110, 3300, ca 1, fb), (xp, 127, 3300, ca 1, fu_3)]) [1, 0] rfl), by first | omega | (refine ⟨?_, ?_, ?_, ?_, ?_, ?_, ?_, ?_, ?_⟩ <;> (first | omega | rfl | assumption | decide | exact Or.inl rfl | exact Or.inr rfl | (simp only; omega)))⟩⟩ rfl rfl hl.1 rfl (lv_room (Nat.le_of_ble_eq_true rfl)) dX14_readString_67 ⟨Nat.zero_le _, Nat.zero_le _⟩) hh_29.1 (fun q _ h => h) (fun q h => h) (fun u_30 t_30 H_30 locs_30 ht_30 hvm_30 hr_31 hb_30 hz_30 hk_30 hS_30 => ?_)
              obtain ⟨qt_30, qp_30, qb_30, gu_30⟩ := u_30
              rw [ht_30] at hb_30
              obtain ⟨⟨hb_301, hb_302, hb_303, hb_304, hb_305⟩, hb_306⟩ := hb_30
              have hh_30 : jSt (dC, dI) B base G0 G0 EX14_readStringJ s.heap 0 0 [(r0, 16, 29, .int qt_30), (r0, 16, 28, .int qp_30), (r0, 16, 31, .int qb_30), (r0, 16, 30, .int pe), (r0, 16, 9, .ref kp_), (r0, 16, 27, .ref xp)] [(xp, 127, 3300, ca 1, gu_30), (kp_, 110, 3300, ca 1, fb)] [] H_30 locs_30 := ((hh_29.call hb_301 hb_302 hb_303 hb_304 hS_30 rfl (L1 := [(r0, 16, 30, .int pe), (r0, 16, 9, .ref kp_), (r0, 16, 27, .ref xp)]) [3, 4, 5] rfl rfl (M1 := [(kp_, 110, 3300, ca 1, fb)]) [1] rfl rfl (I1 := []) [] rfl rfl).more hb_305).moreM hb_306
              clear hh_29 ht_30 hvm_30 hz_30 hk_30 hS_30 hb_301 hb_302 hb_303 hb_304 hb_305
              clear hb_306
              try simp only at hr_31
              obtain ⟨hr_31_0, hr_31_1, hr_31_2, hr_31_3, hr_31_4, hr_31_5, hr_31_6, hr_31_7⟩ := hr_31
              have hq67 := hr_31_0
              rw [show z_28.toInt - 1 = wt_3.toInt by omega] at hq67
              refine lv_goto (tgt := 120) hx hb dX14_readString_70 (by decide) ?_
              refine lv_goto (tgt := 15) hx hb dX14_readString_120 (by decide) ?_
              exact L15 qt_30 qp_30 qb_30 gu_30 (kf - 1) _ _ hh_30 (by rcases (by omega : qb_30.toInt = 0 ∨ qb_30.toInt = 1) with h9 | h9; (refine ⟨by omega, by omega, by omega, by omega, by omega, by omega, by omega, Or.inl ⟨h9, ?_⟩⟩; exact (hi_3_7.ok (by omega)).esc (jjP_e (by omega) hu92.1 (by omega)) hq67 (by omega) (by omega) (by omega)); (refine ⟨by omega, by omega, by omega, by omega, by omega, by omega, by omega, ?_⟩; exact jjLw.x (hi_3_7.ok (by omega)) (by rw [jjP_e (by omega) hu92.1 (by omega)]; exact hq67.z (by omega)) h9)) (by omega) _ (lv_sub hl [1, 2] rfl)
          · skip
            have c_16' : r_15.toInt < 32 := jb_ge_n (rfl) ((by decide)) c_16
            refine lv_aload_n hx hb dX14_readString_42 rfl (lv_at hl 1 rfl) ?_
            refine lv_iconst (v := 1) hx hb dX14_readString_43 (by decide) ?_
            refine j7_put hx hb hown hK hh_14 hB hAp hB16 (C := RX14) (T := TX14) (N := 74) rfl (by decide) hg_r0 (i := 31) (by decide) hly_16_31 rfl hlk_288 rfl (ty := .boolean) (v := .int 1) (by decide +kernel) (jb_nz (Or.inr rfl)) (jb_fz (Or.inr rfl)) (⟨_, rfl, (Or.inr rfl)⟩) rfl (L1 := [(r0, 16, 29, .int wt_3), (r0, 16, 28, .int wp_3), (r0, 16, 30, .int pe), (r0, 16, 9, .ref kp_), (r0, 16, 27, .ref xp)]) [0, 1, 3, 4, 5] rfl rfl rfl dX14_readString_44 (fun H_32 locs_32 hh_32 => ?_)
            clear hh_14
            refine lv_goto (tgt := 120) hx hb dX14_readString_47 (by decide) ?_
            refine lv_goto (tgt := 15) hx hb dX14_readString_120 (by decide) ?_
            exact L15 wt_3 wp_3 1 fu_3 (kf - 1) _ _ (hh_32.sub (L1 := [(r0, 16, 29, .int wt_3), (r0, 16, 28, .int wp_3), (r0, 16, 31, .int 1), (r0, 16, 30, .int pe), (r0, 16, 9, .ref kp_), (r0, 16, 27, .ref xp)]) [1, 2, 0, 3, 4, 5] rfl (M1 := [(xp, 127, 3300, ca 1, fu_3), (kp_, 110, 3300, ca 1, fb)]) [0, 1] rfl (I1 := []) [] rfl) (by refine ⟨by omega, by omega, by omega, by omega, by omega, by omega, by omega, ?_⟩; exact jjLw.x (hi_3_7.ok (by omega)) (jjP_lo hr_15_0 (by omega)) (by omega)) (by omega) _ (lv_sub hl [1, 2] rfl)
  exact L15 (((pe.toInt - (z_1 : Int32).toInt).toNat : Int) + (1 - (pb : Int32).toInt) : Int).toNat.succ z_1 pp pb fu ((pe.toInt - pt.toInt).toNat + 1) _ _ (hh_2.sub (L1 := [(r0, 16, 29, .int z_1), (r0, 16, 28, .int pp), (r0, 16, 31, .int pb), (r0, 16, 30, .int pe), (r0, 16, 9, .ref kp_), (r0, 16, 27, .ref xp)]) [0, 3, 4, 1, 2, 5] rfl (M1 := [(xp, 127, 3300, ca 1, fu), (kp_, 110, 3300, ca 1, fb)]) [1, 0] rfl (I1 := []) [] rfl) (by refine ⟨by omega, by omega, by omega, by omega, by omega, by omega, by omega, Or.inl ⟨by omega, jjLs.start hp9 hp8 (by omega) rfl⟩⟩) (by omega) _ (lv_sub hl [1, 0] rfl)
end
