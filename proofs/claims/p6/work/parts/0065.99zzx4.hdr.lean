section
def EX14_isLetterC : List (Nat × Nat) := []
def EX14_isContentLengthC : List (Nat × Nat) := []
def EX14_isLengthSoFarC : List (Nat × Nat) := []
def EX14_headerByteC : List (Nat × Nat) := [(0, 0), (0, 2), (0, 3), (16, 11), (16, 12), (16, 15), (16, 16), (198, 0)]
set_option maxHeartbeats 4000000 in
set_option maxRecDepth 20000 in
theorem uX14_isLetterC (l : Launch) (dC : Nat → ClassId) (dI : Nat → Nat → Nat) (ca : Nat → ClassId) (base : Nat) (B : jF) (hB : jBok B) (hAp : jAp (dC, dI)) (G0 : jT) (H0 : Heap) (a0 : Int32) : Met l yX14_isLetter (jw yX14_isLetter cX14_isLetter 1 (some .boolean)) ({ frames := 1, cells := 0, slots := 0, locals := 22 }) (va_Pc [.int a0] (fun U => U.heap = H0 ∧ jX B base G0 [] H0 ∧ jG dC dI ca base U ∧ jP (dC, dI) G0 H0 [] ∧ True)) (va_Qi (S := Unit) (fun r u => (r = 0 ∨ r = 1) ∧ ((r.toInt = 1 ∧ ((97 ≤ a0.toInt ∧ a0.toInt ≤ 122) ∨ (65 ≤ a0.toInt ∧ a0.toInt ≤ 90))) ∨ (r.toInt = 0 ∧ (a0.toInt < 97 ∨ 122 < a0.toInt) ∧ (a0.toInt < 65 ∨ 90 < a0.toInt)))) (fun u t => jRt (dC, dI) B base G0 EX14_isLetterC H0 [] t.heap) (jA base)) 0 0 (jA base) := by
  refine Met.ofW (cc := cX14_isLetter) (maxL := 1) (ret := (some .boolean)) (by decide) rfl ?_
  intro p e s m args below meth c s₁ Bd hml hv
  obtain ⟨rfl, hH0, hX, hG, hP0, hp0⟩ := hv
  have hK := hG.1
  have hx := Bd.exec
  have hb := Bd.bytes
  have hr := Bd.returns
  have hts := atoms_spec (ws := (jw yX14_isLetter cX14_isLetter 1 (some .boolean))) Bd.pre
  have htw : ∀ w ∈ jWl, w.before _ s = true := fun w h => hts w (List.mem_cons_of_mem _ h)
  have hown : s.vm.findClass RX14 = some m.cls := findClass_of_methodNamed Bd.named
  have hlocks := Bd.notSynchronized
  obtain ⟨Q, hQ⟩ : ∃ Q, Q = MQ below (va_Qi (S := Unit) (fun r u => (r = 0 ∨ r = 1) ∧ ((r.toInt = 1 ∧ ((97 ≤ a0.toInt ∧ a0.toInt ≤ 122) ∨ (65 ≤ a0.toInt ∧ a0.toInt ≤ 90))) ∨ (r.toInt = 0 ∧ (a0.toInt < 97 ∨ 122 < a0.toInt) ∧ (a0.toInt < 65 ∨ 90 < a0.toInt)))) (fun u t => jRt (dC, dI) B base G0 EX14_isLetterC H0 [] t.heap) (jA base)) ([.int a0] : List Value).toArray s 0 0 (jA base) := ⟨_, rfl⟩
  rw [← hQ]
  have hl := lv_entry ([.int a0]) (n := 1) (Nat.le_of_ble_eq_true rfl)
  rw [lg_entry_eq]
  generalize (lg_sl ([.int a0]) ++ List.replicate (1 - (lg_sl ([.int a0])).length) Slot.unset).toArray = ls at hl ⊢
  have hl : lv_has ls 1 [(0, .int a0)] := hl
  generalize hR : (headSpec (jw yX14_isLetter cX14_isLetter 1 (some .boolean)) ({ frames := 1, cells := 0, slots := 0, locals := 22 })).room = R
  subst hH0
  have hh : jSt (dC, dI) B base G0 G0 EX14_isLetterC s.heap 0 0 [] [] [] s.heap [] := jSt.start hX hP0 jMc.nil jIs.nil
  clear hX hP0
  have hk0 : (0 : Int32).toInt = 0 := by decide
  have hk1 : (1 : Int32).toInt = 1 := by decide
  have hk65 : (65 : Int32).toInt = 65 := by decide
  have hk90 : (90 : Int32).toInt = 90 := by decide
  have hk97 : (97 : Int32).toInt = 97 := by decide
  have hk122 : (122 : Int32).toInt = 122 := by decide
  have hrg_a0 := jb_rng a0
  refine lv_iload_n hx hb dX14_isLetter_0 rfl (lv_at hl 0 rfl) ?_
  refine lv_bipush (v := 97) hx hb dX14_isLetter_1 (by decide) ?_
  refine lv_bipush (v := 122) hx hb dX14_isLetter_3 (by decide) ?_
  refine va_calli (A0 := jA base) (H0 := s.heap) (va_runS (As := [.int a0, .int 97, .int 122]) (rest := []) ⟨hx, hb, hml, hown, hts⟩ (uX14_in l dC dI ca base B hB hAp G0 s.heap a0 97 122) (va_cwS 3 hts (jgS (jWr_48 _ (List.mem_of_getElem? (i := 10) rfl)) (jWr_48 _ (List.mem_of_getElem? (i := 11) rfl)) (jWr_1 _ (List.mem_of_getElem? (i := 5) rfl)) (jWr_48 _ (List.mem_of_getElem? (i := 12) rfl))) rfl rfl rfl (by decide +kernel) ⟨by rw [← hR]; exact Nat.le_of_ble_eq_true rfl, by rw [← hR]; exact Nat.le_of_ble_eq_true rfl⟩) ⟨fun a U g mk q => by obtain ⟨q0, q1, q2, qK, q10, q11⟩ := q; exact ⟨q0, q1, q2, jG.calling g mk a qK, q10, q11⟩, fun U hU hW => ⟨rfl, hU, hh.2.1, hG.step hW hU hh.1, jP.nil, trivial⟩⟩ rfl rfl hl.1 rfl (lv_room (Nat.le_of_ble_eq_true rfl)) dX14_isLetter_5 ⟨Nat.zero_le _, Nat.zero_le _⟩) hh.1 (fun q _ h => h) (fun q h => h) (fun r_2 u_1 t_1 H_1 locs_1 ht_1 hvm_1 hr_2 hb_1 hz_1 hk_1 hS_1 => ?_)
  rw [ht_1] at hb_1
  obtain ⟨hb_11, hb_12, hb_13, hb_14, hb_15⟩ := hb_1
  have hh_1 : jSt (dC, dI) B base G0 G0 EX14_isLetterC s.heap 0 0 [] [] [] H_1 locs_1 := ((hh.call hb_11 hb_12 hb_13 hb_14 hS_1 rfl (L1 := []) [] rfl rfl (M1 := []) [] rfl rfl (I1 := []) [] rfl rfl).more hb_15)
  clear hh ht_1 hvm_1 hz_1 hk_1 hS_1 hb_11 hb_12 hb_13 hb_14 hb_15
  obtain ⟨hr_2b, hr_2p⟩ := hr_2
  obtain ⟨hr_2p_0, hr_2p_1, hr_2p_2⟩ := hr_2p
  have hi5 := jIn.or a0.toInt (97 : Int32).toInt (122 : Int32).toInt
  have hr_2' := jb_01 hr_2b
  refine lv_if_ne (tgt := 22) hx hb dX14_isLetter_8 (by decide) (fun c_3 => ?_) (fun c_3 => ?_)
  · skip
    have c_3' : r_2.toInt ≠ 0 := jb_ne (rfl) ((by decide)) c_3
    refine lv_iconst (v := 1) hx hb dX14_isLetter_22 (by decide) ?_
    refine lv_goto (tgt := 27) hx hb dX14_isLetter_23 (by decide) ?_
    rw [hQ]
    exact W.zret (v := 1) hx hb hr (jb_nz (Or.inr rfl)) (fun t ht hW => ⟨⟨1, (), rfl, ⟨(Or.inr rfl), by omega⟩, hh_1.rt (M1 := []) [] rfl ht⟩, by rw [ht]; try exact hh_1.1.1, fun q h9 hq => by rw [ht]; try exact hh_1.1.2.1 q h9 hq⟩) hh_1.1.2.2 dX14_isLetter_27
  · skip
    have c_3' : r_2.toInt = 0 := jb_ne_n (rfl) ((by decide)) c_3
    refine lv_iload_n hx hb dX14_isLetter_11 rfl (lv_at hl 0 rfl) ?_
    refine lv_bipush (v := 65) hx hb dX14_isLetter_12 (by decide) ?_
    refine lv_bipush (v := 90) hx hb dX14_isLetter_14 (by decide) ?_
    refine va_calli (A0 := jA base) (H0 := s.heap) (va_runS (As := [.int a0, .int 65, .int 90]) (rest := []) ⟨hx, hb, hml, hown, hts⟩ (uX14_in l dC dI ca base B hB hAp G0 H_1 a0 65 90) (va_cwS 3 hts (jgS (jWr_48 _ (List.mem_of_getElem? (i := 10) rfl)) (jWr_48 _ (List.mem_of_getElem? (i := 11) rfl)) (jWr_1 _ (List.mem_of_getElem? (i := 5) rfl)) (jWr_48 _ (List.mem_of_getElem? (i := 12) rfl))) rfl rfl rfl (by decide +kernel) ⟨by rw [← hR]; exact Nat.le_of_ble_eq_true rfl, by rw [← hR]; exact Nat.le_of_ble_eq_true rfl⟩) ⟨fun a U g mk q => by obtain ⟨q0, q1, q2, qK, q10, q11⟩ := q; exact ⟨q0, q1, q2, jG.calling g mk a qK, q10, q11⟩, fun U hU hW => ⟨rfl, hU, hh_1.2.1, hG.step hW hU hh_1.1, jP.nil, trivial⟩⟩ rfl rfl hl.1 rfl (lv_room (Nat.le_of_ble_eq_true rfl)) dX14_isLetter_16 ⟨Nat.zero_le _, Nat.zero_le _⟩) hh_1.1 (fun q _ h => h) (fun q h => h) (fun r_5 u_4 t_4 H_4 locs_4 ht_4 hvm_4 hr_5 hb_4 hz_4 hk_4 hS_4 => ?_)
    rw [ht_4] at hb_4
    obtain ⟨hb_41, hb_42, hb_43, hb_44, hb_45⟩ := hb_4
    have hh_4 : jSt (dC, dI) B base G0 G0 EX14_isLetterC s.heap 0 0 [] [] [] H_4 locs_4 := ((hh_1.call hb_41 hb_42 hb_43 hb_44 hS_4 rfl (L1 := []) [] rfl rfl (M1 := []) [] rfl rfl (I1 := []) [] rfl rfl).more hb_45)
    clear hh_1 ht_4 hvm_4 hz_4 hk_4 hS_4 hb_41 hb_42 hb_43 hb_44 hb_45
    obtain ⟨hr_5b, hr_5p⟩ := hr_5
    obtain ⟨hr_5p_0, hr_5p_1, hr_5p_2⟩ := hr_5p
    have hi16 := jIn.or a0.toInt (65 : Int32).toInt (90 : Int32).toInt
    have hr_5' := jb_01 hr_5b
    refine lv_if_eq (tgt := 26) hx hb dX14_isLetter_19 (by decide) (fun c_6 => ?_) (fun c_6 => ?_)
    · skip
      have c_6' : r_5.toInt = 0 := jb_eq (rfl) ((by decide)) c_6
      refine lv_iconst (v := 0) hx hb dX14_isLetter_26 (by decide) ?_
      rw [hQ]
      exact W.zret (v := 0) hx hb hr (jb_nz (Or.inl rfl)) (fun t ht hW => ⟨⟨0, (), rfl, ⟨(Or.inl rfl), by omega⟩, hh_4.rt (M1 := []) [] rfl ht⟩, by rw [ht]; try exact hh_4.1.1, fun q h9 hq => by rw [ht]; try exact hh_4.1.2.1 q h9 hq⟩) hh_4.1.2.2 dX14_isLetter_27
    · skip
      have c_6' : r_5.toInt ≠ 0 := jb_eq_n (rfl) ((by decide)) c_6
      refine lv_iconst (v := 1) hx hb dX14_isLetter_22 (by decide) ?_
      refine lv_goto (tgt := 27) hx hb dX14_isLetter_23 (by decide) ?_
      rw [hQ]
      exact W.zret (v := 1) hx hb hr (jb_nz (Or.inr rfl)) (fun t ht hW => ⟨⟨1, (), rfl, ⟨(Or.inr rfl), by omega⟩, hh_4.rt (M1 := []) [] rfl ht⟩, by rw [ht]; try exact hh_4.1.1, fun q h9 hq => by rw [ht]; try exact hh_4.1.2.1 q h9 hq⟩) hh_4.1.2.2 dX14_isLetter_27
set_option maxHeartbeats 4000000 in
set_option maxRecDepth 20000 in
theorem uX14_isContentLengthC (l : Launch) (dC : Nat → ClassId) (dI : Nat → Nat → Nat) (ca : Nat → ClassId) (base : Nat) (B : jF) (hB : jBok B) (hAp : jAp (dC, dI)) (hB0 : ∀ n G a H, B 0 n G a H ↔ jOb (dC, dI) 0 4 (Fz0 n G) a H) (hB16 : ∀ n G a H, B 16 n G a H ↔ jOb (dC, dI) 16 74 (F16 n G) a H) (hB198 : ∀ n G a H, B 198 n G a H ↔ jAr (dC, dI) (ca 0) (fun j z => jBf j z) n a H) (G0 : jT) (H0 : Heap) (r0 : Nat) (bn : Nat) (pc : Int32) (pa : Nat) (n_pa : Nat) (fv : Nat → Int32) : Met l yX14_isContentLength (jw yX14_isContentLength cX14_isContentLength 4 (some .boolean)) ({ frames := 4, cells := 0, slots := 0, locals := 141 }) (va_Pc [.ref r0] (fun U => U.heap = H0 ∧ jX B base G0 [] H0 ∧ jG dC dI ca base U ∧ G0 r0 = some (16, 0) ∧ G0 bn = some (0, 0) ∧ G0 pa = some (198, n_pa) ∧ jP (dC, dI) G0 H0 [(r0, 16, 13, .ref bn), (bn, 0, 3, .int pc), (bn, 0, 0, .ref pa)] ∧ jMc (dC, dI) G0 H0 [(pa, 198, n_pa, ca 0, fv)] ∧ 0 ≤ pc.toInt ∧ pc.toInt ≤ n_pa ∧ n_pa ≤ 1000)) (va_Qi (S := Unit) (fun r u => (r = 0 ∨ r = 1) ∧ (r.toInt = jfCl fv pc.toInt)) (fun u t => jRt (dC, dI) B base G0 EX14_isContentLengthC H0 [] t.heap) (jA base)) 0 0 (jA base) := by
  refine Met.ofW (cc := cX14_isContentLength) (maxL := 4) (ret := (some .boolean)) (by decide) rfl ?_
  intro p e s m args below meth c s₁ Bd hml hv
  obtain ⟨rfl, hH0, hX, hG, hg_r0, hg_bn, hg_pa, hP0, hM0, hp0, hp1, hp2⟩ := hv
  have hK := hG.1
  have hx := Bd.exec
  have hb := Bd.bytes
  have hr := Bd.returns
  have hts := atoms_spec (ws := (jw yX14_isContentLength cX14_isContentLength 4 (some .boolean))) Bd.pre
  have htw : ∀ w ∈ jWl, w.before _ s = true := fun w h => hts w (List.mem_cons_of_mem _ h)
  have hown : s.vm.findClass RX14 = some m.cls := findClass_of_methodNamed Bd.named
  have hlocks := Bd.notSynchronized
  obtain ⟨Q, hQ⟩ : ∃ Q, Q = MQ below (va_Qi (S := Unit) (fun r u => (r = 0 ∨ r = 1) ∧ (r.toInt = jfCl fv pc.toInt)) (fun u t => jRt (dC, dI) B base G0 EX14_isContentLengthC H0 [] t.heap) (jA base)) ([.ref r0] : List Value).toArray s 0 0 (jA base) := ⟨_, rfl⟩
  rw [← hQ]
  have hl := lv_entry ([.ref r0]) (n := 4) (Nat.le_of_ble_eq_true rfl)
  rw [lg_entry_eq]
  generalize (lg_sl ([.ref r0]) ++ List.replicate (4 - (lg_sl ([.ref r0])).length) Slot.unset).toArray = ls at hl ⊢
  have hl : lv_has ls 4 [(0, .ref r0)] := hl
  generalize hR : (headSpec (jw yX14_isContentLength cX14_isContentLength 4 (some .boolean)) ({ frames := 4, cells := 0, slots := 0, locals := 141 })).room = R
  subst hH0
  have hh : jSt (dC, dI) B base G0 G0 EX14_isContentLengthC s.heap 0 0 [(r0, 16, 13, .ref bn), (bn, 0, 3, .int pc), (bn, 0, 0, .ref pa)] [(pa, 198, n_pa, ca 0, fv)] [] s.heap [] := jSt.start hX hP0 hM0 jIs.nil
  clear hX hP0
  have hk0 : (0 : Int32).toInt = 0 := by decide
  have hk1 : (1 : Int32).toInt = 1 := by decide
  have hk32 : (32 : Int32).toInt = 32 := by decide
  have hk65 : (65 : Int32).toInt = 65 := by decide
  have hk90 : (90 : Int32).toInt = 90 := by decide
  have hly_16_13 := htw (u_lay RX14 TX14 13) (jWc_wsX140 _ (u_in_lay (by decide)))
  obtain ⟨str220, rstr220, hstr2200⟩ := hG.strT (o := RX14) (k := 220) (tx := "content-length") (List.mem_of_getElem? (i := 2274) (by decide +kernel))
  have hTstr220 : jStrF base str220 14 (jChT "content-length") s s.heap := hstr2200.F (by decide +kernel)
  have hstr220 : jStr base str220 14 s s.heap := hTstr220.str
  have hlk_26 := (htw (.fieldLink RX14 26 "ProofServerModel" "name" "Ljava/lang/StringBuilder;") (jWr_11 _ (List.mem_of_getElem? (i := 1) rfl)))
  refine va_ldcS hx hb hown rstr220 dX14_isContentLength_0 ?_
  refine lv_astore_n (lv' := [(1, .ref str220), (0, .ref r0)]) hx hb dX14_isContentLength_2 rfl hl (by decide) rfl (fun ls hl => ?_)
  refine lv_aload_n hx hb dX14_isContentLength_3 rfl (lv_at hl 1 rfl) ?_
  refine j7_read hx hb hown hK (C := RX14) (T := TX14) (N := 74) rfl hly_16_13 hlk_26 (hh.at 0 rfl) dX14_isContentLength_4 ?_
  refine va_calli (A0 := jA base) (H0 := s.heap) (va_runV (As := []) (rest := []) ⟨hx, hb, hml, hown, hts⟩ (uJ4_length_8abf5 l dC dI ca base B hB hAp hB0 G0 s.heap bn pc) (cwV 0 hts (jgV (jWr_48 _ (List.mem_of_getElem? (i := 17) rfl)) (jWr_48 _ (List.mem_of_getElem? (i := 18) rfl)) (jWr_48 _ (List.mem_of_getElem? (i := 19) rfl)) (jWr_11 _ (List.mem_of_getElem? (i := 0) rfl)) (jWr_48 _ (List.mem_of_getElem? (i := 20) rfl))) rfl rfl rfl (by decide +kernel) ⟨by rw [← hR]; exact Nat.le_of_ble_eq_true rfl, by rw [← hR]; exact Nat.le_of_ble_eq_true rfl⟩) ⟨fun a U g mk q => by obtain ⟨q0, q1, q2, qK, q10, q11, q12⟩ := q; exact ⟨q0, q1, q2, jG.calling g mk a qK, q10, q11, q12⟩, hh.recv (C := RJ4) (T := TJ4) (N := 4) hB0 rfl (by decide) hg_bn hK, fun U hU hW => ⟨rfl, hU, hh.2.1, hG.step hW hU hh.1, hg_bn, (hh.2.2.1.sub (L1 := [(bn, 0, 3, .int pc)]) [1] rfl), trivial⟩⟩ rfl rfl hl.1 rfl (lv_room (Nat.le_of_ble_eq_true rfl)) dX14_isContentLength_7 ⟨Nat.zero_le _, Nat.zero_le _⟩) hh.1 (fun q _ h => h) (fun q h => h) (fun r_2 u_1 t_1 H_1 locs_1 ht_1 hvm_1 hr_2 hb_1 hz_1 hk_1 hS_1 => ?_)
  rw [ht_1] at hb_1
  obtain ⟨hb_11, hb_12, hb_13, hb_14, hb_15⟩ := hb_1
  have hh_1 : jSt (dC, dI) B base G0 G0 EX14_isContentLengthC s.heap 0 0 [(r0, 16, 13, .ref bn), (bn, 0, 3, .int pc), (bn, 0, 0, .ref pa)] [(pa, 198, n_pa, ca 0, fv)] [] H_1 locs_1 := ((hh.call hb_11 hb_12 hb_13 hb_14 hS_1 rfl (L1 := [(r0, 16, 13, .ref bn), (bn, 0, 3, .int pc), (bn, 0, 0, .ref pa)]) [0, 1, 2] rfl rfl (M1 := [(pa, 198, n_pa, ca 0, fv)]) [0] rfl rfl (I1 := []) [] rfl rfl).more hb_15)
  clear hh ht_1 hvm_1 hz_1 hk_1 hS_1 hb_11 hb_12 hb_13 hb_14 hb_15
  refine lv_aload_n hx hb dX14_isContentLength_10 rfl (lv_at hl 0 rfl) ?_
  refine vp_callSi (W.runV (As := []) (rest := [.int r_2]) ⟨hx, hb, hml, hown, hts⟩ (wJ0_length_8abf5 l dC dI ca base H_1 str220 14) (cwV 0 hts (jgV (jWr_49 _ (List.mem_of_getElem? (i := 1) rfl)) (jWr_5 _ (List.mem_of_getElem? (i := 13) rfl)) (jWr_5 _ (List.mem_of_getElem? (i := 14) rfl)) (jWr_5 _ (List.mem_of_getElem? (i := 15) rfl)) (jWr_5 _ (List.mem_of_getElem? (i := 16) rfl))) rfl rfl rfl (by decide +kernel) ⟨by rw [← hR]; exact Nat.le_of_ble_eq_true rfl, by rw [← hR]; exact Nat.le_of_ble_eq_true rfl⟩) ⟨fun a U g mk q => by obtain ⟨q0, q1, q2, qK, q9⟩ := q; exact ⟨q0, q1, (q2.moved (Vm.Alike.refl U.vm)), jG.calling g mk a qK, q9⟩, jStr_recv hstr220 hh_1.1, fun U hU hW => ⟨rfl, hU, (hstr220.moved hW.alike).kept hh_1.1.2.1, hG.step hW hU hh_1.1, by omega⟩⟩ rfl rfl hl.1 rfl (lv_room (Nat.le_of_ble_eq_true rfl)) dX14_isContentLength_11 ⟨Nat.zero_le _, Nat.zero_le _⟩) (fun r_3 hr_3 => ?_)
  refine lv_icmp_eq (tgt := 19) hx hb dX14_isContentLength_14 (by decide) (fun c_4 => ?_) (fun c_4 => ?_)
  · skip
    have c_4' : r_2.toInt = r_3.toInt := jb_eq (rfl) (rfl) c_4
    refine lv_iconst (v := 0) hx hb dX14_isContentLength_19 (by decide) ?_
    refine lv_istore_n (lv' := [(2, .int 0), (1, .ref str220), (0, .ref r0)]) hx hb dX14_isContentLength_20 rfl hl (by decide) rfl (fun ls hl => ?_)
    have L21 : ∀ (N : Nat) (v2_5 : Int32) (H_5 : Heap) (locs_5 : List Loc), jSt (dC, dI) B base G0 G0 EX14_isContentLengthC s.heap 0 0 [(r0, 16, 13, .ref bn), (bn, 0, 3, .int pc), (bn, 0, 0, .ref pa)] [(pa, 198, n_pa, ca 0, fv)] [] H_5 locs_5 → (0 ≤ v2_5.toInt ∧ v2_5.toInt ≤ 14 ∧ jfCe fv (v2_5.toInt).toNat = 1) → (14 - v2_5.toInt : Int) < N → ∀ ls : Array Slot, lv_has ls 4 [(0, .ref r0), (1, .ref str220), (2, .int v2_5)] → W p l e R s m ([.ref r0] : List Value).toArray below meth c H_5 locs_5 0 0 Q (F0 m 21 ls []) := by
      intro N
      induction N with
      | zero => intro v2_5 H_5 locs_5 hh_5  hi_5 hm; exact absurd hm (by omega)
      | succ N L21 =>
        intro v2_5 H_5 locs_5 hh_5  hi_5 hm_5 ls hl
        obtain ⟨hi_5_0, hi_5_1, hi_5_2⟩ := hi_5
        refine lv_iload_n hx hb dX14_isContentLength_21 rfl (lv_at hl 2 rfl) ?_
        refine lv_aload_n hx hb dX14_isContentLength_22 rfl (lv_at hl 1 rfl) ?_
        refine vp_callSi (W.runV (As := []) (rest := [.int v2_5]) ⟨hx, hb, hml, hown, hts⟩ (wJ0_length_8abf5 l dC dI ca base H_5 str220 14) (cwV 0 hts (jgV (jWr_49 _ (List.mem_of_getElem? (i := 1) rfl)) (jWr_5 _ (List.mem_of_getElem? (i := 13) rfl)) (jWr_5 _ (List.mem_of_getElem? (i := 14) rfl)) (jWr_5 _ (List.mem_of_getElem? (i := 15) rfl)) (jWr_5 _ (List.mem_of_getElem? (i := 16) rfl))) rfl rfl rfl (by decide +kernel) ⟨by rw [← hR]; exact Nat.le_of_ble_eq_true rfl, by rw [← hR]; exact Nat.le_of_ble_eq_true rfl⟩) ⟨fun a U g mk q => by obtain ⟨q0, q1, q2, qK, q9⟩ := q; exact ⟨q0, q1, (q2.moved (Vm.Alike.refl U.vm)), jG.calling g mk a qK, q9⟩, jStr_recv hstr220 hh_5.1, fun U hU hW => ⟨rfl, hU, (hstr220.moved hW.alike).kept hh_5.1.2.1, hG.step hW hU hh_5.1, by omega⟩⟩ rfl rfl hl.1 rfl (lv_room (Nat.le_of_ble_eq_true rfl)) dX14_isContentLength_23 ⟨Nat.zero_le _, Nat.zero_le _⟩) (fun r_6 hr_6 => ?_)
        refine lv_icmp_ge (tgt := 73) hx hb dX14_isContentLength_26 (by decide) (fun c_7 => ?_) (fun c_7 => ?_)
        · skip
          have c_7' : v2_5.toInt ≥ r_6.toInt := jb_ge (rfl) (rfl) c_7
          refine lv_iconst (v := 1) hx hb dX14_isContentLength_73 (by decide) ?_
          rw [hQ]
          exact W.zret (v := 1) hx hb hr (jb_nz (Or.inr rfl)) (fun t ht hW => ⟨⟨1, (), rfl, ⟨(Or.inr rfl), by unfold jfCl; rw [if_pos (by omega)]; have h9 := hi_5_2; rw [show v2_5.toInt.toNat = 14 by omega] at h9; rw [h9]; exact hk1⟩, hh_5.rt (M1 := []) [] rfl ht⟩, by rw [ht]; try exact hh_5.1.1, fun q h9 hq => by rw [ht]; try exact hh_5.1.2.1 q h9 hq⟩) hh_5.1.2.2 dX14_isContentLength_74
        · skip
          have c_7' : v2_5.toInt < r_6.toInt := jb_ge_n (rfl) (rfl) c_7
          refine lv_aload_n hx hb dX14_isContentLength_29 rfl (lv_at hl 0 rfl) ?_
          refine j7_read hx hb hown hK (C := RX14) (T := TX14) (N := 74) rfl hly_16_13 hlk_26 (hh_5.at 0 rfl) dX14_isContentLength_30 ?_
          refine lv_iload_n hx hb dX14_isContentLength_33 rfl (lv_at hl 2 rfl) ?_
          refine va_calli (A0 := jA base) (H0 := s.heap) (va_runV (As := [.int v2_5]) (rest := []) ⟨hx, hb, hml, hown, hts⟩ (uJ4_charAt_5068e l dC dI ca base B hB hAp hB0 hB198 G0 H_5 bn v2_5 pc pa n_pa fv) (cwV 1 hts (jgV (jWr_49 _ (List.mem_of_getElem? (i := 2) rfl)) (jWr_49 _ (List.mem_of_getElem? (i := 3) rfl)) (jWr_49 _ (List.mem_of_getElem? (i := 4) rfl)) (jWr_11 _ (List.mem_of_getElem? (i := 0) rfl)) (jWr_49 _ (List.mem_of_getElem? (i := 5) rfl))) rfl rfl rfl (by decide +kernel) ⟨by rw [← hR]; exact Nat.le_of_ble_eq_true rfl, by rw [← hR]; exact Nat.le_of_ble_eq_true rfl⟩) ⟨fun a U g mk q => by obtain ⟨q0, q1, q2, qK, q10, q11, q12, q13, q14⟩ := q; exact ⟨q0, q1, q2, jG.calling g mk a qK, q10, q11, q12, q13, q14⟩, hh_5.recv (C := RJ4) (T := TJ4) (N := 4) hB0 rfl (by decide) hg_bn hK, fun U hU hW => ⟨rfl, hU, hh_5.2.1, hG.step hW hU hh_5.1, hg_bn, hg_pa, (hh_5.2.2.1.sub (L1 := [(bn, 0, 3, .int pc), (bn, 0, 0, .ref pa)]) [1, 2] rfl), (hh_5.2.2.2.2.2.2.2.1.sub (L1 := [(pa, 198, n_pa, ca 0, fv)]) [0] rfl), by first | omega | (refine ⟨?_, ?_, ?_, ?_⟩ <;> (first | omega | rfl | assumption | decide | exact Or.inl rfl | exact Or.inr rfl | (simp only; omega)))⟩⟩ rfl rfl hl.1 rfl (lv_room (Nat.le_of_ble_eq_true rfl)) dX14_isContentLength_34 ⟨Nat.zero_le _, Nat.zero_le _⟩) hh_5.1 (fun q _ h => h) (fun q h => h) (fun r_9 u_8 t_8 H_8 locs_8 ht_8 hvm_8 hr_9 hb_8 hz_8 hk_8 hS_8 => ?_)
          rw [ht_8] at hb_8
          obtain ⟨hb_81, hb_82, hb_83, hb_84, hb_85⟩ := hb_8
          have hh_8 : jSt (dC, dI) B base G0 G0 EX14_isContentLengthC s.heap 0 0 [(r0, 16, 13, .ref bn), (bn, 0, 3, .int pc), (bn, 0, 0, .ref pa)] [(pa, 198, n_pa, ca 0, fv)] [] H_8 locs_8 := ((hh_5.call hb_81 hb_82 hb_83 hb_84 hS_8 rfl (L1 := [(r0, 16, 13, .ref bn), (bn, 0, 3, .int pc), (bn, 0, 0, .ref pa)]) [0, 1, 2] rfl rfl (M1 := [(pa, 198, n_pa, ca 0, fv)]) [0] rfl rfl (I1 := []) [] rfl rfl).more hb_85)
          clear hh_5 ht_8 hvm_8 hz_8 hk_8 hS_8 hb_81 hb_82 hb_83 hb_84 hb_85
          obtain ⟨hr_9_0, hr_9_1, hr_9_2⟩ := hr_9
          refine lv_istore_n (lv' := [(3, .int r_9), (0, .ref r0), (1, .ref str220), (2, .int v2_5)]) hx hb dX14_isContentLength_37 rfl hl (by decide) rfl (fun ls hl => ?_)
          refine lv_iload_n hx hb dX14_isContentLength_38 rfl (lv_at hl 0 rfl) ?_
          refine lv_bipush (v := 65) hx hb dX14_isContentLength_39 (by decide) ?_
          refine lv_bipush (v := 90) hx hb dX14_isContentLength_41 (by decide) ?_
          refine va_calli (A0 := jA base) (H0 := s.heap) (va_runS (As := [.int r_9, .int 65, .int 90]) (rest := []) ⟨hx, hb, hml, hown, hts⟩ (uX14_in l dC dI ca base B hB hAp G0 H_8 r_9 65 90) (va_cwS 3 hts (jgS (jWr_48 _ (List.mem_of_getElem? (i := 10) rfl)) (jWr_48 _ (List.mem_of_getElem? (i := 11) rfl)) (jWr_1 _ (List.mem_of_getElem? (i := 5) rfl)) (jWr_48 _ (List.mem_of_getElem? (i := 12) rfl))) rfl rfl rfl (by decide +kernel) ⟨by rw [← hR]; exact Nat.le_of_ble_eq_true rfl, by rw [← hR]; exact Nat.le_of_ble_eq_true rfl⟩) ⟨fun a U g mk q => by obtain ⟨q0, q1, q2, qK, q10, q11⟩ := q; exact ⟨q0, q1, q2, jG.calling g mk a qK, q10, q11⟩, fun U hU hW => ⟨rfl, hU, hh_8.2.1, hG.step hW hU hh_8.1, jP.nil, trivial⟩⟩ rfl rfl hl.1 rfl (lv_room (Nat.le_of_ble_eq_true rfl)) dX14_isContentLength_43 ⟨Nat.zero_le _, Nat.zero_le _⟩) hh_8.1 (fun q _ h => h) (fun q h => h) (fun r_11 u_10 t_10 H_10 locs_10 ht_10 hvm_10 hr_11 hb_10 hz_10 hk_10 hS_10 => ?_)
          rw [ht_10] at hb_10
          obtain ⟨hb_101, hb_102, hb_103, hb_104, hb_105⟩ := hb_10
          have hh_10 : jSt (dC, dI) B base G0 G0 EX14_isContentLengthC s.heap 0 0 [(r0, 16, 13, .ref bn), (bn, 0, 3, .int pc), (bn, 0, 0, .ref pa)] [(pa, 198, n_pa, ca 0, fv)] [] H_10 locs_10 := ((hh_8.call hb_101 hb_102 hb_103 hb_104 hS_10 rfl (L1 := [(r0, 16, 13, .ref bn), (bn, 0, 3, .int pc), (bn, 0, 0, .ref pa)]) [0, 1, 2] rfl rfl (M1 := [(pa, 198, n_pa, ca 0, fv)]) [0] rfl rfl (I1 := []) [] rfl rfl).more hb_105)
          clear hh_8 ht_10 hvm_10 hz_10 hk_10 hS_10 hb_101 hb_102 hb_103 hb_104 hb_105
          obtain ⟨hr_11b, hr_11p⟩ := hr_11
          obtain ⟨hr_11p_0, hr_11p_1, hr_11p_2⟩ := hr_11p
          have hi43 := jIn.or r_9.toInt (65 : Int32).toInt (90 : Int32).toInt
          have hr_11' := jb_01 hr_11b
          refine lv_if_eq (tgt := 56) hx hb dX14_isContentLength_46 (by decide) (fun c_12 => ?_) (fun c_12 => ?_)
          · skip
            have c_12' : r_11.toInt = 0 := jb_eq (rfl) ((by decide)) c_12
            refine lv_iload_n hx hb dX14_isContentLength_56 rfl (lv_at hl 0 rfl) ?_
            refine lv_aload_n hx hb dX14_isContentLength_57 rfl (lv_at hl 2 rfl) ?_
            refine lv_iload_n hx hb dX14_isContentLength_58 rfl (lv_at hl 3 rfl) ?_
            refine vp_callSi (W.runV (As := [.int v2_5]) (rest := [.int r_9]) ⟨hx, hb, hml, hown, hts⟩ (eJ0_charAt_5068e l dC dI ca base H_10 str220 14 (jChT "content-length") v2_5) (cwV 1 hts (jgV (jWr_49 _ (List.mem_of_getElem? (i := 13) rfl)) (jWr_6 _ (List.mem_of_getElem? (i := 1) rfl)) (jWr_6 _ (List.mem_of_getElem? (i := 2) rfl)) (jWr_5 _ (List.mem_of_getElem? (i := 15) rfl)) (jWr_6 _ (List.mem_of_getElem? (i := 3) rfl))) rfl rfl rfl (by decide +kernel) ⟨by rw [← hR]; exact Nat.le_of_ble_eq_true rfl, by rw [← hR]; exact Nat.le_of_ble_eq_true rfl⟩) ⟨fun a U g mk q => by obtain ⟨q0, q1, q2, qK, q9⟩ := q; exact ⟨q0, q1, (q2.moved (Vm.Alike.refl U.vm)), jG.calling g mk a qK, q9⟩, jStr_recv hstr220 hh_10.1, fun U hU hW => ⟨rfl, hU, (hTstr220.moved hW.alike).kept hh_10.1.2.1, hG.step hW hU hh_10.1, ⟨by omega, by omega, by omega⟩⟩⟩ rfl rfl hl.1 rfl (lv_room (Nat.le_of_ble_eq_true rfl)) dX14_isContentLength_59 ⟨Nat.zero_le _, Nat.zero_le _⟩) (fun r_13 hr_13 => ?_)
            have hch : r_13.toInt = jfC v2_5.toInt := by unfold jfC; rw [hr_13]
            refine lv_icmp_eq (tgt := 67) hx hb dX14_isContentLength_62 (by decide) (fun c_14 => ?_) (fun c_14 => ?_)
            · skip
              have c_14' : r_9.toInt = r_13.toInt := jb_eq (rfl) (rfl) c_14
              obtain ⟨z_15, ez_15⟩ : ∃ y : Int32, y = v2_5 + 1 := ⟨_, rfl⟩
              refine lv_iinc (v := z_15) (lv' := [(2, .int z_15), (3, .int r_9), (0, .ref r0), (1, .ref str220)]) hx hb dX14_isContentLength_67 hl (k := 3) rfl (by rw [ez_15]; rfl) (by decide) rfl (fun ls hl => ?_)
              have hz_15 : z_15.toInt = v2_5.toInt + 1 := by rw [ez_15]; exact jb_iadd2 (rfl) (by decide) (by omega)
              refine lv_goto (tgt := 21) hx hb dX14_isContentLength_70 (by decide) ?_
              exact L21 z_15 _ _ hh_10 (by refine ⟨by omega, by omega, ?_⟩; rw [show (z_15).toInt.toNat = v2_5.toInt.toNat + 1 by omega]; exact jfCe_1 hi_5_2 (by rw [← hr_9_2, show ((v2_5.toInt.toNat : Nat) : Int) = v2_5.toInt by omega, ← hch]; have hsm := jfSm.k r_9.toInt; omega)) (by omega) _ (lv_sub hl [2, 3, 0] rfl)
            · skip
              have c_14' : r_9.toInt ≠ r_13.toInt := jb_eq_n (rfl) (rfl) c_14
              refine lv_iconst (v := 0) hx hb dX14_isContentLength_65 (by decide) ?_
              rw [hQ]
              exact W.zret (v := 0) hx hb hr (jb_nz (Or.inl rfl)) (fun t ht hW => ⟨⟨0, (), rfl, ⟨(Or.inl rfl), by unfold jfCl; rw [if_pos (by omega), jfCe_0 (m := v2_5.toInt.toNat) (by omega) (by rw [← hr_9_2, show ((v2_5.toInt.toNat : Nat) : Int) = v2_5.toInt by omega, ← hch]; have hsm := jfSm.k r_9.toInt; omega)]; exact hk0⟩, hh_10.rt (M1 := []) [] rfl ht⟩, by rw [ht]; try exact hh_10.1.1, fun q h9 hq => by rw [ht]; try exact hh_10.1.2.1 q h9 hq⟩) hh_10.1.2.2 dX14_isContentLength_66
          · skip
            have c_12' : r_11.toInt ≠ 0 := jb_eq_n (rfl) ((by decide)) c_12
            refine lv_iload_n hx hb dX14_isContentLength_49 rfl (lv_at hl 0 rfl) ?_
            refine lv_bipush (v := 32) hx hb dX14_isContentLength_50 (by decide) ?_
            refine lv_iadd hx hb dX14_isContentLength_52 ?_
            refine lv_topi (fun z_16 ez_16 => ?_)
            have hz_16 : z_16.toInt = r_9.toInt + 32 := by rw [ez_16]; exact jb_iadd2 (rfl) ((by decide)) (by omega)
            refine lv_goto (tgt := 57) hx hb dX14_isContentLength_53 (by decide) ?_
            refine lv_aload_n hx hb dX14_isContentLength_57 rfl (lv_at hl 2 rfl) ?_
            refine lv_iload_n hx hb dX14_isContentLength_58 rfl (lv_at hl 3 rfl) ?_
            refine vp_callSi (W.runV (As := [.int v2_5]) (rest := [.int z_16]) ⟨hx, hb, hml, hown, hts⟩ (eJ0_charAt_5068e l dC dI ca base H_10 str220 14 (jChT "content-length") v2_5) (cwV 1 hts (jgV (jWr_49 _ (List.mem_of_getElem? (i := 13) rfl)) (jWr_6 _ (List.mem_of_getElem? (i := 1) rfl)) (jWr_6 _ (List.mem_of_getElem? (i := 2) rfl)) (jWr_5 _ (List.mem_of_getElem? (i := 15) rfl)) (jWr_6 _ (List.mem_of_getElem? (i := 3) rfl))) rfl rfl rfl (by decide +kernel) ⟨by rw [← hR]; exact Nat.le_of_ble_eq_true rfl, by rw [← hR]; exact Nat.le_of_ble_eq_true rfl⟩) ⟨fun a U g mk q => by obtain ⟨q0, q1, q2, qK, q9⟩ := q; exact ⟨q0, q1, (q2.moved (Vm.Alike.refl U.vm)), jG.calling g mk a qK, q9⟩, jStr_recv hstr220 hh_10.1, fun U hU hW => ⟨rfl, hU, (hTstr220.moved hW.alike).kept hh_10.1.2.1, hG.step hW hU hh_10.1, ⟨by omega, by omega, by omega⟩⟩⟩ rfl rfl hl.1 rfl (lv_room (Nat.le_of_ble_eq_true rfl)) dX14_isContentLength_59 ⟨Nat.zero_le _, Nat.zero_le _⟩) (fun r_17 hr_17 => ?_)
            have hch : r_17.toInt = jfC v2_5.toInt := by unfold jfC; rw [hr_17]
            refine lv_icmp_eq (tgt := 67) hx hb dX14_isContentLength_62 (by decide) (fun c_18 => ?_) (fun c_18 => ?_)
            · skip
              have c_18' : z_16.toInt = r_17.toInt := jb_eq (rfl) (rfl) c_18
              obtain ⟨z_19, ez_19⟩ : ∃ y : Int32, y = v2_5 + 1 := ⟨_, rfl⟩
              refine lv_iinc (v := z_19) (lv' := [(2, .int z_19), (3, .int r_9), (0, .ref r0), (1, .ref str220)]) hx hb dX14_isContentLength_67 hl (k := 3) rfl (by rw [ez_19]; rfl) (by decide) rfl (fun ls hl => ?_)
              have hz_19 : z_19.toInt = v2_5.toInt + 1 := by rw [ez_19]; exact jb_iadd2 (rfl) (by decide) (by omega)
              refine lv_goto (tgt := 21) hx hb dX14_isContentLength_70 (by decide) ?_
              exact L21 z_19 _ _ hh_10 (by refine ⟨by omega, by omega, ?_⟩; rw [show (z_19).toInt.toNat = v2_5.toInt.toNat + 1 by omega]; exact jfCe_1 hi_5_2 (by rw [← hr_9_2, show ((v2_5.toInt.toNat : Nat) : Int) = v2_5.toInt by omega, ← hch]; have hsm := jfSm.k r_9.toInt; omega)) (by omega) _ (lv_sub hl [2, 3, 0] rfl)
            · skip
              have c_18' : z_16.toInt ≠ r_17.toInt := jb_eq_n (rfl) (rfl) c_18
              refine lv_iconst (v := 0) hx hb dX14_isContentLength_65 (by decide) ?_
              rw [hQ]
              exact W.zret (v := 0) hx hb hr (jb_nz (Or.inl rfl)) (fun t ht hW => ⟨⟨0, (), rfl, ⟨(Or.inl rfl), by unfold jfCl; rw [if_pos (by omega), jfCe_0 (m := v2_5.toInt.toNat) (by omega) (by rw [← hr_9_2, show ((v2_5.toInt.toNat : Nat) : Int) = v2_5.toInt by omega, ← hch]; have hsm := jfSm.k r_9.toInt; omega)]; exact hk0⟩, hh_10.rt (M1 := []) [] rfl ht⟩, by rw [ht]; try exact hh_10.1.1, fun q h9 hq => by rw [ht]; try exact hh_10.1.2.1 q h9 hq⟩) hh_10.1.2.2 dX14_isContentLength_66
    exact L21 (14 - (0 : Int32).toInt : Int).toNat.succ 0 _ _ hh_1 (by refine ⟨by omega, by omega, ?_⟩; rw [hk0]; rfl) (by omega) _ (lv_sub hl [2, 1, 0] rfl)
  · skip
    have c_4' : r_2.toInt ≠ r_3.toInt := jb_eq_n (rfl) (rfl) c_4
    refine lv_iconst (v := 0) hx hb dX14_isContentLength_17 (by decide) ?_
    rw [hQ]
    exact W.zret (v := 0) hx hb hr (jb_nz (Or.inl rfl)) (fun t ht hW => ⟨⟨0, (), rfl, ⟨(Or.inl rfl), by unfold jfCl; rw [if_neg (by omega)]; exact hk0⟩, hh_1.rt (M1 := []) [] rfl ht⟩, by rw [ht]; try exact hh_1.1.1, fun q h9 hq => by rw [ht]; try exact hh_1.1.2.1 q h9 hq⟩) hh_1.1.2.2 dX14_isContentLength_18
set_option maxHeartbeats 4000000 in
set_option maxRecDepth 20000 in
theorem uX14_isLengthSoFarC (l : Launch) (dC : Nat → ClassId) (dI : Nat → Nat → Nat) (ca : Nat → ClassId) (base : Nat) (B : jF) (hB : jBok B) (hAp : jAp (dC, dI)) (hB0 : ∀ n G a H, B 0 n G a H ↔ jOb (dC, dI) 0 4 (Fz0 n G) a H) (hB16 : ∀ n G a H, B 16 n G a H ↔ jOb (dC, dI) 16 74 (F16 n G) a H) (hB198 : ∀ n G a H, B 198 n G a H ↔ jAr (dC, dI) (ca 0) (fun j z => jBf j z) n a H) (G0 : jT) (H0 : Heap) (r0 : Nat) (a1 : Int32) (bv : Nat) (pc : Int32) (pa : Nat) (n_pa : Nat) (fv : Nat → Int32) : Met l yX14_isLengthSoFar (jw yX14_isLengthSoFar cX14_isLengthSoFar 5 (some .boolean)) ({ frames := 4, cells := 0, slots := 0, locals := 106 }) (va_Pc [.ref r0, .int a1] (fun U => U.heap = H0 ∧ jX B base G0 [] H0 ∧ jG dC dI ca base U ∧ G0 r0 = some (16, 0) ∧ (a1 = 0 ∨ a1 = 1) ∧ G0 bv = some (0, 0) ∧ G0 pa = some (198, n_pa) ∧ jP (dC, dI) G0 H0 [(r0, 16, 14, .ref bv), (bv, 0, 3, .int pc), (bv, 0, 0, .ref pa)] ∧ jMc (dC, dI) G0 H0 [(pa, 198, n_pa, ca 0, fv)] ∧ 0 ≤ pc.toInt ∧ pc.toInt ≤ n_pa ∧ n_pa ≤ 1000)) (va_Qi (S := Unit) (fun r u => (r = 0 ∨ r = 1) ∧ ((r.toInt = 1 ∧ jfLo fv pc.toInt a1.toInt) ∨ (r.toInt = 0 ∧ ¬ jfLo fv pc.toInt a1.toInt))) (fun u t => jRt (dC, dI) B base G0 EX14_isLengthSoFarC H0 [] t.heap) (jA base)) 0 0 (jA base) := by
  refine Met.ofW (cc := cX14_isLengthSoFar) (maxL := 5) (ret := (some .boolean)) (by decide) rfl ?_
  intro p e s m args below meth c s₁ Bd hml hv
  obtain ⟨rfl, hH0, hX, hG, hg_r0, hz_a1, hg_bv, hg_pa, hP0, hM0, hp0, hp1, hp2⟩ := hv
  have hK := hG.1
  have hx := Bd.exec
  have hb := Bd.bytes
  have hr := Bd.returns
  have hts := atoms_spec (ws := (jw yX14_isLengthSoFar cX14_isLengthSoFar 5 (some .boolean))) Bd.pre
  have htw : ∀ w ∈ jWl, w.before _ s = true := fun w h => hts w (List.mem_cons_of_mem _ h)
  have hown : s.vm.findClass RX14 = some m.cls := findClass_of_methodNamed Bd.named
  have hlocks := Bd.notSynchronized
  obtain ⟨Q, hQ⟩ : ∃ Q, Q = MQ below (va_Qi (S := Unit) (fun r u => (r = 0 ∨ r = 1) ∧ ((r.toInt = 1 ∧ jfLo fv pc.toInt a1.toInt) ∨ (r.toInt = 0 ∧ ¬ jfLo fv pc.toInt a1.toInt))) (fun u t => jRt (dC, dI) B base G0 EX14_isLengthSoFarC H0 [] t.heap) (jA base)) ([.ref r0, .int a1] : List Value).toArray s 0 0 (jA base) := ⟨_, rfl⟩
  rw [← hQ]
  have hl := lv_entry ([.ref r0, .int a1]) (n := 5) (Nat.le_of_ble_eq_true rfl)
  rw [lg_entry_eq]
  generalize (lg_sl ([.ref r0, .int a1]) ++ List.replicate (5 - (lg_sl ([.ref r0, .int a1])).length) Slot.unset).toArray = ls at hl ⊢
  have hl : lv_has ls 5 [(0, .ref r0), (1, .int a1)] := hl
  generalize hR : (headSpec (jw yX14_isLengthSoFar cX14_isLengthSoFar 5 (some .boolean)) ({ frames := 4, cells := 0, slots := 0, locals := 106 })).room = R
  subst hH0
  have hh : jSt (dC, dI) B base G0 G0 EX14_isLengthSoFarC s.heap 0 0 [(r0, 16, 14, .ref bv), (bv, 0, 3, .int pc), (bv, 0, 0, .ref pa)] [(pa, 198, n_pa, ca 0, fv)] [] s.heap [] := jSt.start hX hP0 hM0 jIs.nil
  clear hX hP0
  have hk0 : (0 : Int32).toInt = 0 := by decide
  have hk1 : (1 : Int32).toInt = 1 := by decide
  have hk4 : (4 : Int32).toInt = 4 := by decide
  have hk10 : (10 : Int32).toInt = 10 := by decide
  have hk48 : (48 : Int32).toInt = 48 := by decide
  have hk3000 : (3000 : Int32).toInt = 3000 := by decide
  have hly_16_14 := htw (u_lay RX14 TX14 14) (jWc_wsX140 _ (u_in_lay (by decide)))
  have hlk_30 := (htw (.fieldLink RX14 30 "ProofServerModel" "value" "Ljava/lang/StringBuilder;") (jWr_11 _ (List.mem_of_getElem? (i := 2) rfl)))
  have hrg_a1 := jb_rng a1
  have hza1 := jb_01 hz_a1
  refine lv_aload_n hx hb dX14_isLengthSoFar_0 rfl (lv_at hl 0 rfl) ?_
  refine j7_read hx hb hown hK (C := RX14) (T := TX14) (N := 74) rfl hly_16_14 hlk_30 (hh.at 0 rfl) dX14_isLengthSoFar_1 ?_
  refine va_calli (A0 := jA base) (H0 := s.heap) (va_runV (As := []) (rest := []) ⟨hx, hb, hml, hown, hts⟩ (uJ4_length_8abf5 l dC dI ca base B hB hAp hB0 G0 s.heap bv pc) (cwV 0 hts (jgV (jWr_48 _ (List.mem_of_getElem? (i := 17) rfl)) (jWr_48 _ (List.mem_of_getElem? (i := 18) rfl)) (jWr_48 _ (List.mem_of_getElem? (i := 19) rfl)) (jWr_11 _ (List.mem_of_getElem? (i := 0) rfl)) (jWr_48 _ (List.mem_of_getElem? (i := 20) rfl))) rfl rfl rfl (by decide +kernel) ⟨by rw [← hR]; exact Nat.le_of_ble_eq_true rfl, by rw [← hR]; exact Nat.le_of_ble_eq_true rfl⟩) ⟨fun a U g mk q => by obtain ⟨q0, q1, q2, qK, q10, q11, q12⟩ := q; exact ⟨q0, q1, q2, jG.calling g mk a qK, q10, q11, q12⟩, hh.recv (C := RJ4) (T := TJ4) (N := 4) hB0 rfl (by decide) hg_bv hK, fun U hU hW => ⟨rfl, hU, hh.2.1, hG.step hW hU hh.1, hg_bv, (hh.2.2.1.sub (L1 := [(bv, 0, 3, .int pc)]) [1] rfl), trivial⟩⟩ rfl rfl hl.1 rfl (lv_room (Nat.le_of_ble_eq_true rfl)) dX14_isLengthSoFar_4 ⟨Nat.zero_le _, Nat.zero_le _⟩) hh.1 (fun q _ h => h) (fun q h => h) (fun r_2 u_1 t_1 H_1 locs_1 ht_1 hvm_1 hr_2 hb_1 hz_1 hk_1 hS_1 => ?_)
  rw [ht_1] at hb_1
  obtain ⟨hb_11, hb_12, hb_13, hb_14, hb_15⟩ := hb_1
  have hh_1 : jSt (dC, dI) B base G0 G0 EX14_isLengthSoFarC s.heap 0 0 [(r0, 16, 14, .ref bv), (bv, 0, 3, .int pc), (bv, 0, 0, .ref pa)] [(pa, 198, n_pa, ca 0, fv)] [] H_1 locs_1 := ((hh.call hb_11 hb_12 hb_13 hb_14 hS_1 rfl (L1 := [(r0, 16, 14, .ref bv), (bv, 0, 3, .int pc), (bv, 0, 0, .ref pa)]) [0, 1, 2] rfl rfl (M1 := [(pa, 198, n_pa, ca 0, fv)]) [0] rfl rfl (I1 := []) [] rfl rfl).more hb_15)
  clear hh ht_1 hvm_1 hz_1 hk_1 hS_1 hb_11 hb_12 hb_13 hb_14 hb_15
  refine lv_istore_n (lv' := [(2, .int r_2), (0, .ref r0), (1, .int a1)]) hx hb dX14_isLengthSoFar_7 rfl hl (by decide) rfl (fun ls hl => ?_)
  refine lv_iload_n hx hb dX14_isLengthSoFar_8 rfl (lv_at hl 0 rfl) ?_
  refine lv_iconst (v := 4) hx hb dX14_isLengthSoFar_9 (by decide) ?_
  refine lv_icmp_gt (tgt := 21) hx hb dX14_isLengthSoFar_10 (by decide) (fun c_3 => ?_) (fun c_3 => ?_)
  · skip
    have c_3' : r_2.toInt > 4 := jb_gt (rfl) ((by decide)) c_3
    refine lv_iconst (v := 0) hx hb dX14_isLengthSoFar_21 (by decide) ?_
    rw [hQ]
    exact W.zret (v := 0) hx hb hr (jb_nz (Or.inl rfl)) (fun t ht hW => ⟨⟨0, (), rfl, ⟨(Or.inl rfl), by refine Or.inr ⟨by omega, fun h9 => ?_⟩; have h8 := h9.1; have h7 := h9.2.1; omega⟩, hh_1.rt (M1 := []) [] rfl ht⟩, by rw [ht]; try exact hh_1.1.1, fun q h9 hq => by rw [ht]; try exact hh_1.1.2.1 q h9 hq⟩) hh_1.1.2.2 dX14_isLengthSoFar_22
  · skip
    have c_3' : r_2.toInt ≤ 4 := jb_gt_n (rfl) ((by decide)) c_3
    refine lv_iload_n hx hb dX14_isLengthSoFar_13 rfl (lv_at hl 2 rfl) ?_
    refine lv_if_eq (tgt := 23) hx hb dX14_isLengthSoFar_14 (by decide) (fun c_4 => ?_) (fun c_4 => ?_)
    · skip
      have c_4' : a1.toInt = 0 := jb_eq (rfl) ((by decide)) c_4
      refine lv_iconst (v := 0) hx hb dX14_isLengthSoFar_23 (by decide) ?_
      refine lv_istore_n (lv' := [(3, .int 0), (2, .int r_2), (0, .ref r0), (1, .int a1)]) hx hb dX14_isLengthSoFar_24 rfl hl (by decide) rfl (fun ls hl => ?_)
      refine lv_iconst (v := 0) hx hb dX14_isLengthSoFar_25 (by decide) ?_
      refine lv_istore (lv' := [(4, .int 0), (3, .int 0), (2, .int r_2), (0, .ref r0), (1, .int a1)]) hx hb dX14_isLengthSoFar_26 hl (by decide) rfl (fun ls hl => ?_)
      have L28 : ∀ (N : Nat) (v3_5 : Int32) (v4_5 : Int32) (H_5 : Heap) (locs_5 : List Loc), jSt (dC, dI) B base G0 G0 EX14_isLengthSoFarC s.heap 0 0 [(r0, 16, 14, .ref bv), (bv, 0, 3, .int pc), (bv, 0, 0, .ref pa)] [(pa, 198, n_pa, ca 0, fv)] [] H_5 locs_5 → (0 ≤ v4_5.toInt ∧ v4_5.toInt ≤ pc.toInt ∧ v3_5.toInt = jNm fv (v4_5.toInt).toNat ∧ 0 ≤ v3_5.toInt ∧ (v4_5.toInt ≤ 0 → v3_5.toInt ≤ 0) ∧ (v4_5.toInt ≤ 1 → v3_5.toInt ≤ 9) ∧ (v4_5.toInt ≤ 2 → v3_5.toInt ≤ 99) ∧ (v4_5.toInt ≤ 3 → v3_5.toInt ≤ 999) ∧ v3_5.toInt ≤ 9999 ∧ jDg fv v4_5.toInt) → (pc.toInt - v4_5.toInt : Int) < N → ∀ ls : Array Slot, lv_has ls 5 [(0, .ref r0), (1, .int a1), (2, .int r_2), (3, .int v3_5), (4, .int v4_5)] → W p l e R s m ([.ref r0, .int a1] : List Value).toArray below meth c H_5 locs_5 0 0 Q (F0 m 28 ls []) := by
        intro N
        induction N with
        | zero => intro v3_5 v4_5 H_5 locs_5 hh_5  hi_5 hm; exact absurd hm (by omega)
        | succ N L28 =>
          intro v3_5 v4_5 H_5 locs_5 hh_5  hi_5 hm_5 ls hl
          obtain ⟨hi_5_0, hi_5_1, hi_5_2, hi_5_3, hi_5_4, hi_5_5, hi_5_6, hi_5_7, hi_5_8, hi_5_9⟩ := hi_5
          refine lv_iload hx hb dX14_isLengthSoFar_28 (lv_at hl 4 rfl) ?_
          refine lv_iload_n hx hb dX14_isLengthSoFar_30 rfl (lv_at hl 2 rfl) ?_
          refine lv_icmp_ge (tgt := 75) hx hb dX14_isLengthSoFar_31 (by decide) (fun c_6 => ?_) (fun c_6 => ?_)
          · skip
            have c_6' : v4_5.toInt ≥ r_2.toInt := jb_ge (rfl) (rfl) c_6
            refine lv_iload_n hx hb dX14_isLengthSoFar_75 rfl (lv_at hl 3 rfl) ?_
            refine lv_sipush (v := 3000) hx hb dX14_isLengthSoFar_76 (by decide) ?_
            refine lv_icmp_gt (tgt := 86) hx hb dX14_isLengthSoFar_79 (by decide) (fun c_7 => ?_) (fun c_7 => ?_)
            · skip
              have c_7' : v3_5.toInt > 3000 := jb_gt (rfl) ((by decide)) c_7
              refine lv_iconst (v := 0) hx hb dX14_isLengthSoFar_86 (by decide) ?_
              rw [hQ]
              exact W.zret (v := 0) hx hb hr (jb_nz (Or.inl rfl)) (fun t ht hW => ⟨⟨0, (), rfl, ⟨(Or.inl rfl), by refine Or.inr ⟨by omega, fun h9 => ?_⟩; have h8 := h9.2.2.2; rw [show pc.toInt = v4_5.toInt by omega, ← hi_5_2] at h8; omega⟩, hh_5.rt (M1 := []) [] rfl ht⟩, by rw [ht]; try exact hh_5.1.1, fun q h9 hq => by rw [ht]; try exact hh_5.1.2.1 q h9 hq⟩) hh_5.1.2.2 dX14_isLengthSoFar_87
            · skip
              have c_7' : v3_5.toInt ≤ 3000 := jb_gt_n (rfl) ((by decide)) c_7
              refine lv_iconst (v := 1) hx hb dX14_isLengthSoFar_82 (by decide) ?_
              refine lv_goto (tgt := 87) hx hb dX14_isLengthSoFar_83 (by decide) ?_
              rw [hQ]
              exact W.zret (v := 1) hx hb hr (jb_nz (Or.inr rfl)) (fun t ht hW => ⟨⟨1, (), rfl, ⟨(Or.inr rfl), by refine Or.inl ⟨by omega, by omega, by omega, ?_, ?_⟩; (rw [show pc.toInt = v4_5.toInt by omega]; exact hi_5_9); (rw [show pc.toInt = v4_5.toInt by omega, ← hi_5_2]; omega)⟩, hh_5.rt (M1 := []) [] rfl ht⟩, by rw [ht]; try exact hh_5.1.1, fun q h9 hq => by rw [ht]; try exact hh_5.1.2.1 q h9 hq⟩) hh_5.1.2.2 dX14_isLengthSoFar_87
          · skip
            have c_6' : v4_5.toInt < r_2.toInt := jb_ge_n (rfl) (rfl) c_6
            refine lv_aload_n hx hb dX14_isLengthSoFar_34 rfl (lv_at hl 0 rfl) ?_
            refine j7_read hx hb hown hK (C := RX14) (T := TX14) (N := 74) rfl hly_16_14 hlk_30 (hh_5.at 0 rfl) dX14_isLengthSoFar_35 ?_
            refine lv_iload hx hb dX14_isLengthSoFar_38 (lv_at hl 4 rfl) ?_
            refine va_calli (A0 := jA base) (H0 := s.heap) (va_runV (As := [.int v4_5]) (rest := []) ⟨hx, hb, hml, hown, hts⟩ (uJ4_charAt_5068e l dC dI ca base B hB hAp hB0 hB198 G0 H_5 bv v4_5 pc pa n_pa fv) (cwV 1 hts (jgV (jWr_49 _ (List.mem_of_getElem? (i := 2) rfl)) (jWr_49 _ (List.mem_of_getElem? (i := 3) rfl)) (jWr_49 _ (List.mem_of_getElem? (i := 4) rfl)) (jWr_11 _ (List.mem_of_getElem? (i := 0) rfl)) (jWr_49 _ (List.mem_of_getElem? (i := 5) rfl))) rfl rfl rfl (by decide +kernel) ⟨by rw [← hR]; exact Nat.le_of_ble_eq_true rfl, by rw [← hR]; exact Nat.le_of_ble_eq_true rfl⟩) ⟨fun a U g mk q => by obtain ⟨q0, q1, q2, qK, q10, q11, q12, q13, q14⟩ := q; exact ⟨q0, q1, q2, jG.calling g mk a qK, q10, q11, q12, q13, q14⟩, hh_5.recv (C := RJ4) (T := TJ4) (N := 4) hB0 rfl (by decide) hg_bv hK, fun U hU hW => ⟨rfl, hU, hh_5.2.1, hG.step hW hU hh_5.1, hg_bv, hg_pa, (hh_5.2.2.1.sub (L1 := [(bv, 0, 3, .int pc), (bv, 0, 0, .ref pa)]) [1, 2] rfl), (hh_5.2.2.2.2.2.2.2.1.sub (L1 := [(pa, 198, n_pa, ca 0, fv)]) [0] rfl), by first | omega | (refine ⟨?_, ?_, ?_, ?_⟩ <;> (first | omega | rfl | assumption | decide | exact Or.inl rfl | exact Or.inr rfl | (simp only; omega)))⟩⟩ rfl rfl hl.1 rfl (lv_room (Nat.le_of_ble_eq_true rfl)) dX14_isLengthSoFar_40 ⟨Nat.zero_le _, Nat.zero_le _⟩) hh_5.1 (fun q _ h => h) (fun q h => h) (fun r_9 u_8 t_8 H_8 locs_8 ht_8 hvm_8 hr_9 hb_8 hz_8 hk_8 hS_8 => ?_)
            rw [ht_8] at hb_8
            obtain ⟨hb_81, hb_82, hb_83, hb_84, hb_85⟩ := hb_8
            have hh_8 : jSt (dC, dI) B base G0 G0 EX14_isLengthSoFarC s.heap 0 0 [(r0, 16, 14, .ref bv), (bv, 0, 3, .int pc), (bv, 0, 0, .ref pa)] [(pa, 198, n_pa, ca 0, fv)] [] H_8 locs_8 := ((hh_5.call hb_81 hb_82 hb_83 hb_84 hS_8 rfl (L1 := [(r0, 16, 14, .ref bv), (bv, 0, 3, .int pc), (bv, 0, 0, .ref pa)]) [0, 1, 2] rfl rfl (M1 := [(pa, 198, n_pa, ca 0, fv)]) [0] rfl rfl (I1 := []) [] rfl rfl).more hb_85)
            clear hh_5 ht_8 hvm_8 hz_8 hk_8 hS_8 hb_81 hb_82 hb_83 hb_84 hb_85
            obtain ⟨hr_9_0, hr_9_1, hr_9_2⟩ := hr_9
            refine va_calli (A0 := jA base) (H0 := s.heap) (va_runS (As := [.int r_9]) (rest := []) ⟨hx, hb, hml, hown, hts⟩ (uX14_isDigitJ l dC dI ca base B hB hAp G0 H_8 r_9) (va_cwS 1 hts (jgS (jWr_49 _ (List.mem_of_getElem? (i := 18) rfl)) (jWr_49 _ (List.mem_of_getElem? (i := 19) rfl)) (jWr_1 _ (List.mem_of_getElem? (i := 5) rfl)) (jWr_49 _ (List.mem_of_getElem? (i := 20) rfl))) rfl rfl rfl (by decide +kernel) ⟨by rw [← hR]; exact Nat.le_of_ble_eq_true rfl, by rw [← hR]; exact Nat.le_of_ble_eq_true rfl⟩) ⟨fun a U g mk q => by obtain ⟨q0, q1, q2, qK, q10, q11⟩ := q; exact ⟨q0, q1, q2, jG.calling g mk a qK, q10, q11⟩, fun U hU hW => ⟨rfl, hU, hh_8.2.1, hG.step hW hU hh_8.1, jP.nil, trivial⟩⟩ rfl rfl hl.1 rfl (lv_room (Nat.le_of_ble_eq_true rfl)) dX14_isLengthSoFar_43 ⟨Nat.zero_le _, Nat.zero_le _⟩) hh_8.1 (fun q _ h => h) (fun q h => h) (fun r_11 u_10 t_10 H_10 locs_10 ht_10 hvm_10 hr_11 hb_10 hz_10 hk_10 hS_10 => ?_)
            rw [ht_10] at hb_10
            obtain ⟨hb_101, hb_102, hb_103, hb_104, hb_105⟩ := hb_10
            have hh_10 : jSt (dC, dI) B base G0 G0 EX14_isLengthSoFarC s.heap 0 0 [(r0, 16, 14, .ref bv), (bv, 0, 3, .int pc), (bv, 0, 0, .ref pa)] [(pa, 198, n_pa, ca 0, fv)] [] H_10 locs_10 := ((hh_8.call hb_101 hb_102 hb_103 hb_104 hS_10 rfl (L1 := [(r0, 16, 14, .ref bv), (bv, 0, 3, .int pc), (bv, 0, 0, .ref pa)]) [0, 1, 2] rfl rfl (M1 := [(pa, 198, n_pa, ca 0, fv)]) [0] rfl rfl (I1 := []) [] rfl rfl).more hb_105)
            clear hh_8 ht_10 hvm_10 hz_10 hk_10 hS_10 hb_101 hb_102 hb_103 hb_104 hb_105
            obtain ⟨hr_11b, hr_11p⟩ := hr_11
            have hr_11' := jb_01 hr_11b
            refine lv_if_ne (tgt := 51) hx hb dX14_isLengthSoFar_46 (by decide) (fun c_12 => ?_) (fun c_12 => ?_)
            · skip
              have c_12' : r_11.toInt ≠ 0 := jb_ne (rfl) ((by decide)) c_12
              first | (have hr_11pq := hr_11p.resolve_left (by omega); clear hr_11p) | (have hr_11pq := hr_11p.resolve_right (by omega); clear hr_11p) | try clear hr_11p
              refine lv_bipush (v := 10) hx hb dX14_isLengthSoFar_51 (by decide) ?_
              refine lv_iload_n hx hb dX14_isLengthSoFar_53 rfl (lv_at hl 3 rfl) ?_
              refine lv_imul hx hb dX14_isLengthSoFar_54 ?_
              refine lv_topi (fun z_13 ez_13 => ?_)
              have hz_13 : z_13.toInt = 10 * v3_5.toInt := by rw [ez_13]; exact jb_imul2 ((by decide)) (rfl) (by omega)
              refine lv_aload_n hx hb dX14_isLengthSoFar_55 rfl (lv_at hl 0 rfl) ?_
              refine j7_read hx hb hown hK (C := RX14) (T := TX14) (N := 74) rfl hly_16_14 hlk_30 (hh_10.at 0 rfl) dX14_isLengthSoFar_56 ?_
              refine lv_iload hx hb dX14_isLengthSoFar_59 (lv_at hl 4 rfl) ?_
              refine va_calli (A0 := jA base) (H0 := s.heap) (va_runV (As := [.int v4_5]) (rest := [.int z_13]) ⟨hx, hb, hml, hown, hts⟩ (uJ4_charAt_5068e l dC dI ca base B hB hAp hB0 hB198 G0 H_10 bv v4_5 pc pa n_pa fv) (cwV 1 hts (jgV (jWr_49 _ (List.mem_of_getElem? (i := 2) rfl)) (jWr_49 _ (List.mem_of_getElem? (i := 3) rfl)) (jWr_49 _ (List.mem_of_getElem? (i := 4) rfl)) (jWr_11 _ (List.mem_of_getElem? (i := 0) rfl)) (jWr_49 _ (List.mem_of_getElem? (i := 5) rfl))) rfl rfl rfl (by decide +kernel) ⟨by rw [← hR]; exact Nat.le_of_ble_eq_true rfl, by rw [← hR]; exact Nat.le_of_ble_eq_true rfl⟩) ⟨fun a U g mk q => by obtain ⟨q0, q1, q2, qK, q10, q11, q12, q13, q14⟩ := q; exact ⟨q0, q1, q2, jG.calling g mk a qK, q10, q11, q12, q13, q14⟩, hh_10.recv (C := RJ4) (T := TJ4) (N := 4) hB0 rfl (by decide) hg_bv hK, fun U hU hW => ⟨rfl, hU, hh_10.2.1, hG.step hW hU hh_10.1, hg_bv, hg_pa, (hh_10.2.2.1.sub (L1 := [(bv, 0, 3, .int pc), (bv, 0, 0, .ref pa)]) [1, 2] rfl), (hh_10.2.2.2.2.2.2.2.1.sub (L1 := [(pa, 198, n_pa, ca 0, fv)]) [0] rfl), by first | omega | (refine ⟨?_, ?_, ?_, ?_⟩ <;> (first | omega | rfl | assumption | decide | exact Or.inl rfl | exact Or.inr rfl | (simp only; omega)))⟩⟩ rfl rfl hl.1 rfl (lv_room (Nat.le_of_ble_eq_true rfl)) dX14_isLengthSoFar_61 ⟨Nat.zero_le _, Nat.zero_le _⟩) hh_10.1 (fun q _ h => h) (fun q h => h) (fun r_15 u_14 t_14 H_14 locs_14 ht_14 hvm_14 hr_15 hb_14 hz_14 hk_14 hS_14 => ?_)
              rw [ht_14] at hb_14
              obtain ⟨hb_141, hb_142, hb_143, hb_144, hb_145⟩ := hb_14
              have hh_14 : jSt (dC, dI) B base G0 G0 EX14_isLengthSoFarC s.heap 0 0 [(r0, 16, 14, .ref bv), (bv, 0, 3, .int pc), (bv, 0, 0, .ref pa)] [(pa, 198, n_pa, ca 0, fv)] [] H_14 locs_14 := ((hh_10.call hb_141 hb_142 hb_143 hb_144 hS_14 rfl (L1 := [(r0, 16, 14, .ref bv), (bv, 0, 3, .int pc), (bv, 0, 0, .ref pa)]) [0, 1, 2] rfl rfl (M1 := [(pa, 198, n_pa, ca 0, fv)]) [0] rfl rfl (I1 := []) [] rfl rfl).more hb_145)
              clear hh_10 ht_14 hvm_14 hz_14 hk_14 hS_14 hb_141 hb_142 hb_143 hb_144 hb_145
              obtain ⟨hr_15_0, hr_15_1, hr_15_2⟩ := hr_15
              refine lv_iadd hx hb dX14_isLengthSoFar_64 ?_
              refine lv_topi (fun z_16 ez_16 => ?_)
              have hz_16 : z_16.toInt = z_13.toInt + r_15.toInt := by rw [ez_16]; exact jb_iadd2 (rfl) (rfl) (by omega)
              refine lv_bipush (v := 48) hx hb dX14_isLengthSoFar_65 (by decide) ?_
              refine lv_isub hx hb dX14_isLengthSoFar_67 ?_
              refine lv_topi (fun z_17 ez_17 => ?_)
              have hz_17 : z_17.toInt = z_16.toInt - 48 := by rw [ez_17]; exact jb_isub2 (rfl) ((by decide)) (by omega)
              refine lv_istore_n (lv' := [(3, .int z_17), (0, .ref r0), (1, .int a1), (2, .int r_2), (4, .int v4_5)]) hx hb dX14_isLengthSoFar_68 rfl hl (by decide) rfl (fun ls hl => ?_)
              obtain ⟨z_18, ez_18⟩ : ∃ y : Int32, y = v4_5 + 1 := ⟨_, rfl⟩
              refine lv_iinc (v := z_18) (lv' := [(4, .int z_18), (3, .int z_17), (0, .ref r0), (1, .int a1), (2, .int r_2)]) hx hb dX14_isLengthSoFar_69 hl (k := 4) rfl (by rw [ez_18]; rfl) (by decide) rfl (fun ls hl => ?_)
              have hz_18 : z_18.toInt = v4_5.toInt + 1 := by rw [ez_18]; exact jb_iadd2 (rfl) (by decide) (by omega)
              refine lv_goto (tgt := 28) hx hb dX14_isLengthSoFar_72 (by decide) ?_
              exact L28 z_17 z_18 _ _ hh_14 (by have hd0 := hr_9_0; refine ⟨by omega, by omega, jNm_s hi_5_2 (by omega) hr_15_2 (by omega) (by omega), by omega, by omega, by omega, by omega, by omega, by omega, hi_5_9.snoc hr_9_2 (by omega) (by omega) (by omega)⟩) (by omega) _ (lv_sub hl [2, 3, 4, 1, 0] rfl)
            · skip
              have c_12' : r_11.toInt = 0 := jb_ne_n (rfl) ((by decide)) c_12
              first | (have hr_11pq := hr_11p.resolve_left (by omega); clear hr_11p) | (have hr_11pq := hr_11p.resolve_right (by omega); clear hr_11p) | try clear hr_11p
              refine lv_iconst (v := 0) hx hb dX14_isLengthSoFar_49 (by decide) ?_
              rw [hQ]
              exact W.zret (v := 0) hx hb hr (jb_nz (Or.inl rfl)) (fun t ht hW => ⟨⟨0, (), rfl, ⟨(Or.inl rfl), by refine Or.inr ⟨by omega, fun h9 => ?_⟩; have h8 := h9.2.2.1 v4_5.toInt (by omega) (by omega); rw [← hr_9_2] at h8; omega⟩, hh_10.rt (M1 := []) [] rfl ht⟩, by rw [ht]; try exact hh_10.1.1, fun q h9 hq => by rw [ht]; try exact hh_10.1.2.1 q h9 hq⟩) hh_10.1.2.2 dX14_isLengthSoFar_50
      exact L28 (pc.toInt - (0 : Int32).toInt : Int).toNat.succ 0 0 _ _ hh_1 (by refine ⟨by omega, by omega, by rw [hk0]; rfl, by omega, by omega, by omega, by omega, by omega, by omega, ?_⟩; rw [hk0]; exact fun i h0 h1 => by omega) (by omega) _ (lv_sub hl [3, 4, 2, 1, 0] rfl)
    · skip
      have c_4' : a1.toInt ≠ 0 := jb_eq_n (rfl) ((by decide)) c_4
      refine lv_iload_n hx hb dX14_isLengthSoFar_17 rfl (lv_at hl 0 rfl) ?_
      refine lv_if_ne (tgt := 23) hx hb dX14_isLengthSoFar_18 (by decide) (fun c_19 => ?_) (fun c_19 => ?_)
      · skip
        have c_19' : r_2.toInt ≠ 0 := jb_ne (rfl) ((by decide)) c_19
        refine lv_iconst (v := 0) hx hb dX14_isLengthSoFar_23 (by decide) ?_
        refine lv_istore_n (lv' := [(3, .int 0), (2, .int r_2), (0, .ref r0), (1, .int a1)]) hx hb dX14_isLengthSoFar_24 rfl hl (by decide) rfl (fun ls hl => ?_)
        refine lv_iconst (v := 0) hx hb dX14_isLengthSoFar_25 (by decide) ?_
        refine lv_istore (lv' := [(4, .int 0), (3, .int 0), (2, .int r_2), (0, .ref r0), (1, .int a1)]) hx hb dX14_isLengthSoFar_26 hl (by decide) rfl (fun ls hl => ?_)
        have L28 : ∀ (N : Nat) (v3_20 : Int32) (v4_20 : Int32) (H_20 : Heap) (locs_20 : List Loc), jSt (dC, dI) B base G0 G0 EX14_isLengthSoFarC s.heap 0 0 [(r0, 16, 14, .ref bv), (bv, 0, 3, .int pc), (bv, 0, 0, .ref pa)] [(pa, 198, n_pa, ca 0, fv)] [] H_20 locs_20 → (0 ≤ v4_20.toInt ∧ v4_20.toInt ≤ pc.toInt ∧ v3_20.toInt = jNm fv (v4_20.toInt).toNat ∧ 0 ≤ v3_20.toInt ∧ (v4_20.toInt ≤ 0 → v3_20.toInt ≤ 0) ∧ (v4_20.toInt ≤ 1 → v3_20.toInt ≤ 9) ∧ (v4_20.toInt ≤ 2 → v3_20.toInt ≤ 99) ∧ (v4_20.toInt ≤ 3 → v3_20.toInt ≤ 999) ∧ v3_20.toInt ≤ 9999 ∧ jDg fv v4_20.toInt) → (pc.toInt - v4_20.toInt : Int) < N → ∀ ls : Array Slot, lv_has ls 5 [(0, .ref r0), (1, .int a1), (2, .int r_2), (3, .int v3_20), (4, .int v4_20)] → W p l e R s m ([.ref r0, .int a1] : List Value).toArray below meth c H_20 locs_20 0 0 Q (F0 m 28 ls []) := by
          intro N
          induction N with
          | zero => intro v3_20 v4_20 H_20 locs_20 hh_20  hi_20 hm; exact absurd hm (by omega)
          | succ N L28 =>
            intro v3_20 v4_20 H_20 locs_20 hh_20  hi_20 hm_20 ls hl
            obtain ⟨hi_20_0, hi_20_1, hi_20_2, hi_20_3, hi_20_4, hi_20_5, hi_20_6, hi_20_7, hi_20_8, hi_20_9⟩ := hi_20
            refine lv_iload hx hb dX14_isLengthSoFar_28 (lv_at hl 4 rfl) ?_
            refine lv_iload_n hx hb dX14_isLengthSoFar_30 rfl (lv_at hl 2 rfl) ?_
            refine lv_icmp_ge (tgt := 75) hx hb dX14_isLengthSoFar_31 (by decide) (fun c_21 => ?_) (fun c_21 => ?_)
            · skip
              have c_21' : v4_20.toInt ≥ r_2.toInt := jb_ge (rfl) (rfl) c_21
              refine lv_iload_n hx hb dX14_isLengthSoFar_75 rfl (lv_at hl 3 rfl) ?_
              refine lv_sipush (v := 3000) hx hb dX14_isLengthSoFar_76 (by decide) ?_
              refine lv_icmp_gt (tgt := 86) hx hb dX14_isLengthSoFar_79 (by decide) (fun c_22 => ?_) (fun c_22 => ?_)
              · skip
                have c_22' : v3_20.toInt > 3000 := jb_gt (rfl) ((by decide)) c_22
                refine lv_iconst (v := 0) hx hb dX14_isLengthSoFar_86 (by decide) ?_
                rw [hQ]
                exact W.zret (v := 0) hx hb hr (jb_nz (Or.inl rfl)) (fun t ht hW => ⟨⟨0, (), rfl, ⟨(Or.inl rfl), by refine Or.inr ⟨by omega, fun h9 => ?_⟩; have h8 := h9.2.2.2; rw [show pc.toInt = v4_20.toInt by omega, ← hi_20_2] at h8; omega⟩, hh_20.rt (M1 := []) [] rfl ht⟩, by rw [ht]; try exact hh_20.1.1, fun q h9 hq => by rw [ht]; try exact hh_20.1.2.1 q h9 hq⟩) hh_20.1.2.2 dX14_isLengthSoFar_87
              · skip
                have c_22' : v3_20.toInt ≤ 3000 := jb_gt_n (rfl) ((by decide)) c_22
                refine lv_iconst (v := 1) hx hb dX14_isLengthSoFar_82 (by decide) ?_
                refine lv_goto (tgt := 87) hx hb dX14_isLengthSoFar_83 (by decide) ?_
                rw [hQ]
                exact W.zret (v := 1) hx hb hr (jb_nz (Or.inr rfl)) (fun t ht hW => ⟨⟨1, (), rfl, ⟨(Or.inr rfl), by refine Or.inl ⟨by omega, by omega, by omega, ?_, ?_⟩; (rw [show pc.toInt = v4_20.toInt by omega]; exact hi_20_9); (rw [show pc.toInt = v4_20.toInt by omega, ← hi_20_2]; omega)⟩, hh_20.rt (M1 := []) [] rfl ht⟩, by rw [ht]; try exact hh_20.1.1, fun q h9 hq => by rw [ht]; try exact hh_20.1.2.1 q h9 hq⟩) hh_20.1.2.2 dX14_isLengthSoFar_87
            · skip
              have c_21' : v4_20.toInt < r_2.toInt := jb_ge_n (rfl) (rfl) c_21
              refine lv_aload_n hx hb dX14_isLengthSoFar_34 rfl (lv_at hl 0 rfl) ?_
              refine j7_read hx hb hown hK (C := RX14) (T := TX14) (N := 74) rfl hly_16_14 hlk_30 (hh_20.at 0 rfl) dX14_isLengthSoFar_35 ?_
              refine lv_iload hx hb dX14_isLengthSoFar_38 (lv_at hl 4 rfl) ?_
              refine va_calli (A0 := jA base) (H0 := s.heap) (va_runV (As := [.int v4_20]) (rest := []) ⟨hx, hb, hml, hown, hts⟩ (uJ4_charAt_5068e l dC dI ca base B hB hAp hB0 hB198 G0 H_20 bv v4_20 pc pa n_pa fv) (cwV 1 hts (jgV (jWr_49 _ (List.mem_of_getElem? (i := 2) rfl)) (jWr_49 _ (List.mem_of_getElem? (i := 3) rfl)) (jWr_49 _ (List.mem_of_getElem? (i := 4) rfl)) (jWr_11 _ (List.mem_of_getElem? (i := 0) rfl)) (jWr_49 _ (List.mem_of_getElem? (i := 5) rfl))) rfl rfl rfl (by decide +kernel) ⟨by rw [← hR]; exact Nat.le_of_ble_eq_true rfl, by rw [← hR]; exact Nat.le_of_ble_eq_true rfl⟩) ⟨fun a U g mk q => by obtain ⟨q0, q1, q2, qK, q10, q11, q12, q13, q14⟩ := q; exact ⟨q0, q1, q2, jG.calling g mk a qK, q10, q11, q12, q13, q14⟩, hh_20.recv (C := RJ4) (T := TJ4) (N := 4) hB0 rfl (by decide) hg_bv hK, fun U hU hW => ⟨rfl, hU, hh_20.2.1, hG.step hW hU hh_20.1, hg_bv, hg_pa, (hh_20.2.2.1.sub (L1 := [(bv, 0, 3, .int pc), (bv, 0, 0, .ref pa)]) [1, 2] rfl), (hh_20.2.2.2.2.2.2.2.1.sub (L1 := [(pa, 198, n_pa, ca 0, fv)]) [0] rfl), by first | omega | (refine ⟨?_, ?_, ?_, ?_⟩ <;> (first | omega | rfl | assumption | decide | exact Or.inl rfl | exact Or.inr rfl | (simp only; omega)))⟩⟩ rfl rfl hl.1 rfl (lv_room (Nat.le_of_ble_eq_true rfl)) dX14_isLengthSoFar_40 ⟨Nat.zero_le _, Nat.zero_le _⟩) hh_20.1 (fun q _ h => h) (fun q h => h) (fun r_24 u_23 t_23 H_23 locs_23 ht_23 hvm_23 hr_24 hb_23 hz_23 hk_23 hS_23 => ?_)
              rw [ht_23] at hb_23
              obtain ⟨hb_231, hb_232, hb_233, hb_234, hb_235⟩ := hb_23
              have hh_23 : jSt (dC, dI) B base G0 G0 EX14_isLengthSoFarC s.heap 0 0 [(r0, 16, 14, .ref bv), (bv, 0, 3, .int pc), (bv, 0, 0, .ref pa)] [(pa, 198, n_pa, ca 0, fv)] [] H_23 locs_23 := ((hh_20.call hb_231 hb_232 hb_233 hb_234 hS_23 rfl (L1 := [(r0, 16, 14, .ref bv), (bv, 0, 3, .int pc), (bv, 0, 0, .ref pa)]) [0, 1, 2] rfl rfl (M1 := [(pa, 198, n_pa, ca 0, fv)]) [0] rfl rfl (I1 := []) [] rfl rfl).more hb_235)
              clear hh_20 ht_23 hvm_23 hz_23 hk_23 hS_23 hb_231 hb_232 hb_233 hb_234 hb_235
              obtain ⟨hr_24_0, hr_24_1, hr_24_2⟩ := hr_24
              refine va_calli (A0 := jA base) (H0 := s.heap) (va_runS (As := [.int r_24]) (rest := []) ⟨hx, hb, hml, hown, hts⟩ (uX14_isDigitJ l dC dI ca base B hB hAp G0 H_23 r_24) (va_cwS 1 hts (jgS (jWr_49 _ (List.mem_of_getElem? (i := 18) rfl)) (jWr_49 _ (List.mem_of_getElem? (i := 19) rfl)) (jWr_1 _ (List.mem_of_getElem? (i := 5) rfl)) (jWr_49 _ (List.mem_of_getElem? (i := 20) rfl))) rfl rfl rfl (by decide +kernel) ⟨by rw [← hR]; exact Nat.le_of_ble_eq_true rfl, by rw [← hR]; exact Nat.le_of_ble_eq_true rfl⟩) ⟨fun a U g mk q => by obtain ⟨q0, q1, q2, qK, q10, q11⟩ := q; exact ⟨q0, q1, q2, jG.calling g mk a qK, q10, q11⟩, fun U hU hW => ⟨rfl, hU, hh_23.2.1, hG.step hW hU hh_23.1, jP.nil, trivial⟩⟩ rfl rfl hl.1 rfl (lv_room (Nat.le_of_ble_eq_true rfl)) dX14_isLengthSoFar_43 ⟨Nat.zero_le _, Nat.zero_le _⟩) hh_23.1 (fun q _ h => h) (fun q h => h) (fun r_26 u_25 t_25 H_25 locs_25 ht_25 hvm_25 hr_26 hb_25 hz_25 hk_25 hS_25 => ?_)
              rw [ht_25] at hb_25
              obtain ⟨hb_251, hb_252, hb_253, hb_254, hb_255⟩ := hb_25
              have hh_25 : jSt (dC, dI) B base G0 G0 EX14_isLengthSoFarC s.heap 0 0 [(r0, 16, 14, .ref bv), (bv, 0, 3, .int pc), (bv, 0, 0, .ref pa)] [(pa, 198, n_pa, ca 0, fv)] [] H_25 locs_25 := ((hh_23.call hb_251 hb_252 hb_253 hb_254 hS_25 rfl (L1 := [(r0, 16, 14, .ref bv), (bv, 0, 3, .int pc), (bv, 0, 0, .ref pa)]) [0, 1, 2] rfl rfl (M1 := [(pa, 198, n_pa, ca 0, fv)]) [0] rfl rfl (I1 := []) [] rfl rfl).more hb_255)
              clear hh_23 ht_25 hvm_25 hz_25 hk_25 hS_25 hb_251 hb_252 hb_253 hb_254 hb_255
              obtain ⟨hr_26b, hr_26p⟩ := hr_26
              have hr_26' := jb_01 hr_26b
              refine lv_if_ne (tgt := 51) hx hb dX14_isLengthSoFar_46 (by decide) (fun c_27 => ?_) (fun c_27 => ?_)
              · skip
                have c_27' : r_26.toInt ≠ 0 := jb_ne (rfl) ((by decide)) c_27
                first | (have hr_26pq := hr_26p.resolve_left (by omega); clear hr_26p) | (have hr_26pq := hr_26p.resolve_right (by omega); clear hr_26p) | try clear hr_26p
                refine lv_bipush (v := 10) hx hb dX14_isLengthSoFar_51 (by decide) ?_
                refine lv_iload_n hx hb dX14_isLengthSoFar_53 rfl (lv_at hl 3 rfl) ?_
                refine lv_imul hx hb dX14_isLengthSoFar_54 ?_
                refine lv_topi (fun z_28 ez_28 => ?_)
                have hz_28 : z_28.toInt = 10 * v3_20.toInt := by rw [ez_28]; exact jb_imul2 ((by decide)) (rfl) (by omega)
                refine lv_aload_n hx hb dX14_isLengthSoFar_55 rfl (lv_at hl 0 rfl) ?_
                refine j7_read hx hb hown hK (C := RX14) (T := TX14) (N := 74) rfl hly_16_14 hlk_30 (hh_25.at 0 rfl) dX14_isLengthSoFar_56 ?_
                refine lv_iload hx hb dX14_isLengthSoFar_59 (lv_at hl 4 rfl) ?_
                refine va_calli (A0 := jA base) (H0 := s.heap) (va_runV (As := [.int v4_20]) (rest := [.int z_28]) ⟨hx, hb, hml, hown, hts⟩ (uJ4_charAt_5068e l dC dI ca base B hB hAp hB0 hB198 G0 H_25 bv v4_20 pc pa n_pa fv) (cwV 1 hts (jgV (jWr_49 _ (List.mem_of_getElem? (i := 2) rfl)) (jWr_49 _ (List.mem_of_getElem? (i := 3) rfl)) (jWr_49 _ (List.mem_of_getElem? (i := 4) rfl)) (jWr_11 _ (List.mem_of_getElem? (i := 0) rfl)) (jWr_49 _ (List.mem_of_getElem? (i := 5) rfl))) rfl rfl rfl (by decide +kernel) ⟨by rw [← hR]; exact Nat.le_of_ble_eq_true rfl, by rw [← hR]; exact Nat.le_of_ble_eq_true rfl⟩) ⟨fun a U g mk q => by obtain ⟨q0, q1, q2, qK, q10, q11, q12, q13, q14⟩ := q; exact ⟨q0, q1, q2, jG.calling g mk a qK, q10, q11, q12, q13, q14⟩, hh_25.recv (C := RJ4) (T := TJ4) (N := 4) hB0 rfl (by decide) hg_bv hK, fun U hU hW => ⟨rfl, hU, hh_25.2.1, hG.step hW hU hh_25.1, hg_bv, hg_pa, (hh_25.2.2.1.sub (L1 := [(bv, 0, 3, .int pc), (bv, 0, 0, .ref pa)]) [1, 2] rfl), (hh_25.2.2.2.2.2.2.2.1.sub (L1 := [(pa, 198, n_pa, ca 0, fv)]) [0] rfl), by first | omega | (refine ⟨?_, ?_, ?_, ?_⟩ <;> (first | omega | rfl | assumption | decide | exact Or.inl rfl | exact Or.inr rfl | (simp only; omega)))⟩⟩ rfl rfl hl.1 rfl (lv_room (Nat.le_of_ble_eq_true rfl)) dX14_isLengthSoFar_61 ⟨Nat.zero_le _, Nat.zero_le _⟩) hh_25.1 (fun q _ h => h) (fun q h => h) (fun r_30 u_29 t_29 H_29 locs_29 ht_29 hvm_29 hr_30 hb_29 hz_29 hk_29 hS_29 => ?_)
                rw [ht_29] at hb_29
                obtain ⟨hb_291, hb_292, hb_293, hb_294, hb_295⟩ := hb_29
                have hh_29 : jSt (dC, dI) B base G0 G0 EX14_isLengthSoFarC s.heap 0 0 [(r0, 16, 14, .ref bv), (bv, 0, 3, .int pc), (bv, 0, 0, .ref pa)] [(pa, 198, n_pa, ca 0, fv)] [] H_29 locs_29 := ((hh_25.call hb_291 hb_292 hb_293 hb_294 hS_29 rfl (L1 := [(r0, 16, 14, .ref bv), (bv, 0, 3, .int pc), (bv, 0, 0, .ref pa)]) [0, 1, 2] rfl rfl (M1 := [(pa, 198, n_pa, ca 0, fv)]) [0] rfl rfl (I1 := []) [] rfl rfl).more hb_295)
                clear hh_25 ht_29 hvm_29 hz_29 hk_29 hS_29 hb_291 hb_292 hb_293 hb_294 hb_295
                obtain ⟨hr_30_0, hr_30_1, hr_30_2⟩ := hr_30
                refine lv_iadd hx hb dX14_isLengthSoFar_64 ?_
                refine lv_topi (fun z_31 ez_31 => ?_)
                have hz_31 : z_31.toInt = z_28.toInt + r_30.toInt := by rw [ez_31]; exact jb_iadd2 (rfl) (rfl) (by omega)
                refine lv_bipush (v := 48) hx hb dX14_isLengthSoFar_65 (by decide) ?_
                refine lv_isub hx hb dX14_isLengthSoFar_67 ?_
                refine lv_topi (fun z_32 ez_32 => ?_)
                have hz_32 : z_32.toInt = z_31.toInt - 48 := by rw [ez_32]; exact jb_isub2 (rfl) ((by decide)) (by omega)
                refine lv_istore_n (lv' := [(3, .int z_32), (0, .ref r0), (1, .int a1), (2, .int r_2), (4, .int v4_20)]) hx hb dX14_isLengthSoFar_68 rfl hl (by decide) rfl (fun ls hl => ?_)
                obtain ⟨z_33, ez_33⟩ : ∃ y : Int32, y = v4_20 + 1 := ⟨_, rfl⟩
                refine lv_iinc (v := z_33) (lv' := [(4, .int z_33), (3, .int z_32), (0, .ref r0), (1, .int a1), (2, .int r_2)]) hx hb dX14_isLengthSoFar_69 hl (k := 4) rfl (by rw [ez_33]; rfl) (by decide) rfl (fun ls hl => ?_)
                have hz_33 : z_33.toInt = v4_20.toInt + 1 := by rw [ez_33]; exact jb_iadd2 (rfl) (by decide) (by omega)
                refine lv_goto (tgt := 28) hx hb dX14_isLengthSoFar_72 (by decide) ?_
                exact L28 z_32 z_33 _ _ hh_29 (by have hd0 := hr_24_0; refine ⟨by omega, by omega, jNm_s hi_20_2 (by omega) hr_30_2 (by omega) (by omega), by omega, by omega, by omega, by omega, by omega, by omega, hi_20_9.snoc hr_24_2 (by omega) (by omega) (by omega)⟩) (by omega) _ (lv_sub hl [2, 3, 4, 1, 0] rfl)
              · skip
                have c_27' : r_26.toInt = 0 := jb_ne_n (rfl) ((by decide)) c_27
                first | (have hr_26pq := hr_26p.resolve_left (by omega); clear hr_26p) | (have hr_26pq := hr_26p.resolve_right (by omega); clear hr_26p) | try clear hr_26p
                refine lv_iconst (v := 0) hx hb dX14_isLengthSoFar_49 (by decide) ?_
                rw [hQ]
                exact W.zret (v := 0) hx hb hr (jb_nz (Or.inl rfl)) (fun t ht hW => ⟨⟨0, (), rfl, ⟨(Or.inl rfl), by refine Or.inr ⟨by omega, fun h9 => ?_⟩; have h8 := h9.2.2.1 v4_20.toInt (by omega) (by omega); rw [← hr_24_2] at h8; omega⟩, hh_25.rt (M1 := []) [] rfl ht⟩, by rw [ht]; try exact hh_25.1.1, fun q h9 hq => by rw [ht]; try exact hh_25.1.2.1 q h9 hq⟩) hh_25.1.2.2 dX14_isLengthSoFar_50
        exact L28 (pc.toInt - (0 : Int32).toInt : Int).toNat.succ 0 0 _ _ hh_1 (by refine ⟨by omega, by omega, by rw [hk0]; rfl, by omega, by omega, by omega, by omega, by omega, by omega, ?_⟩; rw [hk0]; exact fun i h0 h1 => by omega) (by omega) _ (lv_sub hl [3, 4, 2, 1, 0] rfl)
      · skip
        have c_19' : r_2.toInt = 0 := jb_ne_n (rfl) ((by decide)) c_19
        refine lv_iconst (v := 0) hx hb dX14_isLengthSoFar_21 (by decide) ?_
        rw [hQ]
        exact W.zret (v := 0) hx hb hr (jb_nz (Or.inl rfl)) (fun t ht hW => ⟨⟨0, (), rfl, ⟨(Or.inl rfl), by refine Or.inr ⟨by omega, fun h9 => ?_⟩; have h8 := h9.1; have h7 := h9.2.1; omega⟩, hh_1.rt (M1 := []) [] rfl ht⟩, by rw [ht]; try exact hh_1.1.1, fun q h9 hq => by rw [ht]; try exact hh_1.1.2.1 q h9 hq⟩) hh_1.1.2.2 dX14_isLengthSoFar_22
set_option maxHeartbeats 4000000 in
set_option maxRecDepth 20000 in
theorem uX14_headerByteC (l : Launch) (dC : Nat → ClassId) (dI : Nat → Nat → Nat) (ca : Nat → ClassId) (base : Nat) (B : jF) (hB : jBok B) (hAp : jAp (dC, dI)) (hB0 : ∀ n G a H, B 0 n G a H ↔ jOb (dC, dI) 0 4 (Fz0 n G) a H) (hB16 : ∀ n G a H, B 16 n G a H ↔ jOb (dC, dI) 16 74 (F16 n G) a H) (hB198 : ∀ n G a H, B 198 n G a H ↔ jAr (dC, dI) (ca 0) (fun j z => jBf j z) n a H) (G0 : jT) (H0 : Heap) (r0 : Nat) (a1 : Int32) (bn : Nat) (bv : Nat) (cn : Int32) (an : Nat) (n_an : Nat) (cv : Int32) (av : Nat) (n_av : Nat) (ph : Int32) (pm : Int32) (pl : Int32) (pb : Int32) (X9 : Nat → Int) (fn : Nat → Int32) (fv : Nat → Int32) (LC LS : Nat) : Met l yX14_headerByte (jw yX14_headerByte cX14_headerByte 3 (some .boolean)) ({ frames := 6, cells := LC - H0.size, slots := LS - jTot H0, locals := 164 }) (va_Pc [.ref r0, .int a1] (fun U => U.heap = H0 ∧ jX B base G0 [] H0 ∧ jG dC dI ca base U ∧ G0 r0 = some (16, 0) ∧ G0 bn = some (0, 0) ∧ G0 bv = some (0, 0) ∧ G0 an = some (198, n_an) ∧ G0 av = some (198, n_av) ∧ jP (dC, dI) G0 H0 [(r0, 16, 13, .ref bn), (r0, 16, 14, .ref bv), (bn, 0, 3, .int cn), (bn, 0, 0, .ref an), (bv, 0, 3, .int cv), (bv, 0, 0, .ref av), (r0, 16, 12, .int ph), (r0, 16, 11, .int pm), (r0, 16, 15, .int pl), (r0, 16, 16, .int pb)] ∧ jMc (dC, dI) G0 H0 [(an, 198, n_an, ca 0, fn), (av, 198, n_av, ca 0, fv)] ∧ H0.size + (n_an + n_av + 4) ≤ LC ∧ jTot H0 + (2 * (n_an + n_av) + 8) ≤ LS ∧ bn ≠ bv ∧ 0 ≤ ph.toInt ∧ ph.toInt ≤ 200 ∧ 0 ≤ cn.toInt ∧ (pm.toInt = 0 ∨ cn.toInt ≤ ph.toInt) ∧ cn.toInt ≤ n_an ∧ 16 ≤ n_an ∧ n_an ≤ 400 ∧ 0 ≤ cv.toInt ∧ (pm.toInt = 0 ∨ cv.toInt ≤ ph.toInt) ∧ cv.toInt ≤ n_av ∧ 16 ≤ n_av ∧ n_av ≤ 400 ∧ -1 ≤ pl.toInt ∧ pl.toInt ≤ 3000 ∧ (pm.toInt ≠ 5 ∨ 0 ≤ pl.toInt) ∧ 0 ≤ a1.toInt ∧ a1.toInt ≤ 255 ∧ 0 ≤ pm.toInt ∧ pm.toInt ≤ 5 ∧ jfRe X9 pm.toInt ph.toInt pl.toInt pb.toInt fn cn.toInt fv cv.toInt ∧ an ≠ av)) (va_Qi (S := Int32 × Int32 × Int32 × Int32 × Int32 × Int32 × Nat × Nat × Nat × Nat × (Nat → Int32) × (Nat → Int32) × jT) (fun r u => (r = 0 ∨ r = 1) ∧ (u.1.toInt = ph.toInt + 1 ∧ 0 ≤ u.2.2.2.2.1.toInt ∧ (u.2.1.toInt = 0 ∨ u.2.2.2.2.1.toInt ≤ u.1.toInt) ∧ u.2.2.2.2.1.toInt ≤ u.2.2.2.2.2.2.2.1 ∧ n_an ≤ u.2.2.2.2.2.2.2.1 ∧ u.2.2.2.2.2.2.2.1 ≤ 400 ∧ 0 ≤ u.2.2.2.2.2.1.toInt ∧ (u.2.1.toInt = 0 ∨ u.2.2.2.2.2.1.toInt ≤ u.1.toInt) ∧ u.2.2.2.2.2.1.toInt ≤ u.2.2.2.2.2.2.2.2.2.1 ∧ n_av ≤ u.2.2.2.2.2.2.2.2.2.1 ∧ u.2.2.2.2.2.2.2.2.2.1 ≤ 400 ∧ -1 ≤ u.2.2.1.toInt ∧ u.2.2.1.toInt ≤ 3000 ∧ (r.toInt = 0 ∨ (u.1.toInt ≤ 200 ∧ 0 ≤ u.2.1.toInt ∧ u.2.1.toInt ≤ 6 ∧ (u.2.1.toInt ≠ 5 ∨ 0 ≤ u.2.2.1.toInt) ∧ (u.2.1.toInt ≠ 6 ∨ (u.2.2.2.1.toInt = 0 ∧ 0 ≤ u.2.2.1.toInt)))) ∧ jfHq X9 a1.toInt r.toInt u.2.1.toInt u.1.toInt u.2.2.1.toInt u.2.2.2.1.toInt u.2.2.2.2.2.2.2.2.2.2.1 u.2.2.2.2.1.toInt u.2.2.2.2.2.2.2.2.2.2.2.1 u.2.2.2.2.2.1.toInt ∧ u.2.2.2.2.2.2.1 ≠ u.2.2.2.2.2.2.2.2.1)) (fun u t => jRa (dC, dI) B base G0 u.2.2.2.2.2.2.2.2.2.2.2.2 EX14_headerByteC H0 ((u.2.2.2.2.2.2.2.1 - n_an) + (u.2.2.2.2.2.2.2.2.2.1 - n_av)) (2 * (u.2.2.2.2.2.2.2.1 - n_an) + 2 * (u.2.2.2.2.2.2.2.2.2.1 - n_av)) [(r0, 16, 12, .int u.1), (r0, 16, 11, .int u.2.1), (r0, 16, 15, .int u.2.2.1), (r0, 16, 16, .int u.2.2.2.1), (bn, 0, 3, .int u.2.2.2.2.1), (bv, 0, 3, .int u.2.2.2.2.2.1), (bn, 0, 0, .ref u.2.2.2.2.2.2.1), (bv, 0, 0, .ref u.2.2.2.2.2.2.2.2.1)] t.heap ∧ u.2.2.2.2.2.2.2.2.2.2.2.2 u.2.2.2.2.2.2.1 = some (198, u.2.2.2.2.2.2.2.1) ∧ u.2.2.2.2.2.2.2.2.2.2.2.2 u.2.2.2.2.2.2.2.2.1 = some (198, u.2.2.2.2.2.2.2.2.2.1) ∧ (jNk [0, 1, 2, 3, 4, 5, 6, 7, 8, 9, 10, 11, 12, 13, 14, 15, 16, 17, 175]) G0 u.2.2.2.2.2.2.2.2.2.2.2.2 ∧ jMc (dC, dI) u.2.2.2.2.2.2.2.2.2.2.2.2 t.heap [(u.2.2.2.2.2.2.1, 198, u.2.2.2.2.2.2.2.1, ca 0, u.2.2.2.2.2.2.2.2.2.2.1), (u.2.2.2.2.2.2.2.2.1, 198, u.2.2.2.2.2.2.2.2.2.1, ca 0, u.2.2.2.2.2.2.2.2.2.2.2.1)]) (jA base)) (LC - H0.size) (LS - jTot H0) (jA base) := by
  refine Met.ofW (cc := cX14_headerByte) (maxL := 3) (ret := (some .boolean)) (by decide) rfl ?_
  intro p e s m args below meth c s₁ Bd hml hv
  obtain ⟨rfl, hH0, hX, hG, hg_r0, hg_bn, hg_bv, hg_an, hg_av, hP0, hM0, hLC0, hLS0, hp0, hp1, hp2, hp3, hp4, hp5, hp6, hp7, hp8, hp9, hp10, hp11, hp12, hp13, hp14, hp15, hp16, hp17, hp18, hp19, hp20, hp21⟩ := hv
  have hK := hG.1
  have hx := Bd.exec
  have hb := Bd.bytes
  have hr := Bd.returns
  have hts := atoms_spec (ws := (jw yX14_headerByte cX14_headerByte 3 (some .boolean))) Bd.pre
  have htw : ∀ w ∈ jWl, w.before _ s = true := fun w h => hts w (List.mem_cons_of_mem _ h)
  have hown : s.vm.findClass RX14 = some m.cls := findClass_of_methodNamed Bd.named
  have hlocks := Bd.notSynchronized
  obtain ⟨Q, hQ⟩ : ∃ Q, Q = MQ below (va_Qi (S := Int32 × Int32 × Int32 × Int32 × Int32 × Int32 × Nat × Nat × Nat × Nat × (Nat → Int32) × (Nat → Int32) × jT) (fun r u => (r = 0 ∨ r = 1) ∧ (u.1.toInt = ph.toInt + 1 ∧ 0 ≤ u.2.2.2.2.1.toInt ∧ (u.2.1.toInt = 0 ∨ u.2.2.2.2.1.toInt ≤ u.1.toInt) ∧ u.2.2.2.2.1.toInt ≤ u.2.2.2.2.2.2.2.1 ∧ n_an ≤ u.2.2.2.2.2.2.2.1 ∧ u.2.2.2.2.2.2.2.1 ≤ 400 ∧ 0 ≤ u.2.2.2.2.2.1.toInt ∧ (u.2.1.toInt = 0 ∨ u.2.2.2.2.2.1.toInt ≤ u.1.toInt) ∧ u.2.2.2.2.2.1.toInt ≤ u.2.2.2.2.2.2.2.2.2.1 ∧ n_av ≤ u.2.2.2.2.2.2.2.2.2.1 ∧ u.2.2.2.2.2.2.2.2.2.1 ≤ 400 ∧ -1 ≤ u.2.2.1.toInt ∧ u.2.2.1.toInt ≤ 3000 ∧ (r.toInt = 0 ∨ (u.1.toInt ≤ 200 ∧ 0 ≤ u.2.1.toInt ∧ u.2.1.toInt ≤ 6 ∧ (u.2.1.toInt ≠ 5 ∨ 0 ≤ u.2.2.1.toInt) ∧ (u.2.1.toInt ≠ 6 ∨ (u.2.2.2.1.toInt = 0 ∧ 0 ≤ u.2.2.1.toInt)))) ∧ jfHq X9 a1.toInt r.toInt u.2.1.toInt u.1.toInt u.2.2.1.toInt u.2.2.2.1.toInt u.2.2.2.2.2.2.2.2.2.2.1 u.2.2.2.2.1.toInt u.2.2.2.2.2.2.2.2.2.2.2.1 u.2.2.2.2.2.1.toInt ∧ u.2.2.2.2.2.2.1 ≠ u.2.2.2.2.2.2.2.2.1)) (fun u t => jRa (dC, dI) B base G0 u.2.2.2.2.2.2.2.2.2.2.2.2 EX14_headerByteC H0 ((u.2.2.2.2.2.2.2.1 - n_an) + (u.2.2.2.2.2.2.2.2.2.1 - n_av)) (2 * (u.2.2.2.2.2.2.2.1 - n_an) + 2 * (u.2.2.2.2.2.2.2.2.2.1 - n_av)) [(r0, 16, 12, .int u.1), (r0, 16, 11, .int u.2.1), (r0, 16, 15, .int u.2.2.1), (r0, 16, 16, .int u.2.2.2.1), (bn, 0, 3, .int u.2.2.2.2.1), (bv, 0, 3, .int u.2.2.2.2.2.1), (bn, 0, 0, .ref u.2.2.2.2.2.2.1), (bv, 0, 0, .ref u.2.2.2.2.2.2.2.2.1)] t.heap ∧ u.2.2.2.2.2.2.2.2.2.2.2.2 u.2.2.2.2.2.2.1 = some (198, u.2.2.2.2.2.2.2.1) ∧ u.2.2.2.2.2.2.2.2.2.2.2.2 u.2.2.2.2.2.2.2.2.1 = some (198, u.2.2.2.2.2.2.2.2.2.1) ∧ (jNk [0, 1, 2, 3, 4, 5, 6, 7, 8, 9, 10, 11, 12, 13, 14, 15, 16, 17, 175]) G0 u.2.2.2.2.2.2.2.2.2.2.2.2 ∧ jMc (dC, dI) u.2.2.2.2.2.2.2.2.2.2.2.2 t.heap [(u.2.2.2.2.2.2.1, 198, u.2.2.2.2.2.2.2.1, ca 0, u.2.2.2.2.2.2.2.2.2.2.1), (u.2.2.2.2.2.2.2.2.1, 198, u.2.2.2.2.2.2.2.2.2.1, ca 0, u.2.2.2.2.2.2.2.2.2.2.2.1)]) (jA base)) ([.ref r0, .int a1] : List Value).toArray s (LC - H0.size) (LS - jTot H0) (jA base) := ⟨_, rfl⟩
  rw [← hQ]
  have hl := lv_entry ([.ref r0, .int a1]) (n := 3) (Nat.le_of_ble_eq_true rfl)
  rw [lg_entry_eq]
  generalize (lg_sl ([.ref r0, .int a1]) ++ List.replicate (3 - (lg_sl ([.ref r0, .int a1])).length) Slot.unset).toArray = ls at hl ⊢
  have hl : lv_has ls 3 [(0, .ref r0), (1, .int a1)] := hl
  generalize hR : (headSpec (jw yX14_headerByte cX14_headerByte 3 (some .boolean)) ({ frames := 6, cells := LC - H0.size, slots := LS - jTot H0, locals := 164 })).room = R
  subst hH0
  have hh : jSt (dC, dI) B base G0 G0 EX14_headerByteC s.heap 0 0 [(r0, 16, 13, .ref bn), (r0, 16, 14, .ref bv), (bn, 0, 3, .int cn), (bn, 0, 0, .ref an), (bv, 0, 3, .int cv), (bv, 0, 0, .ref av), (r0, 16, 12, .int ph), (r0, 16, 11, .int pm), (r0, 16, 15, .int pl), (r0, 16, 16, .int pb)] [(an, 198, n_an, ca 0, fn), (av, 198, n_av, ca 0, fv)] [] s.heap [] := jSt.start hX hP0 hM0 jIs.nil
  clear hX hP0
  have hkm1 : ((-1) : Int32).toInt = (-1) := by decide
  have hk0 : (0 : Int32).toInt = 0 := by decide
  have hk1 : (1 : Int32).toInt = 1 := by decide
  have hk2 : (2 : Int32).toInt = 2 := by decide
  have hk3 : (3 : Int32).toInt = 3 := by decide
  have hk4 : (4 : Int32).toInt = 4 := by decide
  have hk5 : (5 : Int32).toInt = 5 := by decide
  have hk6 : (6 : Int32).toInt = 6 := by decide
  have hk10 : (10 : Int32).toInt = 10 := by decide
  have hk13 : (13 : Int32).toInt = 13 := by decide
  have hk32 : (32 : Int32).toInt = 32 := by decide
  have hk45 : (45 : Int32).toInt = 45 := by decide
  have hk58 : (58 : Int32).toInt = 58 := by decide
  have hk126 : (126 : Int32).toInt = 126 := by decide
  have hk200 : (200 : Int32).toInt = 200 := by decide
  have hly_16_11 := htw (u_lay RX14 TX14 11) (jWc_wsX140 _ (u_in_lay (by decide)))
  have hly_16_12 := htw (u_lay RX14 TX14 12) (jWc_wsX140 _ (u_in_lay (by decide)))
  have hly_16_13 := htw (u_lay RX14 TX14 13) (jWc_wsX140 _ (u_in_lay (by decide)))
  have hly_16_14 := htw (u_lay RX14 TX14 14) (jWc_wsX140 _ (u_in_lay (by decide)))
  have hly_16_15 := htw (u_lay RX14 TX14 15) (jWc_wsX140 _ (u_in_lay (by decide)))
  have hly_16_16 := htw (u_lay RX14 TX14 16) (jWc_wsX140 _ (u_in_lay (by decide)))
  have hlk_228 := (htw (.fieldLink RX14 228 "ProofServerModel" "headerBytes" "I") (jWr_44 _ (List.mem_of_getElem? (i := 18) rfl)))
  have hlk_231 := (htw (.fieldLink RX14 231 "ProofServerModel" "mode" "I") (jWr_44 _ (List.mem_of_getElem? (i := 15) rfl)))
  have hlk_26 := (htw (.fieldLink RX14 26 "ProofServerModel" "name" "Ljava/lang/StringBuilder;") (jWr_11 _ (List.mem_of_getElem? (i := 1) rfl)))
  have hlk_30 := (htw (.fieldLink RX14 30 "ProofServerModel" "value" "Ljava/lang/StringBuilder;") (jWr_11 _ (List.mem_of_getElem? (i := 2) rfl)))
  have hlk_33 := (htw (.fieldLink RX14 33 "ProofServerModel" "length" "I") (jWr_11 _ (List.mem_of_getElem? (i := 3) rfl)))
  have hlk_244 := (htw (.fieldLink RX14 244 "ProofServerModel" "bodyFrom" "I") (jWr_44 _ (List.mem_of_getElem? (i := 17) rfl)))
  have hrg_a1 := jb_rng a1
  have hbs : base ≤ s.heap.size := Nat.le_of_lt (Nat.lt_of_le_of_lt (hh.ab hg_r0).1 (hh.ab hg_r0).2)
  have hRc : R.cells = LC - s.heap.size := by rw [← hR]; rfl
  have hRs : R.slots = LS - jTot s.heap := by rw [← hR]; rfl
  have hRE := hp20
  refine lv_aload_n hx hb dX14_headerByte_0 rfl (lv_at hl 0 rfl) ?_
  refine lv_dup hx hb dX14_headerByte_1 rfl ?_
  refine j7_read hx hb hown hK (C := RX14) (T := TX14) (N := 74) rfl hly_16_12 hlk_228 (hh.at 6 rfl) dX14_headerByte_2 ?_
  refine lv_iconst (v := 1) hx hb dX14_headerByte_5 (by decide) ?_
  refine lv_iadd hx hb dX14_headerByte_6 ?_
  refine lv_topi (fun z_1 ez_1 => ?_)
  have hz_1 : z_1.toInt = ph.toInt + 1 := by rw [ez_1]; exact jb_iadd2 (rfl) ((by decide)) (by omega)
  refine j7_put hx hb hown hK hh hB hAp hB16 (C := RX14) (T := TX14) (N := 74) rfl (by decide) hg_r0 (i := 12) (by decide) hly_16_12 rfl hlk_228 rfl (ty := .int) (v := .int z_1) (by decide +kernel) rfl rfl (⟨_, rfl⟩) rfl (L1 := [(r0, 16, 13, .ref bn), (r0, 16, 14, .ref bv), (bn, 0, 3, .int cn), (bn, 0, 0, .ref an), (bv, 0, 3, .int cv), (bv, 0, 0, .ref av), (r0, 16, 11, .int pm), (r0, 16, 15, .int pl), (r0, 16, 16, .int pb)]) [0, 1, 2, 3, 4, 5, 7, 8, 9] rfl rfl rfl dX14_headerByte_7 (fun H_2 locs_2 hh_2 => ?_)
  clear hh
  refine lv_aload_n hx hb dX14_headerByte_10 rfl (lv_at hl 0 rfl) ?_
  refine j7_read hx hb hown hK (C := RX14) (T := TX14) (N := 74) rfl hly_16_12 hlk_228 (hh_2.at 0 rfl) dX14_headerByte_11 ?_
  refine lv_sipush (v := 200) hx hb dX14_headerByte_14 (by decide) ?_
  refine lv_icmp_le (tgt := 22) hx hb dX14_headerByte_17 (by decide) (fun c_3 => ?_) (fun c_3 => ?_)
  · skip
    have c_3' : z_1.toInt ≤ 200 := jb_le (rfl) ((by decide)) c_3
    refine lv_aload_n hx hb dX14_headerByte_22 rfl (lv_at hl 0 rfl) ?_
    refine j7_read hx hb hown hK (C := RX14) (T := TX14) (N := 74) rfl hly_16_11 hlk_231 (hh_2.at 7 rfl) dX14_headerByte_23 ?_
    refine lv_if_ne (tgt := 103) hx hb dX14_headerByte_26 (by decide) (fun c_4 => ?_) (fun c_4 => ?_)
    · skip
      have c_4' : pm.toInt ≠ 0 := jb_ne (rfl) ((by decide)) c_4
      refine lv_aload_n hx hb dX14_headerByte_103 rfl (lv_at hl 0 rfl) ?_
      refine j7_read hx hb hown hK (C := RX14) (T := TX14) (N := 74) rfl hly_16_11 hlk_231 (hh_2.at 7 rfl) dX14_headerByte_104 ?_
      refine lv_iconst (v := 1) hx hb dX14_headerByte_107 (by decide) ?_
      refine lv_icmp_ne (tgt := 153) hx hb dX14_headerByte_108 (by decide) (fun c_5 => ?_) (fun c_5 => ?_)
      · skip
        have c_5' : pm.toInt ≠ 1 := jb_ne (rfl) ((by decide)) c_5
        refine lv_aload_n hx hb dX14_headerByte_153 rfl (lv_at hl 0 rfl) ?_
        refine j7_read hx hb hown hK (C := RX14) (T := TX14) (N := 74) rfl hly_16_11 hlk_231 (hh_2.at 7 rfl) dX14_headerByte_154 ?_
        refine lv_iconst (v := 4) hx hb dX14_headerByte_157 (by decide) ?_
        refine lv_icmp_eq (tgt := 169) hx hb dX14_headerByte_158 (by decide) (fun c_6 => ?_) (fun c_6 => ?_)
        · skip
          have c_6' : pm.toInt = 4 := jb_eq (rfl) ((by decide)) c_6
          refine lv_aload_n hx hb dX14_headerByte_169 rfl (lv_at hl 0 rfl) ?_
          refine j7_read hx hb hown hK (C := RX14) (T := TX14) (N := 74) rfl hly_16_11 hlk_231 (hh_2.at 7 rfl) dX14_headerByte_170 ?_
          refine lv_iconst (v := 5) hx hb dX14_headerByte_173 (by decide) ?_
          refine lv_icmp_ne (tgt := 181) hx hb dX14_headerByte_174 (by decide) (fun c_7 => ?_) (fun c_7 => ?_)
          · skip
            have c_7' : pm.toInt ≠ 5 := jb_ne (rfl) ((by decide)) c_7
            refine lv_iconst (v := 0) hx hb dX14_headerByte_181 (by decide) ?_
            refine lv_istore_n (lv' := [(2, .int 0), (0, .ref r0), (1, .int a1)]) hx hb dX14_headerByte_182 rfl hl (by decide) rfl (fun ls hl => ?_)
            refine lv_aload_n hx hb dX14_headerByte_183 rfl (lv_at hl 1 rfl) ?_
            refine lv_iload_n hx hb dX14_headerByte_184 rfl (lv_at hl 0 rfl) ?_
            refine lv_if_eq (tgt := 193) hx hb dX14_headerByte_185 (by decide) (fun c_8 => ?_) (fun c_8 => ?_)
            · skip
              refine lv_iconst (v := 0) hx hb dX14_headerByte_193 (by decide) ?_
              refine j7_put hx hb hown hK hh_2 hB hAp hB16 (C := RX14) (T := TX14) (N := 74) rfl (by decide) hg_r0 (i := 11) (by decide) hly_16_11 rfl hlk_231 rfl (ty := .int) (v := .int 0) (by decide +kernel) rfl rfl (⟨_, rfl⟩) rfl (L1 := [(r0, 16, 12, .int z_1), (r0, 16, 13, .ref bn), (r0, 16, 14, .ref bv), (bn, 0, 3, .int cn), (bn, 0, 0, .ref an), (bv, 0, 3, .int cv), (bv, 0, 0, .ref av), (r0, 16, 15, .int pl), (r0, 16, 16, .int pb)]) [0, 1, 2, 3, 4, 5, 6, 8, 9] rfl rfl rfl dX14_headerByte_194 (fun H_9 locs_9 hh_9 => ?_)
              clear hh_2
              refine lv_aload_n hx hb dX14_headerByte_197 rfl (lv_at hl 1 rfl) ?_
              refine lv_iconst (v := 0) hx hb dX14_headerByte_198 (by decide) ?_
              refine j7_put hx hb hown hK hh_9 hB hAp hB16 (C := RX14) (T := TX14) (N := 74) rfl (by decide) hg_r0 (i := 16) (by decide) hly_16_16 rfl hlk_244 rfl (ty := .int) (v := .int 0) (by decide +kernel) rfl rfl (⟨_, rfl⟩) rfl (L1 := [(r0, 16, 11, .int 0), (r0, 16, 12, .int z_1), (r0, 16, 13, .ref bn), (r0, 16, 14, .ref bv), (bn, 0, 3, .int cn), (bn, 0, 0, .ref an), (bv, 0, 3, .int cv), (bv, 0, 0, .ref av), (r0, 16, 15, .int pl)]) [0, 1, 2, 3, 4, 5, 6, 7, 8] rfl rfl rfl dX14_headerByte_199 (fun H_10 locs_10 hh_10 => ?_)
              clear hh_9
              refine lv_iload_n hx hb dX14_headerByte_202 rfl (lv_at hl 2 rfl) ?_
              refine lv_bipush (v := 10) hx hb dX14_headerByte_203 (by decide) ?_
              refine lv_icmp_ne (tgt := 212) hx hb dX14_headerByte_205 (by decide) (fun c_11 => ?_) (fun c_11 => ?_)
              · skip
                have c_11' : a1.toInt ≠ 10 := jb_ne (rfl) ((by decide)) c_11
                refine lv_iconst (v := 0) hx hb dX14_headerByte_212 (by decide) ?_
                have hsz_12 := hh_10.2.2.2.2.2.1
                have htt_12 := hh_10.2.2.2.2.2.2.1
                refine W.room (fun hrc_12 hrs_12 => ?_)
                refine W.widen (k := LC - s.heap.size) (n := LS - jTot s.heap) (by omega) (by omega) ?_
                rw [hQ]
                exact W.zret (v := 0) hx hb hr (jb_nz (Or.inl rfl)) (fun t ht hW => ⟨⟨0, (z_1, 0, pl, 0, cn, cv, an, n_an, av, n_av, fn, fv, G0), rfl, ⟨(Or.inl rfl), by skip; (try dsimp only); refine ⟨by omega, by omega, by omega, by omega, by omega, by omega, by omega, by omega, by omega, by omega, by omega, by omega, by omega, by omega, ?_, ?_⟩; exact jfHq.e4 hRE (by omega) (by omega) (by omega) (by omega) (by omega) (by omega) (by omega); omega⟩, ⟨hh_10.ra (by first | (simp only; omega) | omega) (by first | (simp only; omega) | omega) (M1 := [(r0, 16, 12, .int z_1), (r0, 16, 11, .int 0), (r0, 16, 15, .int pl), (r0, 16, 16, .int 0), (bn, 0, 3, .int cn), (bv, 0, 3, .int cv), (bn, 0, 0, .ref an), (bv, 0, 0, .ref av)]) [2, 1, 9, 0, 5, 7, 6, 8] rfl ht, hg_an, hg_av, jNk.rf, by rw [ht]; exact hh_10.2.2.2.2.2.2.2.1.sub [0, 1] rfl⟩⟩, by rw [ht]; try exact hh_10.1.1, fun q h9 hq => by rw [ht]; try exact hh_10.1.2.1 q h9 hq⟩) hh_10.1.2.2 dX14_headerByte_213
              · skip
                have c_11' : a1.toInt = 10 := jb_ne_n (rfl) ((by decide)) c_11
                refine lv_iconst (v := 1) hx hb dX14_headerByte_208 (by decide) ?_
                refine lv_goto (tgt := 213) hx hb dX14_headerByte_209 (by decide) ?_
                have hsz_13 := hh_10.2.2.2.2.2.1
                have htt_13 := hh_10.2.2.2.2.2.2.1
                refine W.room (fun hrc_13 hrs_13 => ?_)
                refine W.widen (k := LC - s.heap.size) (n := LS - jTot s.heap) (by omega) (by omega) ?_
                rw [hQ]
                exact W.zret (v := 1) hx hb hr (jb_nz (Or.inr rfl)) (fun t ht hW => ⟨⟨1, (z_1, 0, pl, 0, cn, cv, an, n_an, av, n_av, fn, fv, G0), rfl, ⟨(Or.inr rfl), by skip; (try dsimp only); refine ⟨by omega, by omega, by omega, by omega, by omega, by omega, by omega, by omega, by omega, by omega, by omega, by omega, by omega, by omega, ?_, ?_⟩; exact jfHq.e4 hRE (by omega) (by omega) (by omega) (by omega) (by omega) (by omega) (by omega); omega⟩, ⟨hh_10.ra (by first | (simp only; omega) | omega) (by first | (simp only; omega) | omega) (M1 := [(r0, 16, 12, .int z_1), (r0, 16, 11, .int 0), (r0, 16, 15, .int pl), (r0, 16, 16, .int 0), (bn, 0, 3, .int cn), (bv, 0, 3, .int cv), (bn, 0, 0, .ref an), (bv, 0, 0, .ref av)]) [2, 1, 9, 0, 5, 7, 6, 8] rfl ht, hg_an, hg_av, jNk.rf, by rw [ht]; exact hh_10.2.2.2.2.2.2.2.1.sub [0, 1] rfl⟩⟩, by rw [ht]; try exact hh_10.1.1, fun q h9 hq => by rw [ht]; try exact hh_10.1.2.1 q h9 hq⟩) hh_10.1.2.2 dX14_headerByte_213
            · skip
              exact absurd c_8 (by decide)
          · skip
            have c_7' : pm.toInt = 5 := jb_ne_n (rfl) ((by decide)) c_7
            refine lv_iconst (v := 1) hx hb dX14_headerByte_177 (by decide) ?_
            refine lv_goto (tgt := 182) hx hb dX14_headerByte_178 (by decide) ?_
            refine lv_istore_n (lv' := [(2, .int 1), (0, .ref r0), (1, .int a1)]) hx hb dX14_headerByte_182 rfl hl (by decide) rfl (fun ls hl => ?_)
            refine lv_aload_n hx hb dX14_headerByte_183 rfl (lv_at hl 1 rfl) ?_
            refine lv_iload_n hx hb dX14_headerByte_184 rfl (lv_at hl 0 rfl) ?_
            refine lv_if_eq (tgt := 193) hx hb dX14_headerByte_185 (by decide) (fun c_14 => ?_) (fun c_14 => ?_)
            · skip
              exact absurd c_14 (by decide)
            · skip
              refine lv_bipush (v := 6) hx hb dX14_headerByte_188 (by decide) ?_
              refine lv_goto (tgt := 194) hx hb dX14_headerByte_190 (by decide) ?_
              refine j7_put hx hb hown hK hh_2 hB hAp hB16 (C := RX14) (T := TX14) (N := 74) rfl (by decide) hg_r0 (i := 11) (by decide) hly_16_11 rfl hlk_231 rfl (ty := .int) (v := .int 6) (by decide +kernel) rfl rfl (⟨_, rfl⟩) rfl (L1 := [(r0, 16, 12, .int z_1), (r0, 16, 13, .ref bn), (r0, 16, 14, .ref bv), (bn, 0, 3, .int cn), (bn, 0, 0, .ref an), (bv, 0, 3, .int cv), (bv, 0, 0, .ref av), (r0, 16, 15, .int pl), (r0, 16, 16, .int pb)]) [0, 1, 2, 3, 4, 5, 6, 8, 9] rfl rfl rfl dX14_headerByte_194 (fun H_15 locs_15 hh_15 => ?_)
              clear hh_2
              refine lv_aload_n hx hb dX14_headerByte_197 rfl (lv_at hl 1 rfl) ?_
              refine lv_iconst (v := 0) hx hb dX14_headerByte_198 (by decide) ?_
              refine j7_put hx hb hown hK hh_15 hB hAp hB16 (C := RX14) (T := TX14) (N := 74) rfl (by decide) hg_r0 (i := 16) (by decide) hly_16_16 rfl hlk_244 rfl (ty := .int) (v := .int 0) (by decide +kernel) rfl rfl (⟨_, rfl⟩) rfl (L1 := [(r0, 16, 11, .int 6), (r0, 16, 12, .int z_1), (r0, 16, 13, .ref bn), (r0, 16, 14, .ref bv), (bn, 0, 3, .int cn), (bn, 0, 0, .ref an), (bv, 0, 3, .int cv), (bv, 0, 0, .ref av), (r0, 16, 15, .int pl)]) [0, 1, 2, 3, 4, 5, 6, 7, 8] rfl rfl rfl dX14_headerByte_199 (fun H_16 locs_16 hh_16 => ?_)
              clear hh_15
              refine lv_iload_n hx hb dX14_headerByte_202 rfl (lv_at hl 2 rfl) ?_
              refine lv_bipush (v := 10) hx hb dX14_headerByte_203 (by decide) ?_
              refine lv_icmp_ne (tgt := 212) hx hb dX14_headerByte_205 (by decide) (fun c_17 => ?_) (fun c_17 => ?_)
              · skip
                have c_17' : a1.toInt ≠ 10 := jb_ne (rfl) ((by decide)) c_17
                refine lv_iconst (v := 0) hx hb dX14_headerByte_212 (by decide) ?_
                have hsz_18 := hh_16.2.2.2.2.2.1
                have htt_18 := hh_16.2.2.2.2.2.2.1
                refine W.room (fun hrc_18 hrs_18 => ?_)
                refine W.widen (k := LC - s.heap.size) (n := LS - jTot s.heap) (by omega) (by omega) ?_
                rw [hQ]
                exact W.zret (v := 0) hx hb hr (jb_nz (Or.inl rfl)) (fun t ht hW => ⟨⟨0, (z_1, 6, pl, 0, cn, cv, an, n_an, av, n_av, fn, fv, G0), rfl, ⟨(Or.inl rfl), by skip; (try dsimp only); refine ⟨by omega, by omega, by omega, by omega, by omega, by omega, by omega, by omega, by omega, by omega, by omega, by omega, by omega, by omega, ?_, ?_⟩; exact jfHq.e4 hRE (by omega) (by omega) (by omega) (by omega) (by omega) (by omega) (by omega); omega⟩, ⟨hh_16.ra (by first | (simp only; omega) | omega) (by first | (simp only; omega) | omega) (M1 := [(r0, 16, 12, .int z_1), (r0, 16, 11, .int 6), (r0, 16, 15, .int pl), (r0, 16, 16, .int 0), (bn, 0, 3, .int cn), (bv, 0, 3, .int cv), (bn, 0, 0, .ref an), (bv, 0, 0, .ref av)]) [2, 1, 9, 0, 5, 7, 6, 8] rfl ht, hg_an, hg_av, jNk.rf, by rw [ht]; exact hh_16.2.2.2.2.2.2.2.1.sub [0, 1] rfl⟩⟩, by rw [ht]; try exact hh_16.1.1, fun q h9 hq => by rw [ht]; try exact hh_16.1.2.1 q h9 hq⟩) hh_16.1.2.2 dX14_headerByte_213
              · skip
                have c_17' : a1.toInt = 10 := jb_ne_n (rfl) ((by decide)) c_17
                refine lv_iconst (v := 1) hx hb dX14_headerByte_208 (by decide) ?_
                refine lv_goto (tgt := 213) hx hb dX14_headerByte_209 (by decide) ?_
                have hsz_19 := hh_16.2.2.2.2.2.1
                have htt_19 := hh_16.2.2.2.2.2.2.1
                refine W.room (fun hrc_19 hrs_19 => ?_)
                refine W.widen (k := LC - s.heap.size) (n := LS - jTot s.heap) (by omega) (by omega) ?_
                rw [hQ]
                exact W.zret (v := 1) hx hb hr (jb_nz (Or.inr rfl)) (fun t ht hW => ⟨⟨1, (z_1, 6, pl, 0, cn, cv, an, n_an, av, n_av, fn, fv, G0), rfl, ⟨(Or.inr rfl), by skip; (try dsimp only); refine ⟨by omega, by omega, by omega, by omega, by omega, by omega, by omega, by omega, by omega, by omega, by omega, by omega, by omega, by omega, ?_, ?_⟩; exact jfHq.e4 hRE (by omega) (by omega) (by omega) (by omega) (by omega) (by omega) (by omega); omega⟩, ⟨hh_16.ra (by first | (simp only; omega) | omega) (by first | (simp only; omega) | omega) (M1 := [(r0, 16, 12, .int z_1), (r0, 16, 11, .int 6), (r0, 16, 15, .int pl), (r0, 16, 16, .int 0), (bn, 0, 3, .int cn), (bv, 0, 3, .int cv), (bn, 0, 0, .ref an), (bv, 0, 0, .ref av)]) [2, 1, 9, 0, 5, 7, 6, 8] rfl ht, hg_an, hg_av, jNk.rf, by rw [ht]; exact hh_16.2.2.2.2.2.2.2.1.sub [0, 1] rfl⟩⟩, by rw [ht]; try exact hh_16.1.1, fun q h9 hq => by rw [ht]; try exact hh_16.1.2.1 q h9 hq⟩) hh_16.1.2.2 dX14_headerByte_213
        · skip
          have c_6' : pm.toInt ≠ 4 := jb_eq_n (rfl) ((by decide)) c_6
          refine lv_aload_n hx hb dX14_headerByte_161 rfl (lv_at hl 0 rfl) ?_
          refine j7_read hx hb hown hK (C := RX14) (T := TX14) (N := 74) rfl hly_16_11 hlk_231 (hh_2.at 7 rfl) dX14_headerByte_162 ?_
          refine lv_iconst (v := 5) hx hb dX14_headerByte_165 (by decide) ?_
          refine lv_icmp_ne (tgt := 214) hx hb dX14_headerByte_166 (by decide) (fun c_20 => ?_) (fun c_20 => ?_)
          · skip
            have c_20' : pm.toInt ≠ 5 := jb_ne (rfl) ((by decide)) c_20
            refine lv_aload_n hx hb dX14_headerByte_214 rfl (lv_at hl 0 rfl) ?_
            refine j7_read hx hb hown hK (C := RX14) (T := TX14) (N := 74) rfl hly_16_11 hlk_231 (hh_2.at 7 rfl) dX14_headerByte_215 ?_
            refine lv_iconst (v := 2) hx hb dX14_headerByte_218 (by decide) ?_
            refine lv_icmp_ne (tgt := 230) hx hb dX14_headerByte_219 (by decide) (fun c_21 => ?_) (fun c_21 => ?_)
            · skip
              have c_21' : pm.toInt ≠ 2 := jb_ne (rfl) ((by decide)) c_21
              refine lv_aload_n hx hb dX14_headerByte_230 rfl (lv_at hl 0 rfl) ?_
              refine lv_iconst (v := 3) hx hb dX14_headerByte_231 (by decide) ?_
              refine j7_put hx hb hown hK hh_2 hB hAp hB16 (C := RX14) (T := TX14) (N := 74) rfl (by decide) hg_r0 (i := 11) (by decide) hly_16_11 rfl hlk_231 rfl (ty := .int) (v := .int 3) (by decide +kernel) rfl rfl (⟨_, rfl⟩) rfl (L1 := [(r0, 16, 12, .int z_1), (r0, 16, 13, .ref bn), (r0, 16, 14, .ref bv), (bn, 0, 3, .int cn), (bn, 0, 0, .ref an), (bv, 0, 3, .int cv), (bv, 0, 0, .ref av), (r0, 16, 15, .int pl), (r0, 16, 16, .int pb)]) [0, 1, 2, 3, 4, 5, 6, 8, 9] rfl rfl rfl dX14_headerByte_232 (fun H_22 locs_22 hh_22 => ?_)
              clear hh_2
              refine lv_iload_n hx hb dX14_headerByte_235 rfl (lv_at hl 1 rfl) ?_
              refine lv_bipush (v := 13) hx hb dX14_headerByte_236 (by decide) ?_
              refine lv_icmp_ne (tgt := 288) hx hb dX14_headerByte_238 (by decide) (fun c_23 => ?_) (fun c_23 => ?_)
              · skip
                have c_23' : a1.toInt ≠ 13 := jb_ne (rfl) ((by decide)) c_23
                refine lv_aload_n hx hb dX14_headerByte_288 rfl (lv_at hl 0 rfl) ?_
                refine j7_read hx hb hown hK (C := RX14) (T := TX14) (N := 74) rfl hly_16_14 hlk_30 (hh_22.at 3 rfl) dX14_headerByte_289 ?_
                refine lv_iload_n hx hb dX14_headerByte_292 rfl (lv_at hl 1 rfl) ?_
                refine lv_i2c hx hb dX14_headerByte_293 rfl ?_
                refine lv_topi (fun z_24 ez_24 => ?_)
                have hic := jb_i2c (by assumption) hp16 hp17
                have hsz_25 := hh_22.2.2.2.2.2.1
                have htt_25 := hh_22.2.2.2.2.2.2.1
                refine W.room (fun hrc_25 hrs_25 => ?_)
                refine j_callx (A0 := jA base) (H0 := s.heap) (va_runV (As := [.int z_24]) (rest := []) ⟨hx, hb, hml, hown, hts⟩ (uJ4_append_cf468C l dC dI ca base B hB hAp hB0 hB198 G0 H_22 bv z_24 cv av n_av fv an n_an fn LC LS) (cwV 1 hts (jgV (jWr_46 _ (List.mem_of_getElem? (i := 18) rfl)) (jWr_46 _ (List.mem_of_getElem? (i := 19) rfl)) (jWr_46 _ (List.mem_of_getElem? (i := 20) rfl)) (jWr_11 _ (List.mem_of_getElem? (i := 0) rfl)) (jWr_46 _ (List.mem_of_getElem? (i := 21) rfl))) rfl rfl rfl (by decide +kernel) ⟨by rw [← hR]; exact Nat.le_of_ble_eq_true rfl, by rw [← hR]; exact Nat.le_of_ble_eq_true rfl⟩) ⟨fun a U g mk q => by obtain ⟨q0, q1, q2, qK, q10, q11, q12, q13, q14⟩ := q; exact ⟨q0, q1, q2, jG.calling g mk a qK, q10, q11, q12, q13, q14⟩, hh_22.recv (C := RJ4) (T := TJ4) (N := 4) hB0 rfl (by decide) hg_bv hK, fun U hU hW => ⟨rfl, hU, hh_22.2.1, hG.step hW hU hh_22.1, hg_bv, hg_av, (hh_22.2.2.1.sub (L1 := [(bv, 0, 3, .int cv), (bv, 0, 0, .ref av)]) [6, 7] rfl), (hh_22.2.2.2.2.2.2.2.1.sub (L1 := [(av, 198, n_av, ca 0, fv), (an, 198, n_an, ca 0, fn)]) [1, 0] rfl), by first | omega | (refine ⟨?_, ?_, ?_, ?_, ?_, ?_, ?_⟩ <;> (first | omega | rfl | assumption | decide | exact Or.inl rfl | exact Or.inr rfl | (simp only; omega)))⟩⟩ rfl rfl hl.1 rfl (lv_room (Nat.le_of_ble_eq_true rfl)) dX14_headerByte_294 ⟨by rw [hRc]; omega, by rw [hRs]; omega⟩) hh_22.1 (fun q _ h => h) (fun q h => h) (fun r_26 u_25 t_25 H_25 locs_25 ht_25 hvm_25 hr_26 hb_25 hz_25 hk_25 hS_25 => ?_)
                obtain ⟨qc_25, qa_25, m_qa_25, gv_25, G_25⟩ := u_25
                rw [ht_25] at hb_25
                simp only at hb_25
                obtain ⟨⟨hb_251, hb_252, hb_253, hb_254, hb_255, hb_256⟩, hgq_25_0, hN_25, hbO_25, hbM_25⟩ := hb_25
                have hh_25 : jSt (dC, dI) B base G0 G_25 EX14_headerByteC s.heap (0 + (m_qa_25 - n_av)) (0 + (2 * (m_qa_25 - n_av))) [(bv, 0, 3, .int qc_25), (bv, 0, 0, .ref qa_25), (r0, 16, 11, .int 3), (r0, 16, 12, .int z_1), (r0, 16, 13, .ref bn), (r0, 16, 14, .ref bv), (r0, 16, 15, .int pl), (r0, 16, 16, .int pb)] [] [] H_25 locs_25 := (hh_22.callG hb_251 hb_252 hb_253 hb_254 hb_255 hS_25 rfl (L1 := [(r0, 16, 11, .int 3), (r0, 16, 12, .int z_1), (r0, 16, 13, .ref bn), (r0, 16, 14, .ref bv), (r0, 16, 15, .int pl), (r0, 16, 16, .int pb)]) [0, 1, 2, 3, 8, 9] rfl rfl (M1 := []) [] rfl rfl (I1 := []) [] rfl rfl).more hb_256
                have hNn_25 : (jNk [0, 1, 2, 3, 4, 5, 6, 7, 8, 9, 10, 11, 12, 13, 14, 15, 16, 17, 175]) G0 G_25 := (jNk.rf).tr hN_25
                have hg_27 := hb_252 _ _ hg_r0
                have hg_28 := hb_252 _ _ hg_bn
                have hg_29 := hb_252 _ _ hg_bv
                have hh_30 := hh_25.moreM hbM_25
                have hh_31 := hh_30.more (P1 := [(bn, 0, 3, .int cn), (bn, 0, 0, .ref an)]) (jP.cons hg_28 (hbO_25 _ _ _ _ (by first | assumption | exact Ne.symm (by assumption) | exact jnek hg_bn hg_bv (by decide)) hg_bn (hh_22.at 4 rfl)) (jP.cons hg_28 (hbO_25 _ _ _ _ (by first | assumption | exact Ne.symm (by assumption) | exact jnek hg_bn hg_bv (by decide)) hg_bn (hh_22.at 5 rfl)) jP.nil))
                have hg_32 := hb_252 _ _ hg_an
                obtain ⟨hr_26, hr_26p⟩ := hr_26
                try simp only at hr_26p
                obtain ⟨hr_26p_0, hr_26p_1, hr_26p_2, hr_26p_3, hr_26p_4, hr_26p_5, hr_26p_6⟩ := hr_26p
                obtain ⟨ret_33, rfl, hg_ret_33⟩ := hr_26
                have hg_34 := hb_252 _ _ hg_ret_33
                refine lv_pop hx hb dX14_headerByte_297 rfl ?_
                refine lv_iload_n hx hb dX14_headerByte_298 rfl (lv_at hl 1 rfl) ?_
                refine lv_bipush (v := 32) hx hb dX14_headerByte_299 (by decide) ?_
                refine lv_bipush (v := 126) hx hb dX14_headerByte_301 (by decide) ?_
                have hsz_35 := hh_31.2.2.2.2.2.1
                have htt_35 := hh_31.2.2.2.2.2.2.1
                refine W.room (fun hrc_35 hrs_35 => ?_)
                refine va_calli (A0 := jA base) (H0 := s.heap) (va_runS (As := [.int a1, .int 32, .int 126]) (rest := []) ⟨hx, hb, hml, hown, hts⟩ (uX14_in l dC dI ca base B hB hAp G_25 H_25 a1 32 126) (va_cwS 3 hts (jgS (jWr_48 _ (List.mem_of_getElem? (i := 10) rfl)) (jWr_48 _ (List.mem_of_getElem? (i := 11) rfl)) (jWr_1 _ (List.mem_of_getElem? (i := 5) rfl)) (jWr_48 _ (List.mem_of_getElem? (i := 12) rfl))) rfl rfl rfl (by decide +kernel) ⟨by rw [← hR]; exact Nat.le_of_ble_eq_true rfl, by rw [← hR]; exact Nat.le_of_ble_eq_true rfl⟩) ⟨fun a U g mk q => by obtain ⟨q0, q1, q2, qK, q10, q11⟩ := q; exact ⟨q0, q1, q2, jG.calling g mk a qK, q10, q11⟩, fun U hU hW => ⟨rfl, hU, hh_31.2.1, hG.step hW hU hh_31.1, jP.nil, trivial⟩⟩ rfl rfl hl.1 rfl (lv_room (Nat.le_of_ble_eq_true rfl)) dX14_headerByte_303 ⟨by rw [hRc]; show _ + 0 ≤ _; omega, by rw [hRs]; show _ + 0 ≤ _; omega⟩) hh_31.1 (fun q _ h => h) (fun q h => h) (fun r_36 u_35 t_35 H_35 locs_35 ht_35 hvm_35 hr_36 hb_35 hz_35 hk_35 hS_35 => ?_)
                rw [ht_35] at hb_35
                obtain ⟨hb_351, hb_352, hb_353, hb_354, hb_355⟩ := hb_35
                have hh_35 : jSt (dC, dI) B base G0 G_25 EX14_headerByteC s.heap (0 + (m_qa_25 - n_av)) (0 + (2 * (m_qa_25 - n_av))) [(bn, 0, 3, .int cn), (bn, 0, 0, .ref an), (bv, 0, 3, .int qc_25), (bv, 0, 0, .ref qa_25), (r0, 16, 11, .int 3), (r0, 16, 12, .int z_1), (r0, 16, 13, .ref bn), (r0, 16, 14, .ref bv), (r0, 16, 15, .int pl), (r0, 16, 16, .int pb)] [(qa_25, 198, m_qa_25, ca 0, gv_25), (an, 198, n_an, ca 0, fn)] [] H_35 locs_35 := ((hh_31.call hb_351 hb_352 hb_353 hb_354 hS_35 rfl (L1 := [(bn, 0, 3, .int cn), (bn, 0, 0, .ref an), (bv, 0, 3, .int qc_25), (bv, 0, 0, .ref qa_25), (r0, 16, 11, .int 3), (r0, 16, 12, .int z_1), (r0, 16, 13, .ref bn), (r0, 16, 14, .ref bv), (r0, 16, 15, .int pl), (r0, 16, 16, .int pb)]) [0, 1, 2, 3, 4, 5, 6, 7, 8, 9] rfl rfl (M1 := [(qa_25, 198, m_qa_25, ca 0, gv_25), (an, 198, n_an, ca 0, fn)]) [0, 1] rfl rfl (I1 := []) [] rfl rfl).more hb_355)
                clear hh_31 ht_35 hvm_35 hz_35 hk_35 hS_35 hb_351 hb_352 hb_353 hb_354 hb_355
                obtain ⟨hr_36b, hr_36p⟩ := hr_36
                obtain ⟨hr_36p_0, hr_36p_1, hr_36p_2⟩ := hr_36p
                have hi303 := jIn.or a1.toInt (32 : Int32).toInt (126 : Int32).toInt
                have hr_36' := jb_01 hr_36b
                refine lv_if_eq (tgt := 328) hx hb dX14_headerByte_306 (by decide) (fun c_37 => ?_) (fun c_37 => ?_)
                · skip
                  have c_37' : r_36.toInt = 0 := jb_eq (rfl) ((by decide)) c_37
                  refine lv_iconst (v := 0) hx hb dX14_headerByte_328 (by decide) ?_
                  have hsz_38 := hh_35.2.2.2.2.2.1
                  have htt_38 := hh_35.2.2.2.2.2.2.1
                  refine W.room (fun hrc_38 hrs_38 => ?_)
                  refine W.widen (k := LC - s.heap.size) (n := LS - jTot s.heap) (by omega) (by omega) ?_
                  rw [hQ]
                  exact W.zret (v := 0) hx hb hr (jb_nz (Or.inl rfl)) (fun t ht hW => ⟨⟨0, (z_1, 3, pl, pb, cn, qc_25, an, n_an, qa_25, m_qa_25, fn, gv_25, G_25), rfl, ⟨(Or.inl rfl), by skip; (try dsimp only); refine ⟨by omega, by omega, by omega, by omega, by omega, by omega, by omega, by omega, by omega, by omega, by omega, by omega, by omega, by omega, ?_, ?_⟩; (rcases jfCl.z fn cn.toInt with h9 | h9; exact jfHq.v2 hRE (by omega) (by omega) (by omega) h9 (by omega) (by omega) (by omega) rfl (by omega) (by omega); exact jfHq.v3 hRE (by omega) (by omega) (by omega) (by omega) h9 (by omega) (by omega) (by omega) (by omega) rfl (by omega) (hr_26p_5.to (by omega)) (by omega) (by omega)); omega⟩, ⟨hh_35.ra (by first | (simp only; omega) | omega) (by first | (simp only; omega) | omega) (M1 := [(r0, 16, 12, .int z_1), (r0, 16, 11, .int 3), (r0, 16, 15, .int pl), (r0, 16, 16, .int pb), (bn, 0, 3, .int cn), (bv, 0, 3, .int qc_25), (bn, 0, 0, .ref an), (bv, 0, 0, .ref qa_25)]) [5, 4, 8, 9, 0, 2, 1, 3] rfl ht, hg_32, hgq_25_0, hNn_25, by rw [ht]; exact hh_35.2.2.2.2.2.2.2.1.sub [1, 0] rfl⟩⟩, by rw [ht]; try exact hh_35.1.1, fun q h9 hq => by rw [ht]; try exact hh_35.1.2.1 q h9 hq⟩) hh_35.1.2.2 dX14_headerByte_329
                · skip
                  have c_37' : r_36.toInt ≠ 0 := jb_eq_n (rfl) ((by decide)) c_37
                  refine lv_aload_n hx hb dX14_headerByte_309 rfl (lv_at hl 0 rfl) ?_
                  have hsz_39 := hh_35.2.2.2.2.2.1
                  have htt_39 := hh_35.2.2.2.2.2.2.1
                  refine W.room (fun hrc_39 hrs_39 => ?_)
                  refine va_calli (A0 := jA base) (H0 := s.heap) (va_runV (As := []) (rest := []) ⟨hx, hb, hml, hown, hts⟩ (uX14_isContentLengthC l dC dI ca base B hB hAp hB0 hB16 hB198 G_25 H_35 r0 bn cn an n_an fn) (cwV 0 hts (jgV (jWr_48 _ (List.mem_of_getElem? (i := 13) rfl)) (jWr_48 _ (List.mem_of_getElem? (i := 14) rfl)) (jWr_48 _ (List.mem_of_getElem? (i := 15) rfl)) (jWr_1 _ (List.mem_of_getElem? (i := 5) rfl)) (jWr_48 _ (List.mem_of_getElem? (i := 16) rfl))) rfl rfl rfl (by decide +kernel) ⟨by rw [← hR]; exact Nat.le_of_ble_eq_true rfl, by rw [← hR]; exact Nat.le_of_ble_eq_true rfl⟩) ⟨fun a U g mk q => by obtain ⟨q0, q1, q2, qK, q10, q11, q12, q13, q14, q15⟩ := q; exact ⟨q0, q1, q2, jG.calling g mk a qK, q10, q11, q12, q13, q14, q15⟩, hh_35.recv (C := RX14) (T := TX14) (N := 74) hB16 rfl (by decide) hg_27 hK, fun U hU hW => ⟨rfl, hU, hh_35.2.1, hG.step hW hU hh_35.1, hg_27, hg_28, hg_32, (hh_35.2.2.1.sub (L1 := [(r0, 16, 13, .ref bn), (bn, 0, 3, .int cn), (bn, 0, 0, .ref an)]) [6, 0, 1] rfl), (hh_35.2.2.2.2.2.2.2.1.sub (L1 := [(an, 198, n_an, ca 0, fn)]) [1] rfl), by first | omega | (refine ⟨?_, ?_, ?_⟩ <;> (first | omega | rfl | assumption | decide | exact Or.inl rfl | exact Or.inr rfl | (simp only; omega)))⟩⟩ rfl rfl hl.1 rfl (lv_room (Nat.le_of_ble_eq_true rfl)) dX14_headerByte_310 ⟨by rw [hRc]; show _ + 0 ≤ _; omega, by rw [hRs]; show _ + 0 ≤ _; omega⟩) hh_35.1 (fun q _ h => h) (fun q h => h) (fun r_40 u_39 t_39 H_39 locs_39 ht_39 hvm_39 hr_40 hb_39 hz_39 hk_39 hS_39 => ?_)
                  rw [ht_39] at hb_39
                  obtain ⟨hb_391, hb_392, hb_393, hb_394, hb_395⟩ := hb_39
                  have hh_39 : jSt (dC, dI) B base G0 G_25 EX14_headerByteC s.heap (0 + (m_qa_25 - n_av)) (0 + (2 * (m_qa_25 - n_av))) [(bn, 0, 3, .int cn), (bn, 0, 0, .ref an), (bv, 0, 3, .int qc_25), (bv, 0, 0, .ref qa_25), (r0, 16, 11, .int 3), (r0, 16, 12, .int z_1), (r0, 16, 13, .ref bn), (r0, 16, 14, .ref bv), (r0, 16, 15, .int pl), (r0, 16, 16, .int pb)] [(qa_25, 198, m_qa_25, ca 0, gv_25), (an, 198, n_an, ca 0, fn)] [] H_39 locs_39 := ((hh_35.call hb_391 hb_392 hb_393 hb_394 hS_39 rfl (L1 := [(bn, 0, 3, .int cn), (bn, 0, 0, .ref an), (bv, 0, 3, .int qc_25), (bv, 0, 0, .ref qa_25), (r0, 16, 11, .int 3), (r0, 16, 12, .int z_1), (r0, 16, 13, .ref bn), (r0, 16, 14, .ref bv), (r0, 16, 15, .int pl), (r0, 16, 16, .int pb)]) [0, 1, 2, 3, 4, 5, 6, 7, 8, 9] rfl rfl (M1 := [(qa_25, 198, m_qa_25, ca 0, gv_25), (an, 198, n_an, ca 0, fn)]) [0, 1] rfl rfl (I1 := []) [] rfl rfl).more hb_395)
                  clear hh_35 ht_39 hvm_39 hz_39 hk_39 hS_39 hb_391 hb_392 hb_393 hb_394 hb_395
                  obtain ⟨hr_40b, hr_40p⟩ := hr_40
                  have hcl := hr_40p
                  have hr_40' := jb_01 hr_40b
                  refine lv_if_eq (tgt := 324) hx hb dX14_headerByte_313 (by decide) (fun c_41 => ?_) (fun c_41 => ?_)
                  · skip
                    have c_41' : r_40.toInt = 0 := jb_eq (rfl) ((by decide)) c_41
                    refine lv_iconst (v := 1) hx hb dX14_headerByte_324 (by decide) ?_
                    refine lv_goto (tgt := 329) hx hb dX14_headerByte_325 (by decide) ?_
                    have hsz_42 := hh_39.2.2.2.2.2.1
                    have htt_42 := hh_39.2.2.2.2.2.2.1
                    refine W.room (fun hrc_42 hrs_42 => ?_)
                    refine W.widen (k := LC - s.heap.size) (n := LS - jTot s.heap) (by omega) (by omega) ?_
                    rw [hQ]
                    exact W.zret (v := 1) hx hb hr (jb_nz (Or.inr rfl)) (fun t ht hW => ⟨⟨1, (z_1, 3, pl, pb, cn, qc_25, an, n_an, qa_25, m_qa_25, fn, gv_25, G_25), rfl, ⟨(Or.inr rfl), by skip; (try dsimp only); refine ⟨by omega, by omega, by omega, by omega, by omega, by omega, by omega, by omega, by omega, by omega, by omega, by omega, by omega, by omega, ?_, ?_⟩; exact jfHq.v2 hRE (by omega) (by omega) (by omega) (by omega) (by omega) (by omega) (by omega) rfl (by omega) (by omega); omega⟩, ⟨hh_39.ra (by first | (simp only; omega) | omega) (by first | (simp only; omega) | omega) (M1 := [(r0, 16, 12, .int z_1), (r0, 16, 11, .int 3), (r0, 16, 15, .int pl), (r0, 16, 16, .int pb), (bn, 0, 3, .int cn), (bv, 0, 3, .int qc_25), (bn, 0, 0, .ref an), (bv, 0, 0, .ref qa_25)]) [5, 4, 8, 9, 0, 2, 1, 3] rfl ht, hg_32, hgq_25_0, hNn_25, by rw [ht]; exact hh_39.2.2.2.2.2.2.2.1.sub [1, 0] rfl⟩⟩, by rw [ht]; try exact hh_39.1.1, fun q h9 hq => by rw [ht]; try exact hh_39.1.2.1 q h9 hq⟩) hh_39.1.2.2 dX14_headerByte_329
                  · skip
                    have c_41' : r_40.toInt ≠ 0 := jb_eq_n (rfl) ((by decide)) c_41
                    refine lv_aload_n hx hb dX14_headerByte_316 rfl (lv_at hl 0 rfl) ?_
                    refine lv_iconst (v := 0) hx hb dX14_headerByte_317 (by decide) ?_
                    have hsz_43 := hh_39.2.2.2.2.2.1
                    have htt_43 := hh_39.2.2.2.2.2.2.1
                    refine W.room (fun hrc_43 hrs_43 => ?_)
                    refine va_calli (A0 := jA base) (H0 := s.heap) (va_runV (As := [.int 0]) (rest := []) ⟨hx, hb, hml, hown, hts⟩ (uX14_isLengthSoFarC l dC dI ca base B hB hAp hB0 hB16 hB198 G_25 H_39 r0 0 bv qc_25 qa_25 m_qa_25 gv_25) (cwV 1 hts (jgV (jWr_49 _ (List.mem_of_getElem? (i := 14) rfl)) (jWr_49 _ (List.mem_of_getElem? (i := 15) rfl)) (jWr_49 _ (List.mem_of_getElem? (i := 16) rfl)) (jWr_1 _ (List.mem_of_getElem? (i := 5) rfl)) (jWr_49 _ (List.mem_of_getElem? (i := 17) rfl))) rfl rfl rfl (by decide +kernel) ⟨by rw [← hR]; exact Nat.le_of_ble_eq_true rfl, by rw [← hR]; exact Nat.le_of_ble_eq_true rfl⟩) ⟨fun a U g mk q => by obtain ⟨q0, q1, q2, qK, q10, q11, q12, q13, q14, q15, q16⟩ := q; exact ⟨q0, q1, q2, jG.calling g mk a qK, q10, q11, q12, q13, q14, q15, q16⟩, hh_39.recv (C := RX14) (T := TX14) (N := 74) hB16 rfl (by decide) hg_27 hK, fun U hU hW => ⟨rfl, hU, hh_39.2.1, hG.step hW hU hh_39.1, hg_27, (Or.inl rfl), hg_29, hgq_25_0, (hh_39.2.2.1.sub (L1 := [(r0, 16, 14, .ref bv), (bv, 0, 3, .int qc_25), (bv, 0, 0, .ref qa_25)]) [7, 2, 3] rfl), (hh_39.2.2.2.2.2.2.2.1.sub (L1 := [(qa_25, 198, m_qa_25, ca 0, gv_25)]) [0] rfl), by first | omega | (refine ⟨?_, ?_, ?_⟩ <;> (first | omega | rfl | assumption | decide | exact Or.inl rfl | exact Or.inr rfl | (simp only; omega)))⟩⟩ rfl rfl hl.1 rfl (lv_room (Nat.le_of_ble_eq_true rfl)) dX14_headerByte_318 ⟨by rw [hRc]; show _ + 0 ≤ _; omega, by rw [hRs]; show _ + 0 ≤ _; omega⟩) hh_39.1 (fun q _ h => h) (fun q h => h) (fun r_44 u_43 t_43 H_43 locs_43 ht_43 hvm_43 hr_44 hb_43 hz_43 hk_43 hS_43 => ?_)
                    rw [ht_43] at hb_43
                    obtain ⟨hb_431, hb_432, hb_433, hb_434, hb_435⟩ := hb_43
                    have hh_43 : jSt (dC, dI) B base G0 G_25 EX14_headerByteC s.heap (0 + (m_qa_25 - n_av)) (0 + (2 * (m_qa_25 - n_av))) [(bn, 0, 3, .int cn), (bn, 0, 0, .ref an), (bv, 0, 3, .int qc_25), (bv, 0, 0, .ref qa_25), (r0, 16, 11, .int 3), (r0, 16, 12, .int z_1), (r0, 16, 13, .ref bn), (r0, 16, 14, .ref bv), (r0, 16, 15, .int pl), (r0, 16, 16, .int pb)] [(qa_25, 198, m_qa_25, ca 0, gv_25), (an, 198, n_an, ca 0, fn)] [] H_43 locs_43 := ((hh_39.call hb_431 hb_432 hb_433 hb_434 hS_43 rfl (L1 := [(bn, 0, 3, .int cn), (bn, 0, 0, .ref an), (bv, 0, 3, .int qc_25), (bv, 0, 0, .ref qa_25), (r0, 16, 11, .int 3), (r0, 16, 12, .int z_1), (r0, 16, 13, .ref bn), (r0, 16, 14, .ref bv), (r0, 16, 15, .int pl), (r0, 16, 16, .int pb)]) [0, 1, 2, 3, 4, 5, 6, 7, 8, 9] rfl rfl (M1 := [(qa_25, 198, m_qa_25, ca 0, gv_25), (an, 198, n_an, ca 0, fn)]) [0, 1] rfl rfl (I1 := []) [] rfl rfl).more hb_435)
                    clear hh_39 ht_43 hvm_43 hz_43 hk_43 hS_43 hb_431 hb_432 hb_433 hb_434 hb_435
                    obtain ⟨hr_44b, hr_44p⟩ := hr_44
                    have hls318 := hr_44p
                    have hr_44' := jb_01 hr_44b
                    refine lv_if_eq (tgt := 328) hx hb dX14_headerByte_321 (by decide) (fun c_45 => ?_) (fun c_45 => ?_)
                    · skip
                      have c_45' : r_44.toInt = 0 := jb_eq (rfl) ((by decide)) c_45
                      first | (have hr_44pq := hr_44p.resolve_left (by omega); clear hr_44p) | (have hr_44pq := hr_44p.resolve_right (by omega); clear hr_44p) | try clear hr_44p
                      have hlo := hls318.resolve_left (by omega)
                      refine lv_iconst (v := 0) hx hb dX14_headerByte_328 (by decide) ?_
                      have hsz_46 := hh_43.2.2.2.2.2.1
                      have htt_46 := hh_43.2.2.2.2.2.2.1
                      refine W.room (fun hrc_46 hrs_46 => ?_)
                      refine W.widen (k := LC - s.heap.size) (n := LS - jTot s.heap) (by omega) (by omega) ?_
                      rw [hQ]
                      exact W.zret (v := 0) hx hb hr (jb_nz (Or.inl rfl)) (fun t ht hW => ⟨⟨0, (z_1, 3, pl, pb, cn, qc_25, an, n_an, qa_25, m_qa_25, fn, gv_25, G_25), rfl, ⟨(Or.inl rfl), by skip; (try dsimp only); refine ⟨by omega, by omega, by omega, by omega, by omega, by omega, by omega, by omega, by omega, by omega, by omega, by omega, by omega, by omega, ?_, ?_⟩; exact jfHq.v3 hRE (by omega) (by omega) (by omega) (by omega) (by omega) (by omega) (by omega) (by omega) (by omega) rfl (by omega) (hr_26p_5.to (by omega)) (by omega) (Or.inr ⟨Or.inr (Or.inr hlo.2), by omega⟩); omega⟩, ⟨hh_43.ra (by first | (simp only; omega) | omega) (by first | (simp only; omega) | omega) (M1 := [(r0, 16, 12, .int z_1), (r0, 16, 11, .int 3), (r0, 16, 15, .int pl), (r0, 16, 16, .int pb), (bn, 0, 3, .int cn), (bv, 0, 3, .int qc_25), (bn, 0, 0, .ref an), (bv, 0, 0, .ref qa_25)]) [5, 4, 8, 9, 0, 2, 1, 3] rfl ht, hg_32, hgq_25_0, hNn_25, by rw [ht]; exact hh_43.2.2.2.2.2.2.2.1.sub [1, 0] rfl⟩⟩, by rw [ht]; try exact hh_43.1.1, fun q h9 hq => by rw [ht]; try exact hh_43.1.2.1 q h9 hq⟩) hh_43.1.2.2 dX14_headerByte_329
                    · skip
                      have c_45' : r_44.toInt ≠ 0 := jb_eq_n (rfl) ((by decide)) c_45
                      first | (have hr_44pq := hr_44p.resolve_left (by omega); clear hr_44p) | (have hr_44pq := hr_44p.resolve_right (by omega); clear hr_44p) | try clear hr_44p
                      have hlo := hls318.resolve_right (by omega)
                      refine lv_iconst (v := 1) hx hb dX14_headerByte_324 (by decide) ?_
                      refine lv_goto (tgt := 329) hx hb dX14_headerByte_325 (by decide) ?_
                      have hsz_47 := hh_43.2.2.2.2.2.1
                      have htt_47 := hh_43.2.2.2.2.2.2.1
                      refine W.room (fun hrc_47 hrs_47 => ?_)
                      refine W.widen (k := LC - s.heap.size) (n := LS - jTot s.heap) (by omega) (by omega) ?_
                      rw [hQ]
                      exact W.zret (v := 1) hx hb hr (jb_nz (Or.inr rfl)) (fun t ht hW => ⟨⟨1, (z_1, 3, pl, pb, cn, qc_25, an, n_an, qa_25, m_qa_25, fn, gv_25, G_25), rfl, ⟨(Or.inr rfl), by skip; (try dsimp only); refine ⟨by omega, by omega, by omega, by omega, by omega, by omega, by omega, by omega, by omega, by omega, by omega, by omega, by omega, by omega, ?_, ?_⟩; exact jfHq.v3 hRE (by omega) (by omega) (by omega) (by omega) (by omega) (by omega) (by omega) (by omega) (by omega) rfl (by omega) (hr_26p_5.to (by omega)) (by omega) (Or.inl ⟨by omega, by omega, hlo.2, by omega⟩); omega⟩, ⟨hh_43.ra (by first | (simp only; omega) | omega) (by first | (simp only; omega) | omega) (M1 := [(r0, 16, 12, .int z_1), (r0, 16, 11, .int 3), (r0, 16, 15, .int pl), (r0, 16, 16, .int pb), (bn, 0, 3, .int cn), (bv, 0, 3, .int qc_25), (bn, 0, 0, .ref an), (bv, 0, 0, .ref qa_25)]) [5, 4, 8, 9, 0, 2, 1, 3] rfl ht, hg_32, hgq_25_0, hNn_25, by rw [ht]; exact hh_43.2.2.2.2.2.2.2.1.sub [1, 0] rfl⟩⟩, by rw [ht]; try exact hh_43.1.1, fun q h9 hq => by rw [ht]; try exact hh_43.1.2.1 q h9 hq⟩) hh_43.1.2.2 dX14_headerByte_329
              · skip
                have c_23' : a1.toInt = 13 := jb_ne_n (rfl) ((by decide)) c_23
                refine lv_aload_n hx hb dX14_headerByte_241 rfl (lv_at hl 0 rfl) ?_
                refine lv_iconst (v := 4) hx hb dX14_headerByte_242 (by decide) ?_
                refine j7_put hx hb hown hK hh_22 hB hAp hB16 (C := RX14) (T := TX14) (N := 74) rfl (by decide) hg_r0 (i := 11) (by decide) hly_16_11 rfl hlk_231 rfl (ty := .int) (v := .int 4) (by decide +kernel) rfl rfl (⟨_, rfl⟩) rfl (L1 := [(r0, 16, 12, .int z_1), (r0, 16, 13, .ref bn), (r0, 16, 14, .ref bv), (bn, 0, 3, .int cn), (bn, 0, 0, .ref an), (bv, 0, 3, .int cv), (bv, 0, 0, .ref av), (r0, 16, 15, .int pl), (r0, 16, 16, .int pb)]) [1, 2, 3, 4, 5, 6, 7, 8, 9] rfl rfl rfl dX14_headerByte_243 (fun H_48 locs_48 hh_48 => ?_)
                clear hh_22
                refine lv_aload_n hx hb dX14_headerByte_246 rfl (lv_at hl 0 rfl) ?_
                have hsz_49 := hh_48.2.2.2.2.2.1
                have htt_49 := hh_48.2.2.2.2.2.2.1
                refine W.room (fun hrc_49 hrs_49 => ?_)
                refine va_calli (A0 := jA base) (H0 := s.heap) (va_runV (As := []) (rest := []) ⟨hx, hb, hml, hown, hts⟩ (uX14_isContentLengthC l dC dI ca base B hB hAp hB0 hB16 hB198 G0 H_48 r0 bn cn an n_an fn) (cwV 0 hts (jgV (jWr_48 _ (List.mem_of_getElem? (i := 13) rfl)) (jWr_48 _ (List.mem_of_getElem? (i := 14) rfl)) (jWr_48 _ (List.mem_of_getElem? (i := 15) rfl)) (jWr_1 _ (List.mem_of_getElem? (i := 5) rfl)) (jWr_48 _ (List.mem_of_getElem? (i := 16) rfl))) rfl rfl rfl (by decide +kernel) ⟨by rw [← hR]; exact Nat.le_of_ble_eq_true rfl, by rw [← hR]; exact Nat.le_of_ble_eq_true rfl⟩) ⟨fun a U g mk q => by obtain ⟨q0, q1, q2, qK, q10, q11, q12, q13, q14, q15⟩ := q; exact ⟨q0, q1, q2, jG.calling g mk a qK, q10, q11, q12, q13, q14, q15⟩, hh_48.recv (C := RX14) (T := TX14) (N := 74) hB16 rfl (by decide) hg_r0 hK, fun U hU hW => ⟨rfl, hU, hh_48.2.1, hG.step hW hU hh_48.1, hg_r0, hg_bn, hg_an, (hh_48.2.2.1.sub (L1 := [(r0, 16, 13, .ref bn), (bn, 0, 3, .int cn), (bn, 0, 0, .ref an)]) [2, 4, 5] rfl), (hh_48.2.2.2.2.2.2.2.1.sub (L1 := [(an, 198, n_an, ca 0, fn)]) [0] rfl), by first | omega | (refine ⟨?_, ?_, ?_⟩ <;> (first | omega | rfl | assumption | decide | exact Or.inl rfl | exact Or.inr rfl | (simp only; omega)))⟩⟩ rfl rfl hl.1 rfl (lv_room (Nat.le_of_ble_eq_true rfl)) dX14_headerByte_247 ⟨by rw [hRc]; show _ + 0 ≤ _; omega, by rw [hRs]; show _ + 0 ≤ _; omega⟩) hh_48.1 (fun q _ h => h) (fun q h => h) (fun r_50 u_49 t_49 H_49 locs_49 ht_49 hvm_49 hr_50 hb_49 hz_49 hk_49 hS_49 => ?_)
                rw [ht_49] at hb_49
                obtain ⟨hb_491, hb_492, hb_493, hb_494, hb_495⟩ := hb_49
                have hh_49 : jSt (dC, dI) B base G0 G0 EX14_headerByteC s.heap 0 0 [(r0, 16, 11, .int 4), (r0, 16, 12, .int z_1), (r0, 16, 13, .ref bn), (r0, 16, 14, .ref bv), (bn, 0, 3, .int cn), (bn, 0, 0, .ref an), (bv, 0, 3, .int cv), (bv, 0, 0, .ref av), (r0, 16, 15, .int pl), (r0, 16, 16, .int pb)] [(an, 198, n_an, ca 0, fn), (av, 198, n_av, ca 0, fv)] [] H_49 locs_49 := ((hh_48.call hb_491 hb_492 hb_493 hb_494 hS_49 rfl (L1 := [(r0, 16, 11, .int 4), (r0, 16, 12, .int z_1), (r0, 16, 13, .ref bn), (r0, 16, 14, .ref bv), (bn, 0, 3, .int cn), (bn, 0, 0, .ref an), (bv, 0, 3, .int cv), (bv, 0, 0, .ref av), (r0, 16, 15, .int pl), (r0, 16, 16, .int pb)]) [0, 1, 2, 3, 4, 5, 6, 7, 8, 9] rfl rfl (M1 := [(an, 198, n_an, ca 0, fn), (av, 198, n_av, ca 0, fv)]) [0, 1] rfl rfl (I1 := []) [] rfl rfl).more hb_495)
                clear hh_48 ht_49 hvm_49 hz_49 hk_49 hS_49 hb_491 hb_492 hb_493 hb_494 hb_495
                obtain ⟨hr_50b, hr_50p⟩ := hr_50
                have hcl := hr_50p
                have hr_50' := jb_01 hr_50b
                refine lv_if_ne (tgt := 255) hx hb dX14_headerByte_250 (by decide) (fun c_51 => ?_) (fun c_51 => ?_)
                · skip
                  have c_51' : r_50.toInt ≠ 0 := jb_ne (rfl) ((by decide)) c_51
                  refine lv_aload_n hx hb dX14_headerByte_255 rfl (lv_at hl 0 rfl) ?_
                  refine lv_aload_n hx hb dX14_headerByte_256 rfl (lv_at hl 0 rfl) ?_
                  refine lv_iconst (v := 1) hx hb dX14_headerByte_257 (by decide) ?_
                  have hsz_52 := hh_49.2.2.2.2.2.1
                  have htt_52 := hh_49.2.2.2.2.2.2.1
                  refine W.room (fun hrc_52 hrs_52 => ?_)
                  refine va_calli (A0 := jA base) (H0 := s.heap) (va_runV (As := [.int 1]) (rest := [.ref r0]) ⟨hx, hb, hml, hown, hts⟩ (uX14_isLengthSoFarC l dC dI ca base B hB hAp hB0 hB16 hB198 G0 H_49 r0 1 bv cv av n_av fv) (cwV 1 hts (jgV (jWr_49 _ (List.mem_of_getElem? (i := 14) rfl)) (jWr_49 _ (List.mem_of_getElem? (i := 15) rfl)) (jWr_49 _ (List.mem_of_getElem? (i := 16) rfl)) (jWr_1 _ (List.mem_of_getElem? (i := 5) rfl)) (jWr_49 _ (List.mem_of_getElem? (i := 17) rfl))) rfl rfl rfl (by decide +kernel) ⟨by rw [← hR]; exact Nat.le_of_ble_eq_true rfl, by rw [← hR]; exact Nat.le_of_ble_eq_true rfl⟩) ⟨fun a U g mk q => by obtain ⟨q0, q1, q2, qK, q10, q11, q12, q13, q14, q15, q16⟩ := q; exact ⟨q0, q1, q2, jG.calling g mk a qK, q10, q11, q12, q13, q14, q15, q16⟩, hh_49.recv (C := RX14) (T := TX14) (N := 74) hB16 rfl (by decide) hg_r0 hK, fun U hU hW => ⟨rfl, hU, hh_49.2.1, hG.step hW hU hh_49.1, hg_r0, (Or.inr rfl), hg_bv, hg_av, (hh_49.2.2.1.sub (L1 := [(r0, 16, 14, .ref bv), (bv, 0, 3, .int cv), (bv, 0, 0, .ref av)]) [3, 6, 7] rfl), (hh_49.2.2.2.2.2.2.2.1.sub (L1 := [(av, 198, n_av, ca 0, fv)]) [1] rfl), by first | omega | (refine ⟨?_, ?_, ?_⟩ <;> (first | omega | rfl | assumption | decide | exact Or.inl rfl | exact Or.inr rfl | (simp only; omega)))⟩⟩ rfl rfl hl.1 rfl (lv_room (Nat.le_of_ble_eq_true rfl)) dX14_headerByte_258 ⟨by rw [hRc]; show _ + 0 ≤ _; omega, by rw [hRs]; show _ + 0 ≤ _; omega⟩) hh_49.1 (fun q _ h => h) (fun q h => h) (fun r_53 u_52 t_52 H_52 locs_52 ht_52 hvm_52 hr_53 hb_52 hz_52 hk_52 hS_52 => ?_)
                  rw [ht_52] at hb_52
                  obtain ⟨hb_521, hb_522, hb_523, hb_524, hb_525⟩ := hb_52
                  have hh_52 : jSt (dC, dI) B base G0 G0 EX14_headerByteC s.heap 0 0 [(r0, 16, 11, .int 4), (r0, 16, 12, .int z_1), (r0, 16, 13, .ref bn), (r0, 16, 14, .ref bv), (bn, 0, 3, .int cn), (bn, 0, 0, .ref an), (bv, 0, 3, .int cv), (bv, 0, 0, .ref av), (r0, 16, 15, .int pl), (r0, 16, 16, .int pb)] [(an, 198, n_an, ca 0, fn), (av, 198, n_av, ca 0, fv)] [] H_52 locs_52 := ((hh_49.call hb_521 hb_522 hb_523 hb_524 hS_52 rfl (L1 := [(r0, 16, 11, .int 4), (r0, 16, 12, .int z_1), (r0, 16, 13, .ref bn), (r0, 16, 14, .ref bv), (bn, 0, 3, .int cn), (bn, 0, 0, .ref an), (bv, 0, 3, .int cv), (bv, 0, 0, .ref av), (r0, 16, 15, .int pl), (r0, 16, 16, .int pb)]) [0, 1, 2, 3, 4, 5, 6, 7, 8, 9] rfl rfl (M1 := [(an, 198, n_an, ca 0, fn), (av, 198, n_av, ca 0, fv)]) [0, 1] rfl rfl (I1 := []) [] rfl rfl).more hb_525)
                  clear hh_49 ht_52 hvm_52 hz_52 hk_52 hS_52 hb_521 hb_522 hb_523 hb_524 hb_525
                  obtain ⟨hr_53b, hr_53p⟩ := hr_53
                  have hls258 := hr_53p
                  have hr_53' := jb_01 hr_53b
                  refine lv_if_eq (tgt := 271) hx hb dX14_headerByte_261 (by decide) (fun c_54 => ?_) (fun c_54 => ?_)
                  · skip
                    have c_54' : r_53.toInt = 0 := jb_eq (rfl) ((by decide)) c_54
                    first | (have hr_53pq := hr_53p.resolve_left (by omega); clear hr_53p) | (have hr_53pq := hr_53p.resolve_right (by omega); clear hr_53p) | try clear hr_53p
                    have hlo := hls258.resolve_left (by omega)
                    refine lv_iconst (v := (-1)) hx hb dX14_headerByte_271 (by decide) ?_
                    refine j7_put hx hb hown hK hh_52 hB hAp hB16 (C := RX14) (T := TX14) (N := 74) rfl (by decide) hg_r0 (i := 15) (by decide) hly_16_15 rfl hlk_33 rfl (ty := .int) (v := .int (-1)) (by decide +kernel) rfl rfl (⟨_, rfl, by omega, by omega⟩) rfl (L1 := [(r0, 16, 11, .int 4), (r0, 16, 12, .int z_1), (r0, 16, 13, .ref bn), (r0, 16, 14, .ref bv), (bn, 0, 3, .int cn), (bn, 0, 0, .ref an), (bv, 0, 3, .int cv), (bv, 0, 0, .ref av), (r0, 16, 16, .int pb)]) [0, 1, 2, 3, 4, 5, 6, 7, 9] rfl rfl rfl dX14_headerByte_272 (fun H_55 locs_55 hh_55 => ?_)
                    clear hh_52
                    refine lv_aload_n hx hb dX14_headerByte_275 rfl (lv_at hl 0 rfl) ?_
                    refine j7_read hx hb hown hK (C := RX14) (T := TX14) (N := 74) rfl hly_16_15 hlk_33 (hh_55.at 0 rfl) dX14_headerByte_276 ?_
                    refine lv_if_lt (tgt := 286) hx hb dX14_headerByte_279 (by decide) (fun c_56 => ?_) (fun c_56 => ?_)
                    · skip
                      refine lv_iconst (v := 0) hx hb dX14_headerByte_286 (by decide) ?_
                      have hsz_57 := hh_55.2.2.2.2.2.1
                      have htt_57 := hh_55.2.2.2.2.2.2.1
                      refine W.room (fun hrc_57 hrs_57 => ?_)
                      refine W.widen (k := LC - s.heap.size) (n := LS - jTot s.heap) (by omega) (by omega) ?_
                      rw [hQ]
                      exact W.zret (v := 0) hx hb hr (jb_nz (Or.inl rfl)) (fun t ht hW => ⟨⟨0, (z_1, 4, (-1), pb, cn, cv, an, n_an, av, n_av, fn, fv, G0), rfl, ⟨(Or.inl rfl), by skip; (try dsimp only); refine ⟨by omega, by omega, by omega, by omega, by omega, by omega, by omega, by omega, by omega, by omega, by omega, by omega, by omega, by omega, ?_, ?_⟩; exact jfHq.r3 hRE (by omega) (by omega) (by omega) (by omega) (by omega) (by omega) (by omega) (Or.inr ⟨hlo.2, by omega⟩); omega⟩, ⟨hh_55.ra (by first | (simp only; omega) | omega) (by first | (simp only; omega) | omega) (M1 := [(r0, 16, 12, .int z_1), (r0, 16, 11, .int 4), (r0, 16, 15, .int (-1)), (r0, 16, 16, .int pb), (bn, 0, 3, .int cn), (bv, 0, 3, .int cv), (bn, 0, 0, .ref an), (bv, 0, 0, .ref av)]) [2, 1, 0, 9, 5, 7, 6, 8] rfl ht, hg_an, hg_av, jNk.rf, by rw [ht]; exact hh_55.2.2.2.2.2.2.2.1.sub [0, 1] rfl⟩⟩, by rw [ht]; try exact hh_55.1.1, fun q h9 hq => by rw [ht]; try exact hh_55.1.2.1 q h9 hq⟩) hh_55.1.2.2 dX14_headerByte_287
                    · skip
                      exact absurd c_56 (by decide)
                  · skip
                    have c_54' : r_53.toInt ≠ 0 := jb_eq_n (rfl) ((by decide)) c_54
                    first | (have hr_53pq := hr_53p.resolve_left (by omega); clear hr_53p) | (have hr_53pq := hr_53p.resolve_right (by omega); clear hr_53p) | try clear hr_53p
                    have hlo := hls258.resolve_right (by omega)
                    obtain ⟨hl4, hl4b, hl5, hl6⟩ := hlo.2
                    refine lv_aload_n hx hb dX14_headerByte_264 rfl (lv_at hl 0 rfl) ?_
                    have hsz_58 := hh_52.2.2.2.2.2.1
                    have htt_58 := hh_52.2.2.2.2.2.2.1
                    refine W.room (fun hrc_58 hrs_58 => ?_)
                    refine va_calli (A0 := jA base) (H0 := s.heap) (va_runV (As := []) (rest := [.ref r0]) ⟨hx, hb, hml, hown, hts⟩ (uX14_lengthTold l dC dI ca base B hB hAp hB0 hB16 hB198 G0 H_52 r0 bv cv av n_av fv) (cwV 0 hts (jgV (jWr_49 _ (List.mem_of_getElem? (i := 21) rfl)) (jWr_49 _ (List.mem_of_getElem? (i := 22) rfl)) (jWr_49 _ (List.mem_of_getElem? (i := 23) rfl)) (jWr_1 _ (List.mem_of_getElem? (i := 5) rfl)) (jWr_50 _ (List.mem_of_getElem? (i := 0) rfl))) rfl rfl rfl (by decide +kernel) ⟨by rw [← hR]; exact Nat.le_of_ble_eq_true rfl, by rw [← hR]; exact Nat.le_of_ble_eq_true rfl⟩) ⟨fun a U g mk q => by obtain ⟨q0, q1, q2, qK, q10, q11, q12, q13, q14, q15⟩ := q; exact ⟨q0, q1, q2, jG.calling g mk a qK, q10, q11, q12, q13, q14, q15⟩, hh_52.recv (C := RX14) (T := TX14) (N := 74) hB16 rfl (by decide) hg_r0 hK, fun U hU hW => ⟨rfl, hU, hh_52.2.1, hG.step hW hU hh_52.1, hg_r0, hg_bv, hg_av, (hh_52.2.2.1.sub (L1 := [(r0, 16, 14, .ref bv), (bv, 0, 3, .int cv), (bv, 0, 0, .ref av)]) [3, 6, 7] rfl), (hh_52.2.2.2.2.2.2.2.1.sub (L1 := [(av, 198, n_av, ca 0, fv)]) [1] rfl), by first | omega | (refine ⟨?_, ?_, ?_, ?_, ?_⟩ <;> (first | omega | rfl | assumption | decide | exact Or.inl rfl | exact Or.inr rfl | (simp only; omega)))⟩⟩ rfl rfl hl.1 rfl (lv_room (Nat.le_of_ble_eq_true rfl)) dX14_headerByte_265 ⟨by rw [hRc]; show _ + 0 ≤ _; omega, by rw [hRs]; show _ + 0 ≤ _; omega⟩) hh_52.1 (fun q _ h => h) (fun q h => h) (fun r_59 u_58 t_58 H_58 locs_58 ht_58 hvm_58 hr_59 hb_58 hz_58 hk_58 hS_58 => ?_)
                    rw [ht_58] at hb_58
                    obtain ⟨hb_581, hb_582, hb_583, hb_584, hb_585⟩ := hb_58
                    have hh_58 : jSt (dC, dI) B base G0 G0 EX14_headerByteC s.heap 0 0 [(r0, 16, 11, .int 4), (r0, 16, 12, .int z_1), (r0, 16, 13, .ref bn), (r0, 16, 14, .ref bv), (bn, 0, 3, .int cn), (bn, 0, 0, .ref an), (bv, 0, 3, .int cv), (bv, 0, 0, .ref av), (r0, 16, 15, .int pl), (r0, 16, 16, .int pb)] [(an, 198, n_an, ca 0, fn), (av, 198, n_av, ca 0, fv)] [] H_58 locs_58 := ((hh_52.call hb_581 hb_582 hb_583 hb_584 hS_58 rfl (L1 := [(r0, 16, 11, .int 4), (r0, 16, 12, .int z_1), (r0, 16, 13, .ref bn), (r0, 16, 14, .ref bv), (bn, 0, 3, .int cn), (bn, 0, 0, .ref an), (bv, 0, 3, .int cv), (bv, 0, 0, .ref av), (r0, 16, 15, .int pl), (r0, 16, 16, .int pb)]) [0, 1, 2, 3, 4, 5, 6, 7, 8, 9] rfl rfl (M1 := [(an, 198, n_an, ca 0, fn), (av, 198, n_av, ca 0, fv)]) [0, 1] rfl rfl (I1 := []) [] rfl rfl).more hb_585)
                    clear hh_52 ht_58 hvm_58 hz_58 hk_58 hS_58 hb_581 hb_582 hb_583 hb_584 hb_585
                    have hl7 := jNm_0 hl5 cv.toInt.toNat (by omega)
                    rw [← hr_59] at hl6 hl7
                    refine lv_goto (tgt := 272) hx hb dX14_headerByte_268 (by decide) ?_
                    refine j7_put hx hb hown hK hh_58 hB hAp hB16 (C := RX14) (T := TX14) (N := 74) rfl (by decide) hg_r0 (i := 15) (by decide) hly_16_15 rfl hlk_33 rfl (ty := .int) (v := .int r_59) (by decide +kernel) rfl rfl (⟨_, rfl, by omega, by omega⟩) rfl (L1 := [(r0, 16, 11, .int 4), (r0, 16, 12, .int z_1), (r0, 16, 13, .ref bn), (r0, 16, 14, .ref bv), (bn, 0, 3, .int cn), (bn, 0, 0, .ref an), (bv, 0, 3, .int cv), (bv, 0, 0, .ref av), (r0, 16, 16, .int pb)]) [0, 1, 2, 3, 4, 5, 6, 7, 9] rfl rfl rfl dX14_headerByte_272 (fun H_60 locs_60 hh_60 => ?_)
                    clear hh_58
                    refine lv_aload_n hx hb dX14_headerByte_275 rfl (lv_at hl 0 rfl) ?_
                    refine j7_read hx hb hown hK (C := RX14) (T := TX14) (N := 74) rfl hly_16_15 hlk_33 (hh_60.at 0 rfl) dX14_headerByte_276 ?_
                    refine lv_if_lt (tgt := 286) hx hb dX14_headerByte_279 (by decide) (fun c_61 => ?_) (fun c_61 => ?_)
                    · skip
                      have c_61' : r_59.toInt < 0 := jb_lt (rfl) ((by decide)) c_61
                      refine lv_iconst (v := 0) hx hb dX14_headerByte_286 (by decide) ?_
                      have hsz_62 := hh_60.2.2.2.2.2.1
                      have htt_62 := hh_60.2.2.2.2.2.2.1
                      refine W.room (fun hrc_62 hrs_62 => ?_)
                      refine W.widen (k := LC - s.heap.size) (n := LS - jTot s.heap) (by omega) (by omega) ?_
                      rw [hQ]
                      exact W.zret (v := 0) hx hb hr (jb_nz (Or.inl rfl)) (fun t ht hW => ⟨⟨0, (z_1, 4, r_59, pb, cn, cv, an, n_an, av, n_av, fn, fv, G0), rfl, ⟨(Or.inl rfl), by skip; (try dsimp only); refine ⟨by omega, by omega, by omega, by omega, by omega, by omega, by omega, by omega, by omega, by omega, by omega, by omega, by omega, by omega, ?_, ?_⟩; exact jfHq.r3 hRE (by omega) (by omega) (by omega) (by omega) (by omega) (by omega) (by omega) (Or.inl ⟨hlo.2, by omega, by omega⟩); omega⟩, ⟨hh_60.ra (by first | (simp only; omega) | omega) (by first | (simp only; omega) | omega) (M1 := [(r0, 16, 12, .int z_1), (r0, 16, 11, .int 4), (r0, 16, 15, .int r_59), (r0, 16, 16, .int pb), (bn, 0, 3, .int cn), (bv, 0, 3, .int cv), (bn, 0, 0, .ref an), (bv, 0, 0, .ref av)]) [2, 1, 0, 9, 5, 7, 6, 8] rfl ht, hg_an, hg_av, jNk.rf, by rw [ht]; exact hh_60.2.2.2.2.2.2.2.1.sub [0, 1] rfl⟩⟩, by rw [ht]; try exact hh_60.1.1, fun q h9 hq => by rw [ht]; try exact hh_60.1.2.1 q h9 hq⟩) hh_60.1.2.2 dX14_headerByte_287
                    · skip
                      have c_61' : r_59.toInt ≥ 0 := jb_lt_n (rfl) ((by decide)) c_61
                      refine lv_iconst (v := 1) hx hb dX14_headerByte_282 (by decide) ?_
                      refine lv_goto (tgt := 287) hx hb dX14_headerByte_283 (by decide) ?_
                      have hsz_63 := hh_60.2.2.2.2.2.1
                      have htt_63 := hh_60.2.2.2.2.2.2.1
                      refine W.room (fun hrc_63 hrs_63 => ?_)
                      refine W.widen (k := LC - s.heap.size) (n := LS - jTot s.heap) (by omega) (by omega) ?_
                      rw [hQ]
                      exact W.zret (v := 1) hx hb hr (jb_nz (Or.inr rfl)) (fun t ht hW => ⟨⟨1, (z_1, 4, r_59, pb, cn, cv, an, n_an, av, n_av, fn, fv, G0), rfl, ⟨(Or.inr rfl), by skip; (try dsimp only); refine ⟨by omega, by omega, by omega, by omega, by omega, by omega, by omega, by omega, by omega, by omega, by omega, by omega, by omega, by omega, ?_, ?_⟩; exact jfHq.r3 hRE (by omega) (by omega) (by omega) (by omega) (by omega) (by omega) (by omega) (Or.inl ⟨hlo.2, by omega, by omega⟩); omega⟩, ⟨hh_60.ra (by first | (simp only; omega) | omega) (by first | (simp only; omega) | omega) (M1 := [(r0, 16, 12, .int z_1), (r0, 16, 11, .int 4), (r0, 16, 15, .int r_59), (r0, 16, 16, .int pb), (bn, 0, 3, .int cn), (bv, 0, 3, .int cv), (bn, 0, 0, .ref an), (bv, 0, 0, .ref av)]) [2, 1, 0, 9, 5, 7, 6, 8] rfl ht, hg_an, hg_av, jNk.rf, by rw [ht]; exact hh_60.2.2.2.2.2.2.2.1.sub [0, 1] rfl⟩⟩, by rw [ht]; try exact hh_60.1.1, fun q h9 hq => by rw [ht]; try exact hh_60.1.2.1 q h9 hq⟩) hh_60.1.2.2 dX14_headerByte_287
                · skip
                  have c_51' : r_50.toInt = 0 := jb_ne_n (rfl) ((by decide)) c_51
                  refine lv_iconst (v := 1) hx hb dX14_headerByte_253 (by decide) ?_
                  have hsz_64 := hh_49.2.2.2.2.2.1
                  have htt_64 := hh_49.2.2.2.2.2.2.1
                  refine W.room (fun hrc_64 hrs_64 => ?_)
                  refine W.widen (k := LC - s.heap.size) (n := LS - jTot s.heap) (by omega) (by omega) ?_
                  rw [hQ]
                  exact W.zret (v := 1) hx hb hr (jb_nz (Or.inr rfl)) (fun t ht hW => ⟨⟨1, (z_1, 4, pl, pb, cn, cv, an, n_an, av, n_av, fn, fv, G0), rfl, ⟨(Or.inr rfl), by skip; (try dsimp only); refine ⟨by omega, by omega, by omega, by omega, by omega, by omega, by omega, by omega, by omega, by omega, by omega, by omega, by omega, by omega, ?_, ?_⟩; exact jfHq.r2 hRE (by omega) (by omega) (by omega) (by omega) (by omega) (by omega) (by omega) (by omega); omega⟩, ⟨hh_49.ra (by first | (simp only; omega) | omega) (by first | (simp only; omega) | omega) (M1 := [(r0, 16, 12, .int z_1), (r0, 16, 11, .int 4), (r0, 16, 15, .int pl), (r0, 16, 16, .int pb), (bn, 0, 3, .int cn), (bv, 0, 3, .int cv), (bn, 0, 0, .ref an), (bv, 0, 0, .ref av)]) [1, 0, 8, 9, 4, 6, 5, 7] rfl ht, hg_an, hg_av, jNk.rf, by rw [ht]; exact hh_49.2.2.2.2.2.2.2.1.sub [0, 1] rfl⟩⟩, by rw [ht]; try exact hh_49.1.1, fun q h9 hq => by rw [ht]; try exact hh_49.1.2.1 q h9 hq⟩) hh_49.1.2.2 dX14_headerByte_254
            · skip
              have c_21' : pm.toInt = 2 := jb_ne_n (rfl) ((by decide)) c_21
              refine lv_iload_n hx hb dX14_headerByte_222 rfl (lv_at hl 1 rfl) ?_
              refine lv_bipush (v := 32) hx hb dX14_headerByte_223 (by decide) ?_
              refine lv_icmp_ne (tgt := 230) hx hb dX14_headerByte_225 (by decide) (fun c_65 => ?_) (fun c_65 => ?_)
              · skip
                have c_65' : a1.toInt ≠ 32 := jb_ne (rfl) ((by decide)) c_65
                refine lv_aload_n hx hb dX14_headerByte_230 rfl (lv_at hl 0 rfl) ?_
                refine lv_iconst (v := 3) hx hb dX14_headerByte_231 (by decide) ?_
                refine j7_put hx hb hown hK hh_2 hB hAp hB16 (C := RX14) (T := TX14) (N := 74) rfl (by decide) hg_r0 (i := 11) (by decide) hly_16_11 rfl hlk_231 rfl (ty := .int) (v := .int 3) (by decide +kernel) rfl rfl (⟨_, rfl⟩) rfl (L1 := [(r0, 16, 12, .int z_1), (r0, 16, 13, .ref bn), (r0, 16, 14, .ref bv), (bn, 0, 3, .int cn), (bn, 0, 0, .ref an), (bv, 0, 3, .int cv), (bv, 0, 0, .ref av), (r0, 16, 15, .int pl), (r0, 16, 16, .int pb)]) [0, 1, 2, 3, 4, 5, 6, 8, 9] rfl rfl rfl dX14_headerByte_232 (fun H_66 locs_66 hh_66 => ?_)
                clear hh_2
                refine lv_iload_n hx hb dX14_headerByte_235 rfl (lv_at hl 1 rfl) ?_
                refine lv_bipush (v := 13) hx hb dX14_headerByte_236 (by decide) ?_
                refine lv_icmp_ne (tgt := 288) hx hb dX14_headerByte_238 (by decide) (fun c_67 => ?_) (fun c_67 => ?_)
                · skip
                  have c_67' : a1.toInt ≠ 13 := jb_ne (rfl) ((by decide)) c_67
                  refine lv_aload_n hx hb dX14_headerByte_288 rfl (lv_at hl 0 rfl) ?_
                  refine j7_read hx hb hown hK (C := RX14) (T := TX14) (N := 74) rfl hly_16_14 hlk_30 (hh_66.at 3 rfl) dX14_headerByte_289 ?_
                  refine lv_iload_n hx hb dX14_headerByte_292 rfl (lv_at hl 1 rfl) ?_
                  refine lv_i2c hx hb dX14_headerByte_293 rfl ?_
                  refine lv_topi (fun z_68 ez_68 => ?_)
                  have hic := jb_i2c (by assumption) hp16 hp17
                  have hsz_69 := hh_66.2.2.2.2.2.1
                  have htt_69 := hh_66.2.2.2.2.2.2.1
                  refine W.room (fun hrc_69 hrs_69 => ?_)
                  refine j_callx (A0 := jA base) (H0 := s.heap) (va_runV (As := [.int z_68]) (rest := []) ⟨hx, hb, hml, hown, hts⟩ (uJ4_append_cf468C l dC dI ca base B hB hAp hB0 hB198 G0 H_66 bv z_68 cv av n_av fv an n_an fn LC LS) (cwV 1 hts (jgV (jWr_46 _ (List.mem_of_getElem? (i := 18) rfl)) (jWr_46 _ (List.mem_of_getElem? (i := 19) rfl)) (jWr_46 _ (List.mem_of_getElem? (i := 20) rfl)) (jWr_11 _ (List.mem_of_getElem? (i := 0) rfl)) (jWr_46 _ (List.mem_of_getElem? (i := 21) rfl))) rfl rfl rfl (by decide +kernel) ⟨by rw [← hR]; exact Nat.le_of_ble_eq_true rfl, by rw [← hR]; exact Nat.le_of_ble_eq_true rfl⟩) ⟨fun a U g mk q => by obtain ⟨q0, q1, q2, qK, q10, q11, q12, q13, q14⟩ := q; exact ⟨q0, q1, q2, jG.calling g mk a qK, q10, q11, q12, q13, q14⟩, hh_66.recv (C := RJ4) (T := TJ4) (N := 4) hB0 rfl (by decide) hg_bv hK, fun U hU hW => ⟨rfl, hU, hh_66.2.1, hG.step hW hU hh_66.1, hg_bv, hg_av, (hh_66.2.2.1.sub (L1 := [(bv, 0, 3, .int cv), (bv, 0, 0, .ref av)]) [6, 7] rfl), (hh_66.2.2.2.2.2.2.2.1.sub (L1 := [(av, 198, n_av, ca 0, fv), (an, 198, n_an, ca 0, fn)]) [1, 0] rfl), by first | omega | (refine ⟨?_, ?_, ?_, ?_, ?_, ?_, ?_⟩ <;> (first | omega | rfl | assumption | decide | exact Or.inl rfl | exact Or.inr rfl | (simp only; omega)))⟩⟩ rfl rfl hl.1 rfl (lv_room (Nat.le_of_ble_eq_true rfl)) dX14_headerByte_294 ⟨by rw [hRc]; omega, by rw [hRs]; omega⟩) hh_66.1 (fun q _ h => h) (fun q h => h) (fun r_70 u_69 t_69 H_69 locs_69 ht_69 hvm_69 hr_70 hb_69 hz_69 hk_69 hS_69 => ?_)
                  obtain ⟨qc_69, qa_69, m_qa_69, gv_69, G_69⟩ := u_69
                  rw [ht_69] at hb_69
                  simp only at hb_69
                  obtain ⟨⟨hb_691, hb_692, hb_693, hb_694, hb_695, hb_696⟩, hgq_69_0, hN_69, hbO_69, hbM_69⟩ := hb_69
                  have hh_69 : jSt (dC, dI) B base G0 G_69 EX14_headerByteC s.heap (0 + (m_qa_69 - n_av)) (0 + (2 * (m_qa_69 - n_av))) [(bv, 0, 3, .int qc_69), (bv, 0, 0, .ref qa_69), (r0, 16, 11, .int 3), (r0, 16, 12, .int z_1), (r0, 16, 13, .ref bn), (r0, 16, 14, .ref bv), (r0, 16, 15, .int pl), (r0, 16, 16, .int pb)] [] [] H_69 locs_69 := (hh_66.callG hb_691 hb_692 hb_693 hb_694 hb_695 hS_69 rfl (L1 := [(r0, 16, 11, .int 3), (r0, 16, 12, .int z_1), (r0, 16, 13, .ref bn), (r0, 16, 14, .ref bv), (r0, 16, 15, .int pl), (r0, 16, 16, .int pb)]) [0, 1, 2, 3, 8, 9] rfl rfl (M1 := []) [] rfl rfl (I1 := []) [] rfl rfl).more hb_696
                  have hNn_69 : (jNk [0, 1, 2, 3, 4, 5, 6, 7, 8, 9, 10, 11, 12, 13, 14, 15, 16, 17, 175]) G0 G_69 := (jNk.rf).tr hN_69
                  have hg_71 := hb_692 _ _ hg_r0
                  have hg_72 := hb_692 _ _ hg_bn
                  have hg_73 := hb_692 _ _ hg_bv
                  have hh_74 := hh_69.moreM hbM_69
                  have hh_75 := hh_74.more (P1 := [(bn, 0, 3, .int cn), (bn, 0, 0, .ref an)]) (jP.cons hg_72 (hbO_69 _ _ _ _ (by first | assumption | exact Ne.symm (by assumption) | exact jnek hg_bn hg_bv (by decide)) hg_bn (hh_66.at 4 rfl)) (jP.cons hg_72 (hbO_69 _ _ _ _ (by first | assumption | exact Ne.symm (by assumption) | exact jnek hg_bn hg_bv (by decide)) hg_bn (hh_66.at 5 rfl)) jP.nil))
                  have hg_76 := hb_692 _ _ hg_an
                  obtain ⟨hr_70, hr_70p⟩ := hr_70
                  try simp only at hr_70p
                  obtain ⟨hr_70p_0, hr_70p_1, hr_70p_2, hr_70p_3, hr_70p_4, hr_70p_5, hr_70p_6⟩ := hr_70p
                  obtain ⟨ret_77, rfl, hg_ret_77⟩ := hr_70
                  have hg_78 := hb_692 _ _ hg_ret_77
                  refine lv_pop hx hb dX14_headerByte_297 rfl ?_
                  refine lv_iload_n hx hb dX14_headerByte_298 rfl (lv_at hl 1 rfl) ?_
                  refine lv_bipush (v := 32) hx hb dX14_headerByte_299 (by decide) ?_
                  refine lv_bipush (v := 126) hx hb dX14_headerByte_301 (by decide) ?_
                  have hsz_79 := hh_75.2.2.2.2.2.1
                  have htt_79 := hh_75.2.2.2.2.2.2.1
                  refine W.room (fun hrc_79 hrs_79 => ?_)
                  refine va_calli (A0 := jA base) (H0 := s.heap) (va_runS (As := [.int a1, .int 32, .int 126]) (rest := []) ⟨hx, hb, hml, hown, hts⟩ (uX14_in l dC dI ca base B hB hAp G_69 H_69 a1 32 126) (va_cwS 3 hts (jgS (jWr_48 _ (List.mem_of_getElem? (i := 10) rfl)) (jWr_48 _ (List.mem_of_getElem? (i := 11) rfl)) (jWr_1 _ (List.mem_of_getElem? (i := 5) rfl)) (jWr_48 _ (List.mem_of_getElem? (i := 12) rfl))) rfl rfl rfl (by decide +kernel) ⟨by rw [← hR]; exact Nat.le_of_ble_eq_true rfl, by rw [← hR]; exact Nat.le_of_ble_eq_true rfl⟩) ⟨fun a U g mk q => by obtain ⟨q0, q1, q2, qK, q10, q11⟩ := q; exact ⟨q0, q1, q2, jG.calling g mk a qK, q10, q11⟩, fun U hU hW => ⟨rfl, hU, hh_75.2.1, hG.step hW hU hh_75.1, jP.nil, trivial⟩⟩ rfl rfl hl.1 rfl (lv_room (Nat.le_of_ble_eq_true rfl)) dX14_headerByte_303 ⟨by rw [hRc]; show _ + 0 ≤ _; omega, by rw [hRs]; show _ + 0 ≤ _; omega⟩) hh_75.1 (fun q _ h => h) (fun q h => h) (fun r_80 u_79 t_79 H_79 locs_79 ht_79 hvm_79 hr_80 hb_79 hz_79 hk_79 hS_79 => ?_)
                  rw [ht_79] at hb_79
                  obtain ⟨hb_791, hb_792, hb_793, hb_794, hb_795⟩ := hb_79
                  have hh_79 : jSt (dC, dI) B base G0 G_69 EX14_headerByteC s.heap (0 + (m_qa_69 - n_av)) (0 + (2 * (m_qa_69 - n_av))) [(bn, 0, 3, .int cn), (bn, 0, 0, .ref an), (bv, 0, 3, .int qc_69), (bv, 0, 0, .ref qa_69), (r0, 16, 11, .int 3), (r0, 16, 12, .int z_1), (r0, 16, 13, .ref bn), (r0, 16, 14, .ref bv), (r0, 16, 15, .int pl), (r0, 16, 16, .int pb)] [(qa_69, 198, m_qa_69, ca 0, gv_69), (an, 198, n_an, ca 0, fn)] [] H_79 locs_79 := ((hh_75.call hb_791 hb_792 hb_793 hb_794 hS_79 rfl (L1 := [(bn, 0, 3, .int cn), (bn, 0, 0, .ref an), (bv, 0, 3, .int qc_69), (bv, 0, 0, .ref qa_69), (r0, 16, 11, .int 3), (r0, 16, 12, .int z_1), (r0, 16, 13, .ref bn), (r0, 16, 14, .ref bv), (r0, 16, 15, .int pl), (r0, 16, 16, .int pb)]) [0, 1, 2, 3, 4, 5, 6, 7, 8, 9] rfl rfl (M1 := [(qa_69, 198, m_qa_69, ca 0, gv_69), (an, 198, n_an, ca 0, fn)]) [0, 1] rfl rfl (I1 := []) [] rfl rfl).more hb_795)
                  clear hh_75 ht_79 hvm_79 hz_79 hk_79 hS_79 hb_791 hb_792 hb_793 hb_794 hb_795
                  obtain ⟨hr_80b, hr_80p⟩ := hr_80
                  obtain ⟨hr_80p_0, hr_80p_1, hr_80p_2⟩ := hr_80p
                  have hi303 := jIn.or a1.toInt (32 : Int32).toInt (126 : Int32).toInt
                  have hr_80' := jb_01 hr_80b
                  refine lv_if_eq (tgt := 328) hx hb dX14_headerByte_306 (by decide) (fun c_81 => ?_) (fun c_81 => ?_)
                  · skip
                    have c_81' : r_80.toInt = 0 := jb_eq (rfl) ((by decide)) c_81
                    refine lv_iconst (v := 0) hx hb dX14_headerByte_328 (by decide) ?_
                    have hsz_82 := hh_79.2.2.2.2.2.1
                    have htt_82 := hh_79.2.2.2.2.2.2.1
                    refine W.room (fun hrc_82 hrs_82 => ?_)
                    refine W.widen (k := LC - s.heap.size) (n := LS - jTot s.heap) (by omega) (by omega) ?_
                    rw [hQ]
                    exact W.zret (v := 0) hx hb hr (jb_nz (Or.inl rfl)) (fun t ht hW => ⟨⟨0, (z_1, 3, pl, pb, cn, qc_69, an, n_an, qa_69, m_qa_69, fn, gv_69, G_69), rfl, ⟨(Or.inl rfl), by skip; (try dsimp only); refine ⟨by omega, by omega, by omega, by omega, by omega, by omega, by omega, by omega, by omega, by omega, by omega, by omega, by omega, by omega, ?_, ?_⟩; (rcases jfCl.z fn cn.toInt with h9 | h9; exact jfHq.v2 hRE (by omega) (by omega) (by omega) h9 (by omega) (by omega) (by omega) rfl (by omega) (by omega); exact jfHq.v3 hRE (by omega) (by omega) (by omega) (by omega) h9 (by omega) (by omega) (by omega) (by omega) rfl (by omega) (hr_70p_5.to (by omega)) (by omega) (by omega)); omega⟩, ⟨hh_79.ra (by first | (simp only; omega) | omega) (by first | (simp only; omega) | omega) (M1 := [(r0, 16, 12, .int z_1), (r0, 16, 11, .int 3), (r0, 16, 15, .int pl), (r0, 16, 16, .int pb), (bn, 0, 3, .int cn), (bv, 0, 3, .int qc_69), (bn, 0, 0, .ref an), (bv, 0, 0, .ref qa_69)]) [5, 4, 8, 9, 0, 2, 1, 3] rfl ht, hg_76, hgq_69_0, hNn_69, by rw [ht]; exact hh_79.2.2.2.2.2.2.2.1.sub [1, 0] rfl⟩⟩, by rw [ht]; try exact hh_79.1.1, fun q h9 hq => by rw [ht]; try exact hh_79.1.2.1 q h9 hq⟩) hh_79.1.2.2 dX14_headerByte_329
                  · skip
                    have c_81' : r_80.toInt ≠ 0 := jb_eq_n (rfl) ((by decide)) c_81
                    refine lv_aload_n hx hb dX14_headerByte_309 rfl (lv_at hl 0 rfl) ?_
                    have hsz_83 := hh_79.2.2.2.2.2.1
                    have htt_83 := hh_79.2.2.2.2.2.2.1
                    refine W.room (fun hrc_83 hrs_83 => ?_)
                    refine va_calli (A0 := jA base) (H0 := s.heap) (va_runV (As := []) (rest := []) ⟨hx, hb, hml, hown, hts⟩ (uX14_isContentLengthC l dC dI ca base B hB hAp hB0 hB16 hB198 G_69 H_79 r0 bn cn an n_an fn) (cwV 0 hts (jgV (jWr_48 _ (List.mem_of_getElem? (i := 13) rfl)) (jWr_48 _ (List.mem_of_getElem? (i := 14) rfl)) (jWr_48 _ (List.mem_of_getElem? (i := 15) rfl)) (jWr_1 _ (List.mem_of_getElem? (i := 5) rfl)) (jWr_48 _ (List.mem_of_getElem? (i := 16) rfl))) rfl rfl rfl (by decide +kernel) ⟨by rw [← hR]; exact Nat.le_of_ble_eq_true rfl, by rw [← hR]; exact Nat.le_of_ble_eq_true rfl⟩) ⟨fun a U g mk q => by obtain ⟨q0, q1, q2, qK, q10, q11, q12, q13, q14, q15⟩ := q; exact ⟨q0, q1, q2, jG.calling g mk a qK, q10, q11, q12, q13, q14, q15⟩, hh_79.recv (C := RX14) (T := TX14) (N := 74) hB16 rfl (by decide) hg_71 hK, fun U hU hW => ⟨rfl, hU, hh_79.2.1, hG.step hW hU hh_79.1, hg_71, hg_72, hg_76, (hh_79.2.2.1.sub (L1 := [(r0, 16, 13, .ref bn), (bn, 0, 3, .int cn), (bn, 0, 0, .ref an)]) [6, 0, 1] rfl), (hh_79.2.2.2.2.2.2.2.1.sub (L1 := [(an, 198, n_an, ca 0, fn)]) [1] rfl), by first | omega | (refine ⟨?_, ?_, ?_⟩ <;> (first | omega | rfl | assumption | decide | exact Or.inl rfl | exact Or.inr rfl | (simp only; omega)))⟩⟩ rfl rfl hl.1 rfl (lv_room (Nat.le_of_ble_eq_true rfl)) dX14_headerByte_310 ⟨by rw [hRc]; show _ + 0 ≤ _; omega, by rw [hRs]; show _ + 0 ≤ _; omega⟩) hh_79.1 (fun q _ h => h) (fun q h => h) (fun r_84 u_83 t_83 H_83 locs_83 ht_83 hvm_83 hr_84 hb_83 hz_83 hk_83 hS_83 => ?_)
                    rw [ht_83] at hb_83
                    obtain ⟨hb_831, hb_832, hb_833, hb_834, hb_835⟩ := hb_83
                    have hh_83 : jSt (dC, dI) B base G0 G_69 EX14_headerByteC s.heap (0 + (m_qa_69 - n_av)) (0 + (2 * (m_qa_69 - n_av))) [(bn, 0, 3, .int cn), (bn, 0, 0, .ref an), (bv, 0, 3, .int qc_69), (bv, 0, 0, .ref qa_69), (r0, 16, 11, .int 3), (r0, 16, 12, .int z_1), (r0, 16, 13, .ref bn), (r0, 16, 14, .ref bv), (r0, 16, 15, .int pl), (r0, 16, 16, .int pb)] [(qa_69, 198, m_qa_69, ca 0, gv_69), (an, 198, n_an, ca 0, fn)] [] H_83 locs_83 := ((hh_79.call hb_831 hb_832 hb_833 hb_834 hS_83 rfl (L1 := [(bn, 0, 3, .int cn), (bn, 0, 0, .ref an), (bv, 0, 3, .int qc_69), (bv, 0, 0, .ref qa_69), (r0, 16, 11, .int 3), (r0, 16, 12, .int z_1), (r0, 16, 13, .ref bn), (r0, 16, 14, .ref bv), (r0, 16, 15, .int pl), (r0, 16, 16, .int pb)]) [0, 1, 2, 3, 4, 5, 6, 7, 8, 9] rfl rfl (M1 := [(qa_69, 198, m_qa_69, ca 0, gv_69), (an, 198, n_an, ca 0, fn)]) [0, 1] rfl rfl (I1 := []) [] rfl rfl).more hb_835)
                    clear hh_79 ht_83 hvm_83 hz_83 hk_83 hS_83 hb_831 hb_832 hb_833 hb_834 hb_835
                    obtain ⟨hr_84b, hr_84p⟩ := hr_84
                    have hcl := hr_84p
                    have hr_84' := jb_01 hr_84b
                    refine lv_if_eq (tgt := 324) hx hb dX14_headerByte_313 (by decide) (fun c_85 => ?_) (fun c_85 => ?_)
                    · skip
                      have c_85' : r_84.toInt = 0 := jb_eq (rfl) ((by decide)) c_85
                      refine lv_iconst (v := 1) hx hb dX14_headerByte_324 (by decide) ?_
                      refine lv_goto (tgt := 329) hx hb dX14_headerByte_325 (by decide) ?_
                      have hsz_86 := hh_83.2.2.2.2.2.1
                      have htt_86 := hh_83.2.2.2.2.2.2.1
                      refine W.room (fun hrc_86 hrs_86 => ?_)
                      refine W.widen (k := LC - s.heap.size) (n := LS - jTot s.heap) (by omega) (by omega) ?_
                      rw [hQ]
                      exact W.zret (v := 1) hx hb hr (jb_nz (Or.inr rfl)) (fun t ht hW => ⟨⟨1, (z_1, 3, pl, pb, cn, qc_69, an, n_an, qa_69, m_qa_69, fn, gv_69, G_69), rfl, ⟨(Or.inr rfl), by skip; (try dsimp only); refine ⟨by omega, by omega, by omega, by omega, by omega, by omega, by omega, by omega, by omega, by omega, by omega, by omega, by omega, by omega, ?_, ?_⟩; exact jfHq.v2 hRE (by omega) (by omega) (by omega) (by omega) (by omega) (by omega) (by omega) rfl (by omega) (by omega); omega⟩, ⟨hh_83.ra (by first | (simp only; omega) | omega) (by first | (simp only; omega) | omega) (M1 := [(r0, 16, 12, .int z_1), (r0, 16, 11, .int 3), (r0, 16, 15, .int pl), (r0, 16, 16, .int pb), (bn, 0, 3, .int cn), (bv, 0, 3, .int qc_69), (bn, 0, 0, .ref an), (bv, 0, 0, .ref qa_69)]) [5, 4, 8, 9, 0, 2, 1, 3] rfl ht, hg_76, hgq_69_0, hNn_69, by rw [ht]; exact hh_83.2.2.2.2.2.2.2.1.sub [1, 0] rfl⟩⟩, by rw [ht]; try exact hh_83.1.1, fun q h9 hq => by rw [ht]; try exact hh_83.1.2.1 q h9 hq⟩) hh_83.1.2.2 dX14_headerByte_329
                    · skip
                      have c_85' : r_84.toInt ≠ 0 := jb_eq_n (rfl) ((by decide)) c_85
                      refine lv_aload_n hx hb dX14_headerByte_316 rfl (lv_at hl 0 rfl) ?_
                      refine lv_iconst (v := 0) hx hb dX14_headerByte_317 (by decide) ?_
                      have hsz_87 := hh_83.2.2.2.2.2.1
                      have htt_87 := hh_83.2.2.2.2.2.2.1
                      refine W.room (fun hrc_87 hrs_87 => ?_)
                      refine va_calli (A0 := jA base) (H0 := s.heap) (va_runV (As := [.int 0]) (rest := []) ⟨hx, hb, hml, hown, hts⟩ (uX14_isLengthSoFarC l dC dI ca base B hB hAp hB0 hB16 hB198 G_69 H_83 r0 0 bv qc_69 qa_69 m_qa_69 gv_69) (cwV 1 hts (jgV (jWr_49 _ (List.mem_of_getElem? (i := 14) rfl)) (jWr_49 _ (List.mem_of_getElem? (i := 15) rfl)) (jWr_49 _ (List.mem_of_getElem? (i := 16) rfl)) (jWr_1 _ (List.mem_of_getElem? (i := 5) rfl)) (jWr_49 _ (List.mem_of_getElem? (i := 17) rfl))) rfl rfl rfl (by decide +kernel) ⟨by rw [← hR]; exact Nat.le_of_ble_eq_true rfl, by rw [← hR]; exact Nat.le_of_ble_eq_true rfl⟩) ⟨fun a U g mk q => by obtain ⟨q0, q1, q2, qK, q10, q11, q12, q13, q14, q15, q16⟩ := q; exact ⟨q0, q1, q2, jG.calling g mk a qK, q10, q11, q12, q13, q14, q15, q16⟩, hh_83.recv (C := RX14) (T := TX14) (N := 74) hB16 rfl (by decide) hg_71 hK, fun U hU hW => ⟨rfl, hU, hh_83.2.1, hG.step hW hU hh_83.1, hg_71, (Or.inl rfl), hg_73, hgq_69_0, (hh_83.2.2.1.sub (L1 := [(r0, 16, 14, .ref bv), (bv, 0, 3, .int qc_69), (bv, 0, 0, .ref qa_69)]) [7, 2, 3] rfl), (hh_83.2.2.2.2.2.2.2.1.sub (L1 := [(qa_69, 198, m_qa_69, ca 0, gv_69)]) [0] rfl), by first | omega | (refine ⟨?_, ?_, ?_⟩ <;> (first | omega | rfl | assumption | decide | exact Or.inl rfl | exact Or.inr rfl | (simp only; omega)))⟩⟩ rfl rfl hl.1 rfl (lv_room (Nat.le_of_ble_eq_true rfl)) dX14_headerByte_318 ⟨by rw [hRc]; show _ + 0 ≤ _; omega, by rw [hRs]; show _ + 0 ≤ _; omega⟩) hh_83.1 (fun q _ h => h) (fun q h => h) (fun r_88 u_87 t_87 H_87 locs_87 ht_87 hvm_87 hr_88 hb_87 hz_87 hk_87 hS_87 => ?_)
                      rw [ht_87] at hb_87
                      obtain ⟨hb_871, hb_872, hb_873, hb_874, hb_875⟩ := hb_87
                      have hh_87 : jSt (dC, dI) B base G0 G_69 EX14_headerByteC s.heap (0 + (m_qa_69 - n_av)) (0 + (2 * (m_qa_69 - n_av))) [(bn, 0, 3, .int cn), (bn, 0, 0, .ref an), (bv, 0, 3, .int qc_69), (bv, 0, 0, .ref qa_69), (r0, 16, 11, .int 3), (r0, 16, 12, .int z_1), (r0, 16, 13, .ref bn), (r0, 16, 14, .ref bv), (r0, 16, 15, .int pl), (r0, 16, 16, .int pb)] [(qa_69, 198, m_qa_69, ca 0, gv_69), (an, 198, n_an, ca 0, fn)] [] H_87 locs_87 := ((hh_83.call hb_871 hb_872 hb_873 hb_874 hS_87 rfl (L1 := [(bn, 0, 3, .int cn), (bn, 0, 0, .ref an), (bv, 0, 3, .int qc_69), (bv, 0, 0, .ref qa_69), (r0, 16, 11, .int 3), (r0, 16, 12, .int z_1), (r0, 16, 13, .ref bn), (r0, 16, 14, .ref bv), (r0, 16, 15, .int pl), (r0, 16, 16, .int pb)]) [0, 1, 2, 3, 4, 5, 6, 7, 8, 9] rfl rfl (M1 := [(qa_69, 198, m_qa_69, ca 0, gv_69), (an, 198, n_an, ca 0, fn)]) [0, 1] rfl rfl (I1 := []) [] rfl rfl).more hb_875)
                      clear hh_83 ht_87 hvm_87 hz_87 hk_87 hS_87 hb_871 hb_872 hb_873 hb_874 hb_875
                      obtain ⟨hr_88b, hr_88p⟩ := hr_88
                      have hls318 := hr_88p
                      have hr_88' := jb_01 hr_88b
                      refine lv_if_eq (tgt := 328) hx hb dX14_headerByte_321 (by decide) (fun c_89 => ?_) (fun c_89 => ?_)
                      · skip
                        have c_89' : r_88.toInt = 0 := jb_eq (rfl) ((by decide)) c_89
                        first | (have hr_88pq := hr_88p.resolve_left (by omega); clear hr_88p) | (have hr_88pq := hr_88p.resolve_right (by omega); clear hr_88p) | try clear hr_88p
                        have hlo := hls318.resolve_left (by omega)
                        refine lv_iconst (v := 0) hx hb dX14_headerByte_328 (by decide) ?_
                        have hsz_90 := hh_87.2.2.2.2.2.1
                        have htt_90 := hh_87.2.2.2.2.2.2.1
                        refine W.room (fun hrc_90 hrs_90 => ?_)
                        refine W.widen (k := LC - s.heap.size) (n := LS - jTot s.heap) (by omega) (by omega) ?_
                        rw [hQ]
                        exact W.zret (v := 0) hx hb hr (jb_nz (Or.inl rfl)) (fun t ht hW => ⟨⟨0, (z_1, 3, pl, pb, cn, qc_69, an, n_an, qa_69, m_qa_69, fn, gv_69, G_69), rfl, ⟨(Or.inl rfl), by skip; (try dsimp only); refine ⟨by omega, by omega, by omega, by omega, by omega, by omega, by omega, by omega, by omega, by omega, by omega, by omega, by omega, by omega, ?_, ?_⟩; exact jfHq.v3 hRE (by omega) (by omega) (by omega) (by omega) (by omega) (by omega) (by omega) (by omega) (by omega) rfl (by omega) (hr_70p_5.to (by omega)) (by omega) (Or.inr ⟨Or.inr (Or.inr hlo.2), by omega⟩); omega⟩, ⟨hh_87.ra (by first | (simp only; omega) | omega) (by first | (simp only; omega) | omega) (M1 := [(r0, 16, 12, .int z_1), (r0, 16, 11, .int 3), (r0, 16, 15, .int pl), (r0, 16, 16, .int pb), (bn, 0, 3, .int cn), (bv, 0, 3, .int qc_69), (bn, 0, 0, .ref an), (bv, 0, 0, .ref qa_69)]) [5, 4, 8, 9, 0, 2, 1, 3] rfl ht, hg_76, hgq_69_0, hNn_69, by rw [ht]; exact hh_87.2.2.2.2.2.2.2.1.sub [1, 0] rfl⟩⟩, by rw [ht]; try exact hh_87.1.1, fun q h9 hq => by rw [ht]; try exact hh_87.1.2.1 q h9 hq⟩) hh_87.1.2.2 dX14_headerByte_329
                      · skip
                        have c_89' : r_88.toInt ≠ 0 := jb_eq_n (rfl) ((by decide)) c_89
                        first | (have hr_88pq := hr_88p.resolve_left (by omega); clear hr_88p) | (have hr_88pq := hr_88p.resolve_right (by omega); clear hr_88p) | try clear hr_88p
                        have hlo := hls318.resolve_right (by omega)
                        refine lv_iconst (v := 1) hx hb dX14_headerByte_324 (by decide) ?_
                        refine lv_goto (tgt := 329) hx hb dX14_headerByte_325 (by decide) ?_
                        have hsz_91 := hh_87.2.2.2.2.2.1
                        have htt_91 := hh_87.2.2.2.2.2.2.1
                        refine W.room (fun hrc_91 hrs_91 => ?_)
                        refine W.widen (k := LC - s.heap.size) (n := LS - jTot s.heap) (by omega) (by omega) ?_
                        rw [hQ]
                        exact W.zret (v := 1) hx hb hr (jb_nz (Or.inr rfl)) (fun t ht hW => ⟨⟨1, (z_1, 3, pl, pb, cn, qc_69, an, n_an, qa_69, m_qa_69, fn, gv_69, G_69), rfl, ⟨(Or.inr rfl), by skip; (try dsimp only); refine ⟨by omega, by omega, by omega, by omega, by omega, by omega, by omega, by omega, by omega, by omega, by omega, by omega, by omega, by omega, ?_, ?_⟩; exact jfHq.v3 hRE (by omega) (by omega) (by omega) (by omega) (by omega) (by omega) (by omega) (by omega) (by omega) rfl (by omega) (hr_70p_5.to (by omega)) (by omega) (Or.inl ⟨by omega, by omega, hlo.2, by omega⟩); omega⟩, ⟨hh_87.ra (by first | (simp only; omega) | omega) (by first | (simp only; omega) | omega) (M1 := [(r0, 16, 12, .int z_1), (r0, 16, 11, .int 3), (r0, 16, 15, .int pl), (r0, 16, 16, .int pb), (bn, 0, 3, .int cn), (bv, 0, 3, .int qc_69), (bn, 0, 0, .ref an), (bv, 0, 0, .ref qa_69)]) [5, 4, 8, 9, 0, 2, 1, 3] rfl ht, hg_76, hgq_69_0, hNn_69, by rw [ht]; exact hh_87.2.2.2.2.2.2.2.1.sub [1, 0] rfl⟩⟩, by rw [ht]; try exact hh_87.1.1, fun q h9 hq => by rw [ht]; try exact hh_87.1.2.1 q h9 hq⟩) hh_87.1.2.2 dX14_headerByte_329
                · skip
                  have c_67' : a1.toInt = 13 := jb_ne_n (rfl) ((by decide)) c_67
                  refine lv_aload_n hx hb dX14_headerByte_241 rfl (lv_at hl 0 rfl) ?_
                  refine lv_iconst (v := 4) hx hb dX14_headerByte_242 (by decide) ?_
                  refine j7_put hx hb hown hK hh_66 hB hAp hB16 (C := RX14) (T := TX14) (N := 74) rfl (by decide) hg_r0 (i := 11) (by decide) hly_16_11 rfl hlk_231 rfl (ty := .int) (v := .int 4) (by decide +kernel) rfl rfl (⟨_, rfl⟩) rfl (L1 := [(r0, 16, 12, .int z_1), (r0, 16, 13, .ref bn), (r0, 16, 14, .ref bv), (bn, 0, 3, .int cn), (bn, 0, 0, .ref an), (bv, 0, 3, .int cv), (bv, 0, 0, .ref av), (r0, 16, 15, .int pl), (r0, 16, 16, .int pb)]) [1, 2, 3, 4, 5, 6, 7, 8, 9] rfl rfl rfl dX14_headerByte_243 (fun H_92 locs_92 hh_92 => ?_)
                  clear hh_66
                  refine lv_aload_n hx hb dX14_headerByte_246 rfl (lv_at hl 0 rfl) ?_
                  have hsz_93 := hh_92.2.2.2.2.2.1
                  have htt_93 := hh_92.2.2.2.2.2.2.1
                  refine W.room (fun hrc_93 hrs_93 => ?_)
                  refine va_calli (A0 := jA base) (H0 := s.heap) (va_runV (As := []) (rest := []) ⟨hx, hb, hml, hown, hts⟩ (uX14_isContentLengthC l dC dI ca base B hB hAp hB0 hB16 hB198 G0 H_92 r0 bn cn an n_an fn) (cwV 0 hts (jgV (jWr_48 _ (List.mem_of_getElem? (i := 13) rfl)) (jWr_48 _ (List.mem_of_getElem? (i := 14) rfl)) (jWr_48 _ (List.mem_of_getElem? (i := 15) rfl)) (jWr_1 _ (List.mem_of_getElem? (i := 5) rfl)) (jWr_48 _ (List.mem_of_getElem? (i := 16) rfl))) rfl rfl rfl (by decide +kernel) ⟨by rw [← hR]; exact Nat.le_of_ble_eq_true rfl, by rw [← hR]; exact Nat.le_of_ble_eq_true rfl⟩) ⟨fun a U g mk q => by obtain ⟨q0, q1, q2, qK, q10, q11, q12, q13, q14, q15⟩ := q; exact ⟨q0, q1, q2, jG.calling g mk a qK, q10, q11, q12, q13, q14, q15⟩, hh_92.recv (C := RX14) (T := TX14) (N := 74) hB16 rfl (by decide) hg_r0 hK, fun U hU hW => ⟨rfl, hU, hh_92.2.1, hG.step hW hU hh_92.1, hg_r0, hg_bn, hg_an, (hh_92.2.2.1.sub (L1 := [(r0, 16, 13, .ref bn), (bn, 0, 3, .int cn), (bn, 0, 0, .ref an)]) [2, 4, 5] rfl), (hh_92.2.2.2.2.2.2.2.1.sub (L1 := [(an, 198, n_an, ca 0, fn)]) [0] rfl), by first | omega | (refine ⟨?_, ?_, ?_⟩ <;> (first | omega | rfl | assumption | decide | exact Or.inl rfl | exact Or.inr rfl | (simp only; omega)))⟩⟩ rfl rfl hl.1 rfl (lv_room (Nat.le_of_ble_eq_true rfl)) dX14_headerByte_247 ⟨by rw [hRc]; show _ + 0 ≤ _; omega, by rw [hRs]; show _ + 0 ≤ _; omega⟩) hh_92.1 (fun q _ h => h) (fun q h => h) (fun r_94 u_93 t_93 H_93 locs_93 ht_93 hvm_93 hr_94 hb_93 hz_93 hk_93 hS_93 => ?_)
                  rw [ht_93] at hb_93
                  obtain ⟨hb_931, hb_932, hb_933, hb_934, hb_935⟩ := hb_93
                  have hh_93 : jSt (dC, dI) B base G0 G0 EX14_headerByteC s.heap 0 0 [(r0, 16, 11, .int 4), (r0, 16, 12, .int z_1), (r0, 16, 13, .ref bn), (r0, 16, 14, .ref bv), (bn, 0, 3, .int cn), (bn, 0, 0, .ref an), (bv, 0, 3, .int cv), (bv, 0, 0, .ref av), (r0, 16, 15, .int pl), (r0, 16, 16, .int pb)] [(an, 198, n_an, ca 0, fn), (av, 198, n_av, ca 0, fv)] [] H_93 locs_93 := ((hh_92.call hb_931 hb_932 hb_933 hb_934 hS_93 rfl (L1 := [(r0, 16, 11, .int 4), (r0, 16, 12, .int z_1), (r0, 16, 13, .ref bn), (r0, 16, 14, .ref bv), (bn, 0, 3, .int cn), (bn, 0, 0, .ref an), (bv, 0, 3, .int cv), (bv, 0, 0, .ref av), (r0, 16, 15, .int pl), (r0, 16, 16, .int pb)]) [0, 1, 2, 3, 4, 5, 6, 7, 8, 9] rfl rfl (M1 := [(an, 198, n_an, ca 0, fn), (av, 198, n_av, ca 0, fv)]) [0, 1] rfl rfl (I1 := []) [] rfl rfl).more hb_935)
                  clear hh_92 ht_93 hvm_93 hz_93 hk_93 hS_93 hb_931 hb_932 hb_933 hb_934 hb_935
                  obtain ⟨hr_94b, hr_94p⟩ := hr_94
                  have hcl := hr_94p
                  have hr_94' := jb_01 hr_94b
                  refine lv_if_ne (tgt := 255) hx hb dX14_headerByte_250 (by decide) (fun c_95 => ?_) (fun c_95 => ?_)
                  · skip
                    have c_95' : r_94.toInt ≠ 0 := jb_ne (rfl) ((by decide)) c_95
                    refine lv_aload_n hx hb dX14_headerByte_255 rfl (lv_at hl 0 rfl) ?_
                    refine lv_aload_n hx hb dX14_headerByte_256 rfl (lv_at hl 0 rfl) ?_
                    refine lv_iconst (v := 1) hx hb dX14_headerByte_257 (by decide) ?_
                    have hsz_96 := hh_93.2.2.2.2.2.1
                    have htt_96 := hh_93.2.2.2.2.2.2.1
                    refine W.room (fun hrc_96 hrs_96 => ?_)
                    refine va_calli (A0 := jA base) (H0 := s.heap) (va_runV (As := [.int 1]) (rest := [.ref r0]) ⟨hx, hb, hml, hown, hts⟩ (uX14_isLengthSoFarC l dC dI ca base B hB hAp hB0 hB16 hB198 G0 H_93 r0 1 bv cv av n_av fv) (cwV 1 hts (jgV (jWr_49 _ (List.mem_of_getElem? (i := 14) rfl)) (jWr_49 _ (List.mem_of_getElem? (i := 15) rfl)) (jWr_49 _ (List.mem_of_getElem? (i := 16) rfl)) (jWr_1 _ (List.mem_of_getElem? (i := 5) rfl)) (jWr_49 _ (List.mem_of_getElem? (i := 17) rfl))) rfl rfl rfl (by decide +kernel) ⟨by rw [← hR]; exact Nat.le_of_ble_eq_true rfl, by rw [← hR]; exact Nat.le_of_ble_eq_true rfl⟩) ⟨fun a U g mk q => by obtain ⟨q0, q1, q2, qK, q10, q11, q12, q13, q14, q15, q16⟩ := q; exact ⟨q0, q1, q2, jG.calling g mk a qK, q10, q11, q12, q13, q14, q15, q16⟩, hh_93.recv (C := RX14) (T := TX14) (N := 74) hB16 rfl (by decide) hg_r0 hK, fun U hU hW => ⟨rfl, hU, hh_93.2.1, hG.step hW hU hh_93.1, hg_r0, (Or.inr rfl), hg_bv, hg_av, (hh_93.2.2.1.sub (L1 := [(r0, 16, 14, .ref bv), (bv, 0, 3, .int cv), (bv, 0, 0, .ref av)]) [3, 6, 7] rfl), (hh_93.2.2.2.2.2.2.2.1.sub (L1 := [(av, 198, n_av, ca 0, fv)]) [1] rfl), by first | omega | (refine ⟨?_, ?_, ?_⟩ <;> (first | omega | rfl | assumption | decide | exact Or.inl rfl | exact Or.inr rfl | (simp only; omega)))⟩⟩ rfl rfl hl.1 rfl (lv_room (Nat.le_of_ble_eq_true rfl)) dX14_headerByte_258 ⟨by rw [hRc]; show _ + 0 ≤ _; omega, by rw [hRs]; show _ + 0 ≤ _; omega⟩) hh_93.1 (fun q _ h => h) (fun q h => h) (fun r_97 u_96 t_96 H_96 locs_96 ht_96 hvm_96 hr_97 hb_96 hz_96 hk_96 hS_96 => ?_)
                    rw [ht_96] at hb_96
                    obtain ⟨hb_961, hb_962, hb_963, hb_964, hb_965⟩ := hb_96
                    have hh_96 : jSt (dC, dI) B base G0 G0 EX14_headerByteC s.heap 0 0 [(r0, 16, 11, .int 4), (r0, 16, 12, .int z_1), (r0, 16, 13, .ref bn), (r0, 16, 14, .ref bv), (bn, 0, 3, .int cn), (bn, 0, 0, .ref an), (bv, 0, 3, .int cv), (bv, 0, 0, .ref av), (r0, 16, 15, .int pl), (r0, 16, 16, .int pb)] [(an, 198, n_an, ca 0, fn), (av, 198, n_av, ca 0, fv)] [] H_96 locs_96 := ((hh_93.call hb_961 hb_962 hb_963 hb_964 hS_96 rfl (L1 := [(r0, 16, 11, .int 4), (r0, 16, 12, .int z_1), (r0, 16, 13, .ref bn), (r0, 16, 14, .ref bv), (bn, 0, 3, .int cn), (bn, 0, 0, .ref an), (bv, 0, 3, .int cv), (bv, 0, 0, .ref av), (r0, 16, 15, .int pl), (r0, 16, 16, .int pb)]) [0, 1, 2, 3, 4, 5, 6, 7, 8, 9] rfl rfl (M1 := [(an, 198, n_an, ca 0, fn), (av, 198, n_av, ca 0, fv)]) [0, 1] rfl rfl (I1 := []) [] rfl rfl).more hb_965)
                    clear hh_93 ht_96 hvm_96 hz_96 hk_96 hS_96 hb_961 hb_962 hb_963 hb_964 hb_965
                    obtain ⟨hr_97b, hr_97p⟩ := hr_97
                    have hls258 := hr_97p
                    have hr_97' := jb_01 hr_97b
                    refine lv_if_eq (tgt := 271) hx hb dX14_headerByte_261 (by decide) (fun c_98 => ?_) (fun c_98 => ?_)
                    · skip
                      have c_98' : r_97.toInt = 0 := jb_eq (rfl) ((by decide)) c_98
                      first | (have hr_97pq := hr_97p.resolve_left (by omega); clear hr_97p) | (have hr_97pq := hr_97p.resolve_right (by omega); clear hr_97p) | try clear hr_97p
                      have hlo := hls258.resolve_left (by omega)
                      refine lv_iconst (v := (-1)) hx hb dX14_headerByte_271 (by decide) ?_
                      refine j7_put hx hb hown hK hh_96 hB hAp hB16 (C := RX14) (T := TX14) (N := 74) rfl (by decide) hg_r0 (i := 15) (by decide) hly_16_15 rfl hlk_33 rfl (ty := .int) (v := .int (-1)) (by decide +kernel) rfl rfl (⟨_, rfl, by omega, by omega⟩) rfl (L1 := [(r0, 16, 11, .int 4), (r0, 16, 12, .int z_1), (r0, 16, 13, .ref bn), (r0, 16, 14, .ref bv), (bn, 0, 3, .int cn), (bn, 0, 0, .ref an), (bv, 0, 3, .int cv), (bv, 0, 0, .ref av), (r0, 16, 16, .int pb)]) [0, 1, 2, 3, 4, 5, 6, 7, 9] rfl rfl rfl dX14_headerByte_272 (fun H_99 locs_99 hh_99 => ?_)
                      clear hh_96
                      refine lv_aload_n hx hb dX14_headerByte_275 rfl (lv_at hl 0 rfl) ?_
                      refine j7_read hx hb hown hK (C := RX14) (T := TX14) (N := 74) rfl hly_16_15 hlk_33 (hh_99.at 0 rfl) dX14_headerByte_276 ?_
                      refine lv_if_lt (tgt := 286) hx hb dX14_headerByte_279 (by decide) (fun c_100 => ?_) (fun c_100 => ?_)
                      · skip
                        refine lv_iconst (v := 0) hx hb dX14_headerByte_286 (by decide) ?_
                        have hsz_101 := hh_99.2.2.2.2.2.1
                        have htt_101 := hh_99.2.2.2.2.2.2.1
                        refine W.room (fun hrc_101 hrs_101 => ?_)
                        refine W.widen (k := LC - s.heap.size) (n := LS - jTot s.heap) (by omega) (by omega) ?_
                        rw [hQ]
                        exact W.zret (v := 0) hx hb hr (jb_nz (Or.inl rfl)) (fun t ht hW => ⟨⟨0, (z_1, 4, (-1), pb, cn, cv, an, n_an, av, n_av, fn, fv, G0), rfl, ⟨(Or.inl rfl), by skip; (try dsimp only); refine ⟨by omega, by omega, by omega, by omega, by omega, by omega, by omega, by omega, by omega, by omega, by omega, by omega, by omega, by omega, ?_, ?_⟩; exact jfHq.r3 hRE (by omega) (by omega) (by omega) (by omega) (by omega) (by omega) (by omega) (Or.inr ⟨hlo.2, by omega⟩); omega⟩, ⟨hh_99.ra (by first | (simp only; omega) | omega) (by first | (simp only; omega) | omega) (M1 := [(r0, 16, 12, .int z_1), (r0, 16, 11, .int 4), (r0, 16, 15, .int (-1)), (r0, 16, 16, .int pb), (bn, 0, 3, .int cn), (bv, 0, 3, .int cv), (bn, 0, 0, .ref an), (bv, 0, 0, .ref av)]) [2, 1, 0, 9, 5, 7, 6, 8] rfl ht, hg_an, hg_av, jNk.rf, by rw [ht]; exact hh_99.2.2.2.2.2.2.2.1.sub [0, 1] rfl⟩⟩, by rw [ht]; try exact hh_99.1.1, fun q h9 hq => by rw [ht]; try exact hh_99.1.2.1 q h9 hq⟩) hh_99.1.2.2 dX14_headerByte_287
                      · skip
                        exact absurd c_100 (by decide)
                    · skip
                      have c_98' : r_97.toInt ≠ 0 := jb_eq_n (rfl) ((by decide)) c_98
                      first | (have hr_97pq := hr_97p.resolve_left (by omega); clear hr_97p) | (have hr_97pq := hr_97p.resolve_right (by omega); clear hr_97p) | try clear hr_97p
                      have hlo := hls258.resolve_right (by omega)
                      obtain ⟨hl4, hl4b, hl5, hl6⟩ := hlo.2
                      refine lv_aload_n hx hb dX14_headerByte_264 rfl (lv_at hl 0 rfl) ?_
                      have hsz_102 := hh_96.2.2.2.2.2.1
                      have htt_102 := hh_96.2.2.2.2.2.2.1
                      refine W.room (fun hrc_102 hrs_102 => ?_)
                      refine va_calli (A0 := jA base) (H0 := s.heap) (va_runV (As := []) (rest := [.ref r0]) ⟨hx, hb, hml, hown, hts⟩ (uX14_lengthTold l dC dI ca base B hB hAp hB0 hB16 hB198 G0 H_96 r0 bv cv av n_av fv) (cwV 0 hts (jgV (jWr_49 _ (List.mem_of_getElem? (i := 21) rfl)) (jWr_49 _ (List.mem_of_getElem? (i := 22) rfl)) (jWr_49 _ (List.mem_of_getElem? (i := 23) rfl)) (jWr_1 _ (List.mem_of_getElem? (i := 5) rfl)) (jWr_50 _ (List.mem_of_getElem? (i := 0) rfl))) rfl rfl rfl (by decide +kernel) ⟨by rw [← hR]; exact Nat.le_of_ble_eq_true rfl, by rw [← hR]; exact Nat.le_of_ble_eq_true rfl⟩) ⟨fun a U g mk q => by obtain ⟨q0, q1, q2, qK, q10, q11, q12, q13, q14, q15⟩ := q; exact ⟨q0, q1, q2, jG.calling g mk a qK, q10, q11, q12, q13, q14, q15⟩, hh_96.recv (C := RX14) (T := TX14) (N := 74) hB16 rfl (by decide) hg_r0 hK, fun U hU hW => ⟨rfl, hU, hh_96.2.1, hG.step hW hU hh_96.1, hg_r0, hg_bv, hg_av, (hh_96.2.2.1.sub (L1 := [(r0, 16, 14, .ref bv), (bv, 0, 3, .int cv), (bv, 0, 0, .ref av)]) [3, 6, 7] rfl), (hh_96.2.2.2.2.2.2.2.1.sub (L1 := [(av, 198, n_av, ca 0, fv)]) [1] rfl), by first | omega | (refine ⟨?_, ?_, ?_, ?_, ?_⟩ <;> (first | omega | rfl | assumption | decide | exact Or.inl rfl | exact Or.inr rfl | (simp only; omega)))⟩⟩ rfl rfl hl.1 rfl (lv_room (Nat.le_of_ble_eq_true rfl)) dX14_headerByte_265 ⟨by rw [hRc]; show _ + 0 ≤ _; omega, by rw [hRs]; show _ + 0 ≤ _; omega⟩) hh_96.1 (fun q _ h => h) (fun q h => h) (fun r_103 u_102 t_102 H_102 locs_102 ht_102 hvm_102 hr_103 hb_102 hz_102 hk_102 hS_102 => ?_)
                      rw [ht_102] at hb_102
                      obtain ⟨hb_1021, hb_1022, hb_1023, hb_1024, hb_1025⟩ := hb_102
                      have hh_102 : jSt (dC, dI) B base G0 G0 EX14_headerByteC s.heap 0 0 [(r0, 16, 11, .int 4), (r0, 16, 12, .int z_1), (r0, 16, 13, .ref bn), (r0, 16, 14, .ref bv), (bn, 0, 3, .int cn), (bn, 0, 0, .ref an), (bv, 0, 3, .int cv), (bv, 0, 0, .ref av), (r0, 16, 15, .int pl), (r0, 16, 16, .int pb)] [(an, 198, n_an, ca 0, fn), (av, 198, n_av, ca 0, fv)] [] H_102 locs_102 := ((hh_96.call hb_1021 hb_1022 hb_1023 hb_1024 hS_102 rfl (L1 := [(r0, 16, 11, .int 4), (r0, 16, 12, .int z_1), (r0, 16, 13, .ref bn), (r0, 16, 14, .ref bv), (bn, 0, 3, .int cn), (bn, 0, 0, .ref an), (bv, 0, 3, .int cv), (bv, 0, 0, .ref av), (r0, 16, 15, .int pl), (r0, 16, 16, .int pb)]) [0, 1, 2, 3, 4, 5, 6, 7, 8, 9] rfl rfl (M1 := [(an, 198, n_an, ca 0, fn), (av, 198, n_av, ca 0, fv)]) [0, 1] rfl rfl (I1 := []) [] rfl rfl).more hb_1025)
                      clear hh_96 ht_102 hvm_102 hz_102 hk_102 hS_102 hb_1021 hb_1022 hb_1023 hb_1024 hb_1025
                      have hl7 := jNm_0 hl5 cv.toInt.toNat (by omega)
                      rw [← hr_103] at hl6 hl7
                      refine lv_goto (tgt := 272) hx hb dX14_headerByte_268 (by decide) ?_
                      refine j7_put hx hb hown hK hh_102 hB hAp hB16 (C := RX14) (T := TX14) (N := 74) rfl (by decide) hg_r0 (i := 15) (by decide) hly_16_15 rfl hlk_33 rfl (ty := .int) (v := .int r_103) (by decide +kernel) rfl rfl (⟨_, rfl, by omega, by omega⟩) rfl (L1 := [(r0, 16, 11, .int 4), (r0, 16, 12, .int z_1), (r0, 16, 13, .ref bn), (r0, 16, 14, .ref bv), (bn, 0, 3, .int cn), (bn, 0, 0, .ref an), (bv, 0, 3, .int cv), (bv, 0, 0, .ref av), (r0, 16, 16, .int pb)]) [0, 1, 2, 3, 4, 5, 6, 7, 9] rfl rfl rfl dX14_headerByte_272 (fun H_104 locs_104 hh_104 => ?_)
                      clear hh_102
                      refine lv_aload_n hx hb dX14_headerByte_275 rfl (lv_at hl 0 rfl) ?_
                      refine j7_read hx hb hown hK (C := RX14) (T := TX14) (N := 74) rfl hly_16_15 hlk_33 (hh_104.at 0 rfl) dX14_headerByte_276 ?_
                      refine lv_if_lt (tgt := 286) hx hb dX14_headerByte_279 (by decide) (fun c_105 => ?_) (fun c_105 => ?_)
                      · skip
                        have c_105' : r_103.toInt < 0 := jb_lt (rfl) ((by decide)) c_105
                        refine lv_iconst (v := 0) hx hb dX14_headerByte_286 (by decide) ?_
                        have hsz_106 := hh_104.2.2.2.2.2.1
                        have htt_106 := hh_104.2.2.2.2.2.2.1
                        refine W.room (fun hrc_106 hrs_106 => ?_)
                        refine W.widen (k := LC - s.heap.size) (n := LS - jTot s.heap) (by omega) (by omega) ?_
                        rw [hQ]
                        exact W.zret (v := 0) hx hb hr (jb_nz (Or.inl rfl)) (fun t ht hW => ⟨⟨0, (z_1, 4, r_103, pb, cn, cv, an, n_an, av, n_av, fn, fv, G0), rfl, ⟨(Or.inl rfl), by skip; (try dsimp only); refine ⟨by omega, by omega, by omega, by omega, by omega, by omega, by omega, by omega, by omega, by omega, by omega, by omega, by omega, by omega, ?_, ?_⟩; exact jfHq.r3 hRE (by omega) (by omega) (by omega) (by omega) (by omega) (by omega) (by omega) (Or.inl ⟨hlo.2, by omega, by omega⟩); omega⟩, ⟨hh_104.ra (by first | (simp only; omega) | omega) (by first | (simp only; omega) | omega) (M1 := [(r0, 16, 12, .int z_1), (r0, 16, 11, .int 4), (r0, 16, 15, .int r_103), (r0, 16, 16, .int pb), (bn, 0, 3, .int cn), (bv, 0, 3, .int cv), (bn, 0, 0, .ref an), (bv, 0, 0, .ref av)]) [2, 1, 0, 9, 5, 7, 6, 8] rfl ht, hg_an, hg_av, jNk.rf, by rw [ht]; exact hh_104.2.2.2.2.2.2.2.1.sub [0, 1] rfl⟩⟩, by rw [ht]; try exact hh_104.1.1, fun q h9 hq => by rw [ht]; try exact hh_104.1.2.1 q h9 hq⟩) hh_104.1.2.2 dX14_headerByte_287
                      · skip
                        have c_105' : r_103.toInt ≥ 0 := jb_lt_n (rfl) ((by decide)) c_105
                        refine lv_iconst (v := 1) hx hb dX14_headerByte_282 (by decide) ?_
                        refine lv_goto (tgt := 287) hx hb dX14_headerByte_283 (by decide) ?_
                        have hsz_107 := hh_104.2.2.2.2.2.1
                        have htt_107 := hh_104.2.2.2.2.2.2.1
                        refine W.room (fun hrc_107 hrs_107 => ?_)
                        refine W.widen (k := LC - s.heap.size) (n := LS - jTot s.heap) (by omega) (by omega) ?_
                        rw [hQ]
                        exact W.zret (v := 1) hx hb hr (jb_nz (Or.inr rfl)) (fun t ht hW => ⟨⟨1, (z_1, 4, r_103, pb, cn, cv, an, n_an, av, n_av, fn, fv, G0), rfl, ⟨(Or.inr rfl), by skip; (try dsimp only); refine ⟨by omega, by omega, by omega, by omega, by omega, by omega, by omega, by omega, by omega, by omega, by omega, by omega, by omega, by omega, ?_, ?_⟩; exact jfHq.r3 hRE (by omega) (by omega) (by omega) (by omega) (by omega) (by omega) (by omega) (Or.inl ⟨hlo.2, by omega, by omega⟩); omega⟩, ⟨hh_104.ra (by first | (simp only; omega) | omega) (by first | (simp only; omega) | omega) (M1 := [(r0, 16, 12, .int z_1), (r0, 16, 11, .int 4), (r0, 16, 15, .int r_103), (r0, 16, 16, .int pb), (bn, 0, 3, .int cn), (bv, 0, 3, .int cv), (bn, 0, 0, .ref an), (bv, 0, 0, .ref av)]) [2, 1, 0, 9, 5, 7, 6, 8] rfl ht, hg_an, hg_av, jNk.rf, by rw [ht]; exact hh_104.2.2.2.2.2.2.2.1.sub [0, 1] rfl⟩⟩, by rw [ht]; try exact hh_104.1.1, fun q h9 hq => by rw [ht]; try exact hh_104.1.2.1 q h9 hq⟩) hh_104.1.2.2 dX14_headerByte_287
                  · skip
                    have c_95' : r_94.toInt = 0 := jb_ne_n (rfl) ((by decide)) c_95
                    refine lv_iconst (v := 1) hx hb dX14_headerByte_253 (by decide) ?_
                    have hsz_108 := hh_93.2.2.2.2.2.1
                    have htt_108 := hh_93.2.2.2.2.2.2.1
                    refine W.room (fun hrc_108 hrs_108 => ?_)
                    refine W.widen (k := LC - s.heap.size) (n := LS - jTot s.heap) (by omega) (by omega) ?_
                    rw [hQ]
                    exact W.zret (v := 1) hx hb hr (jb_nz (Or.inr rfl)) (fun t ht hW => ⟨⟨1, (z_1, 4, pl, pb, cn, cv, an, n_an, av, n_av, fn, fv, G0), rfl, ⟨(Or.inr rfl), by skip; (try dsimp only); refine ⟨by omega, by omega, by omega, by omega, by omega, by omega, by omega, by omega, by omega, by omega, by omega, by omega, by omega, by omega, ?_, ?_⟩; exact jfHq.r2 hRE (by omega) (by omega) (by omega) (by omega) (by omega) (by omega) (by omega) (by omega); omega⟩, ⟨hh_93.ra (by first | (simp only; omega) | omega) (by first | (simp only; omega) | omega) (M1 := [(r0, 16, 12, .int z_1), (r0, 16, 11, .int 4), (r0, 16, 15, .int pl), (r0, 16, 16, .int pb), (bn, 0, 3, .int cn), (bv, 0, 3, .int cv), (bn, 0, 0, .ref an), (bv, 0, 0, .ref av)]) [1, 0, 8, 9, 4, 6, 5, 7] rfl ht, hg_an, hg_av, jNk.rf, by rw [ht]; exact hh_93.2.2.2.2.2.2.2.1.sub [0, 1] rfl⟩⟩, by rw [ht]; try exact hh_93.1.1, fun q h9 hq => by rw [ht]; try exact hh_93.1.2.1 q h9 hq⟩) hh_93.1.2.2 dX14_headerByte_254
              · skip
                have c_65' : a1.toInt = 32 := jb_ne_n (rfl) ((by decide)) c_65
                refine lv_iconst (v := 1) hx hb dX14_headerByte_228 (by decide) ?_
                have hsz_109 := hh_2.2.2.2.2.2.1
                have htt_109 := hh_2.2.2.2.2.2.2.1
                refine W.room (fun hrc_109 hrs_109 => ?_)
                refine W.widen (k := LC - s.heap.size) (n := LS - jTot s.heap) (by omega) (by omega) ?_
                rw [hQ]
                exact W.zret (v := 1) hx hb hr (jb_nz (Or.inr rfl)) (fun t ht hW => ⟨⟨1, (z_1, pm, pl, pb, cn, cv, an, n_an, av, n_av, fn, fv, G0), rfl, ⟨(Or.inr rfl), by skip; (try dsimp only); refine ⟨by omega, by omega, by omega, by omega, by omega, by omega, by omega, by omega, by omega, by omega, by omega, by omega, by omega, by omega, ?_, ?_⟩; exact jfHq.b2 hRE (by omega) (by omega) (by omega) (by omega) (by omega) (by omega) rfl (by omega) rfl (by omega) (by omega); omega⟩, ⟨hh_2.ra (by first | (simp only; omega) | omega) (by first | (simp only; omega) | omega) (M1 := [(r0, 16, 12, .int z_1), (r0, 16, 11, .int pm), (r0, 16, 15, .int pl), (r0, 16, 16, .int pb), (bn, 0, 3, .int cn), (bv, 0, 3, .int cv), (bn, 0, 0, .ref an), (bv, 0, 0, .ref av)]) [0, 7, 8, 9, 3, 5, 4, 6] rfl ht, hg_an, hg_av, jNk.rf, by rw [ht]; exact hh_2.2.2.2.2.2.2.2.1.sub [0, 1] rfl⟩⟩, by rw [ht]; try exact hh_2.1.1, fun q h9 hq => by rw [ht]; try exact hh_2.1.2.1 q h9 hq⟩) hh_2.1.2.2 dX14_headerByte_229
          · skip
            have c_20' : pm.toInt = 5 := jb_ne_n (rfl) ((by decide)) c_20
            refine lv_aload_n hx hb dX14_headerByte_169 rfl (lv_at hl 0 rfl) ?_
            refine j7_read hx hb hown hK (C := RX14) (T := TX14) (N := 74) rfl hly_16_11 hlk_231 (hh_2.at 7 rfl) dX14_headerByte_170 ?_
            refine lv_iconst (v := 5) hx hb dX14_headerByte_173 (by decide) ?_
            refine lv_icmp_ne (tgt := 181) hx hb dX14_headerByte_174 (by decide) (fun c_110 => ?_) (fun c_110 => ?_)
            · skip
              have c_110' : pm.toInt ≠ 5 := jb_ne (rfl) ((by decide)) c_110
              refine lv_iconst (v := 0) hx hb dX14_headerByte_181 (by decide) ?_
              refine lv_istore_n (lv' := [(2, .int 0), (0, .ref r0), (1, .int a1)]) hx hb dX14_headerByte_182 rfl hl (by decide) rfl (fun ls hl => ?_)
              refine lv_aload_n hx hb dX14_headerByte_183 rfl (lv_at hl 1 rfl) ?_
              refine lv_iload_n hx hb dX14_headerByte_184 rfl (lv_at hl 0 rfl) ?_
              refine lv_if_eq (tgt := 193) hx hb dX14_headerByte_185 (by decide) (fun c_111 => ?_) (fun c_111 => ?_)
              · skip
                refine lv_iconst (v := 0) hx hb dX14_headerByte_193 (by decide) ?_
                refine j7_put hx hb hown hK hh_2 hB hAp hB16 (C := RX14) (T := TX14) (N := 74) rfl (by decide) hg_r0 (i := 11) (by decide) hly_16_11 rfl hlk_231 rfl (ty := .int) (v := .int 0) (by decide +kernel) rfl rfl (⟨_, rfl⟩) rfl (L1 := [(r0, 16, 12, .int z_1), (r0, 16, 13, .ref bn), (r0, 16, 14, .ref bv), (bn, 0, 3, .int cn), (bn, 0, 0, .ref an), (bv, 0, 3, .int cv), (bv, 0, 0, .ref av), (r0, 16, 15, .int pl), (r0, 16, 16, .int pb)]) [0, 1, 2, 3, 4, 5, 6, 8, 9] rfl rfl rfl dX14_headerByte_194 (fun H_112 locs_112 hh_112 => ?_)
                clear hh_2
                refine lv_aload_n hx hb dX14_headerByte_197 rfl (lv_at hl 1 rfl) ?_
                refine lv_iconst (v := 0) hx hb dX14_headerByte_198 (by decide) ?_
                refine j7_put hx hb hown hK hh_112 hB hAp hB16 (C := RX14) (T := TX14) (N := 74) rfl (by decide) hg_r0 (i := 16) (by decide) hly_16_16 rfl hlk_244 rfl (ty := .int) (v := .int 0) (by decide +kernel) rfl rfl (⟨_, rfl⟩) rfl (L1 := [(r0, 16, 11, .int 0), (r0, 16, 12, .int z_1), (r0, 16, 13, .ref bn), (r0, 16, 14, .ref bv), (bn, 0, 3, .int cn), (bn, 0, 0, .ref an), (bv, 0, 3, .int cv), (bv, 0, 0, .ref av), (r0, 16, 15, .int pl)]) [0, 1, 2, 3, 4, 5, 6, 7, 8] rfl rfl rfl dX14_headerByte_199 (fun H_113 locs_113 hh_113 => ?_)
                clear hh_112
                refine lv_iload_n hx hb dX14_headerByte_202 rfl (lv_at hl 2 rfl) ?_
                refine lv_bipush (v := 10) hx hb dX14_headerByte_203 (by decide) ?_
                refine lv_icmp_ne (tgt := 212) hx hb dX14_headerByte_205 (by decide) (fun c_114 => ?_) (fun c_114 => ?_)
                · skip
                  have c_114' : a1.toInt ≠ 10 := jb_ne (rfl) ((by decide)) c_114
                  refine lv_iconst (v := 0) hx hb dX14_headerByte_212 (by decide) ?_
                  have hsz_115 := hh_113.2.2.2.2.2.1
                  have htt_115 := hh_113.2.2.2.2.2.2.1
                  refine W.room (fun hrc_115 hrs_115 => ?_)
                  refine W.widen (k := LC - s.heap.size) (n := LS - jTot s.heap) (by omega) (by omega) ?_
                  rw [hQ]
                  exact W.zret (v := 0) hx hb hr (jb_nz (Or.inl rfl)) (fun t ht hW => ⟨⟨0, (z_1, 0, pl, 0, cn, cv, an, n_an, av, n_av, fn, fv, G0), rfl, ⟨(Or.inl rfl), by skip; (try dsimp only); refine ⟨by omega, by omega, by omega, by omega, by omega, by omega, by omega, by omega, by omega, by omega, by omega, by omega, by omega, by omega, ?_, ?_⟩; exact jfHq.e4 hRE (by omega) (by omega) (by omega) (by omega) (by omega) (by omega) (by omega); omega⟩, ⟨hh_113.ra (by first | (simp only; omega) | omega) (by first | (simp only; omega) | omega) (M1 := [(r0, 16, 12, .int z_1), (r0, 16, 11, .int 0), (r0, 16, 15, .int pl), (r0, 16, 16, .int 0), (bn, 0, 3, .int cn), (bv, 0, 3, .int cv), (bn, 0, 0, .ref an), (bv, 0, 0, .ref av)]) [2, 1, 9, 0, 5, 7, 6, 8] rfl ht, hg_an, hg_av, jNk.rf, by rw [ht]; exact hh_113.2.2.2.2.2.2.2.1.sub [0, 1] rfl⟩⟩, by rw [ht]; try exact hh_113.1.1, fun q h9 hq => by rw [ht]; try exact hh_113.1.2.1 q h9 hq⟩) hh_113.1.2.2 dX14_headerByte_213
                · skip
                  have c_114' : a1.toInt = 10 := jb_ne_n (rfl) ((by decide)) c_114
                  refine lv_iconst (v := 1) hx hb dX14_headerByte_208 (by decide) ?_
                  refine lv_goto (tgt := 213) hx hb dX14_headerByte_209 (by decide) ?_
                  have hsz_116 := hh_113.2.2.2.2.2.1
                  have htt_116 := hh_113.2.2.2.2.2.2.1
                  refine W.room (fun hrc_116 hrs_116 => ?_)
                  refine W.widen (k := LC - s.heap.size) (n := LS - jTot s.heap) (by omega) (by omega) ?_
                  rw [hQ]
                  exact W.zret (v := 1) hx hb hr (jb_nz (Or.inr rfl)) (fun t ht hW => ⟨⟨1, (z_1, 0, pl, 0, cn, cv, an, n_an, av, n_av, fn, fv, G0), rfl, ⟨(Or.inr rfl), by skip; (try dsimp only); refine ⟨by omega, by omega, by omega, by omega, by omega, by omega, by omega, by omega, by omega, by omega, by omega, by omega, by omega, by omega, ?_, ?_⟩; exact jfHq.e4 hRE (by omega) (by omega) (by omega) (by omega) (by omega) (by omega) (by omega); omega⟩, ⟨hh_113.ra (by first | (simp only; omega) | omega) (by first | (simp only; omega) | omega) (M1 := [(r0, 16, 12, .int z_1), (r0, 16, 11, .int 0), (r0, 16, 15, .int pl), (r0, 16, 16, .int 0), (bn, 0, 3, .int cn), (bv, 0, 3, .int cv), (bn, 0, 0, .ref an), (bv, 0, 0, .ref av)]) [2, 1, 9, 0, 5, 7, 6, 8] rfl ht, hg_an, hg_av, jNk.rf, by rw [ht]; exact hh_113.2.2.2.2.2.2.2.1.sub [0, 1] rfl⟩⟩, by rw [ht]; try exact hh_113.1.1, fun q h9 hq => by rw [ht]; try exact hh_113.1.2.1 q h9 hq⟩) hh_113.1.2.2 dX14_headerByte_213
              · skip
                exact absurd c_111 (by decide)
            · skip
              have c_110' : pm.toInt = 5 := jb_ne_n (rfl) ((by decide)) c_110
              refine lv_iconst (v := 1) hx hb dX14_headerByte_177 (by decide) ?_
              refine lv_goto (tgt := 182) hx hb dX14_headerByte_178 (by decide) ?_
              refine lv_istore_n (lv' := [(2, .int 1), (0, .ref r0), (1, .int a1)]) hx hb dX14_headerByte_182 rfl hl (by decide) rfl (fun ls hl => ?_)
              refine lv_aload_n hx hb dX14_headerByte_183 rfl (lv_at hl 1 rfl) ?_
              refine lv_iload_n hx hb dX14_headerByte_184 rfl (lv_at hl 0 rfl) ?_
              refine lv_if_eq (tgt := 193) hx hb dX14_headerByte_185 (by decide) (fun c_117 => ?_) (fun c_117 => ?_)
              · skip
                exact absurd c_117 (by decide)
              · skip
                refine lv_bipush (v := 6) hx hb dX14_headerByte_188 (by decide) ?_
                refine lv_goto (tgt := 194) hx hb dX14_headerByte_190 (by decide) ?_
                refine j7_put hx hb hown hK hh_2 hB hAp hB16 (C := RX14) (T := TX14) (N := 74) rfl (by decide) hg_r0 (i := 11) (by decide) hly_16_11 rfl hlk_231 rfl (ty := .int) (v := .int 6) (by decide +kernel) rfl rfl (⟨_, rfl⟩) rfl (L1 := [(r0, 16, 12, .int z_1), (r0, 16, 13, .ref bn), (r0, 16, 14, .ref bv), (bn, 0, 3, .int cn), (bn, 0, 0, .ref an), (bv, 0, 3, .int cv), (bv, 0, 0, .ref av), (r0, 16, 15, .int pl), (r0, 16, 16, .int pb)]) [0, 1, 2, 3, 4, 5, 6, 8, 9] rfl rfl rfl dX14_headerByte_194 (fun H_118 locs_118 hh_118 => ?_)
                clear hh_2
                refine lv_aload_n hx hb dX14_headerByte_197 rfl (lv_at hl 1 rfl) ?_
                refine lv_iconst (v := 0) hx hb dX14_headerByte_198 (by decide) ?_
                refine j7_put hx hb hown hK hh_118 hB hAp hB16 (C := RX14) (T := TX14) (N := 74) rfl (by decide) hg_r0 (i := 16) (by decide) hly_16_16 rfl hlk_244 rfl (ty := .int) (v := .int 0) (by decide +kernel) rfl rfl (⟨_, rfl⟩) rfl (L1 := [(r0, 16, 11, .int 6), (r0, 16, 12, .int z_1), (r0, 16, 13, .ref bn), (r0, 16, 14, .ref bv), (bn, 0, 3, .int cn), (bn, 0, 0, .ref an), (bv, 0, 3, .int cv), (bv, 0, 0, .ref av), (r0, 16, 15, .int pl)]) [0, 1, 2, 3, 4, 5, 6, 7, 8] rfl rfl rfl dX14_headerByte_199 (fun H_119 locs_119 hh_119 => ?_)
                clear hh_118
                refine lv_iload_n hx hb dX14_headerByte_202 rfl (lv_at hl 2 rfl) ?_
                refine lv_bipush (v := 10) hx hb dX14_headerByte_203 (by decide) ?_
                refine lv_icmp_ne (tgt := 212) hx hb dX14_headerByte_205 (by decide) (fun c_120 => ?_) (fun c_120 => ?_)
                · skip
                  have c_120' : a1.toInt ≠ 10 := jb_ne (rfl) ((by decide)) c_120
                  refine lv_iconst (v := 0) hx hb dX14_headerByte_212 (by decide) ?_
                  have hsz_121 := hh_119.2.2.2.2.2.1
                  have htt_121 := hh_119.2.2.2.2.2.2.1
                  refine W.room (fun hrc_121 hrs_121 => ?_)
                  refine W.widen (k := LC - s.heap.size) (n := LS - jTot s.heap) (by omega) (by omega) ?_
                  rw [hQ]
                  exact W.zret (v := 0) hx hb hr (jb_nz (Or.inl rfl)) (fun t ht hW => ⟨⟨0, (z_1, 6, pl, 0, cn, cv, an, n_an, av, n_av, fn, fv, G0), rfl, ⟨(Or.inl rfl), by skip; (try dsimp only); refine ⟨by omega, by omega, by omega, by omega, by omega, by omega, by omega, by omega, by omega, by omega, by omega, by omega, by omega, by omega, ?_, ?_⟩; exact jfHq.e4 hRE (by omega) (by omega) (by omega) (by omega) (by omega) (by omega) (by omega); omega⟩, ⟨hh_119.ra (by first | (simp only; omega) | omega) (by first | (simp only; omega) | omega) (M1 := [(r0, 16, 12, .int z_1), (r0, 16, 11, .int 6), (r0, 16, 15, .int pl), (r0, 16, 16, .int 0), (bn, 0, 3, .int cn), (bv, 0, 3, .int cv), (bn, 0, 0, .ref an), (bv, 0, 0, .ref av)]) [2, 1, 9, 0, 5, 7, 6, 8] rfl ht, hg_an, hg_av, jNk.rf, by rw [ht]; exact hh_119.2.2.2.2.2.2.2.1.sub [0, 1] rfl⟩⟩, by rw [ht]; try exact hh_119.1.1, fun q h9 hq => by rw [ht]; try exact hh_119.1.2.1 q h9 hq⟩) hh_119.1.2.2 dX14_headerByte_213
                · skip
                  have c_120' : a1.toInt = 10 := jb_ne_n (rfl) ((by decide)) c_120
                  refine lv_iconst (v := 1) hx hb dX14_headerByte_208 (by decide) ?_
                  refine lv_goto (tgt := 213) hx hb dX14_headerByte_209 (by decide) ?_
                  have hsz_122 := hh_119.2.2.2.2.2.1
                  have htt_122 := hh_119.2.2.2.2.2.2.1
                  refine W.room (fun hrc_122 hrs_122 => ?_)
                  refine W.widen (k := LC - s.heap.size) (n := LS - jTot s.heap) (by omega) (by omega) ?_
                  rw [hQ]
                  exact W.zret (v := 1) hx hb hr (jb_nz (Or.inr rfl)) (fun t ht hW => ⟨⟨1, (z_1, 6, pl, 0, cn, cv, an, n_an, av, n_av, fn, fv, G0), rfl, ⟨(Or.inr rfl), by skip; (try dsimp only); refine ⟨by omega, by omega, by omega, by omega, by omega, by omega, by omega, by omega, by omega, by omega, by omega, by omega, by omega, by omega, ?_, ?_⟩; exact jfHq.e4 hRE (by omega) (by omega) (by omega) (by omega) (by omega) (by omega) (by omega); omega⟩, ⟨hh_119.ra (by first | (simp only; omega) | omega) (by first | (simp only; omega) | omega) (M1 := [(r0, 16, 12, .int z_1), (r0, 16, 11, .int 6), (r0, 16, 15, .int pl), (r0, 16, 16, .int 0), (bn, 0, 3, .int cn), (bv, 0, 3, .int cv), (bn, 0, 0, .ref an), (bv, 0, 0, .ref av)]) [2, 1, 9, 0, 5, 7, 6, 8] rfl ht, hg_an, hg_av, jNk.rf, by rw [ht]; exact hh_119.2.2.2.2.2.2.2.1.sub [0, 1] rfl⟩⟩, by rw [ht]; try exact hh_119.1.1, fun q h9 hq => by rw [ht]; try exact hh_119.1.2.1 q h9 hq⟩) hh_119.1.2.2 dX14_headerByte_213
      · skip
        have c_5' : pm.toInt = 1 := jb_ne_n (rfl) ((by decide)) c_5
        refine lv_iload_n hx hb dX14_headerByte_111 rfl (lv_at hl 1 rfl) ?_
        refine lv_bipush (v := 58) hx hb dX14_headerByte_112 (by decide) ?_
        refine lv_icmp_ne (tgt := 124) hx hb dX14_headerByte_114 (by decide) (fun c_123 => ?_) (fun c_123 => ?_)
        · skip
          have c_123' : a1.toInt ≠ 58 := jb_ne (rfl) ((by decide)) c_123
          refine lv_aload_n hx hb dX14_headerByte_124 rfl (lv_at hl 0 rfl) ?_
          refine j7_read hx hb hown hK (C := RX14) (T := TX14) (N := 74) rfl hly_16_13 hlk_26 (hh_2.at 1 rfl) dX14_headerByte_125 ?_
          refine lv_iload_n hx hb dX14_headerByte_128 rfl (lv_at hl 1 rfl) ?_
          refine lv_i2c hx hb dX14_headerByte_129 rfl ?_
          refine lv_topi (fun z_124 ez_124 => ?_)
          have hic := jb_i2c (by assumption) hp16 hp17
          have hsz_125 := hh_2.2.2.2.2.2.1
          have htt_125 := hh_2.2.2.2.2.2.2.1
          refine W.room (fun hrc_125 hrs_125 => ?_)
          refine j_callx (A0 := jA base) (H0 := s.heap) (va_runV (As := [.int z_124]) (rest := []) ⟨hx, hb, hml, hown, hts⟩ (uJ4_append_cf468C l dC dI ca base B hB hAp hB0 hB198 G0 H_2 bn z_124 cn an n_an fn av n_av fv LC LS) (cwV 1 hts (jgV (jWr_46 _ (List.mem_of_getElem? (i := 18) rfl)) (jWr_46 _ (List.mem_of_getElem? (i := 19) rfl)) (jWr_46 _ (List.mem_of_getElem? (i := 20) rfl)) (jWr_11 _ (List.mem_of_getElem? (i := 0) rfl)) (jWr_46 _ (List.mem_of_getElem? (i := 21) rfl))) rfl rfl rfl (by decide +kernel) ⟨by rw [← hR]; exact Nat.le_of_ble_eq_true rfl, by rw [← hR]; exact Nat.le_of_ble_eq_true rfl⟩) ⟨fun a U g mk q => by obtain ⟨q0, q1, q2, qK, q10, q11, q12, q13, q14⟩ := q; exact ⟨q0, q1, q2, jG.calling g mk a qK, q10, q11, q12, q13, q14⟩, hh_2.recv (C := RJ4) (T := TJ4) (N := 4) hB0 rfl (by decide) hg_bn hK, fun U hU hW => ⟨rfl, hU, hh_2.2.1, hG.step hW hU hh_2.1, hg_bn, hg_an, (hh_2.2.2.1.sub (L1 := [(bn, 0, 3, .int cn), (bn, 0, 0, .ref an)]) [3, 4] rfl), (hh_2.2.2.2.2.2.2.2.1.sub (L1 := [(an, 198, n_an, ca 0, fn), (av, 198, n_av, ca 0, fv)]) [0, 1] rfl), by first | omega | (refine ⟨?_, ?_, ?_, ?_, ?_, ?_, ?_⟩ <;> (first | omega | rfl | assumption | decide | exact Or.inl rfl | exact Or.inr rfl | (simp only; omega)))⟩⟩ rfl rfl hl.1 rfl (lv_room (Nat.le_of_ble_eq_true rfl)) dX14_headerByte_130 ⟨by rw [hRc]; omega, by rw [hRs]; omega⟩) hh_2.1 (fun q _ h => h) (fun q h => h) (fun r_126 u_125 t_125 H_125 locs_125 ht_125 hvm_125 hr_126 hb_125 hz_125 hk_125 hS_125 => ?_)
          obtain ⟨qc_125, qa_125, m_qa_125, gv_125, G_125⟩ := u_125
          rw [ht_125] at hb_125
          simp only at hb_125
          obtain ⟨⟨hb_1251, hb_1252, hb_1253, hb_1254, hb_1255, hb_1256⟩, hgq_125_0, hN_125, hbO_125, hbM_125⟩ := hb_125
          have hh_125 : jSt (dC, dI) B base G0 G_125 EX14_headerByteC s.heap (0 + (m_qa_125 - n_an)) (0 + (2 * (m_qa_125 - n_an))) [(bn, 0, 3, .int qc_125), (bn, 0, 0, .ref qa_125), (r0, 16, 12, .int z_1), (r0, 16, 13, .ref bn), (r0, 16, 14, .ref bv), (r0, 16, 11, .int pm), (r0, 16, 15, .int pl), (r0, 16, 16, .int pb)] [] [] H_125 locs_125 := (hh_2.callG hb_1251 hb_1252 hb_1253 hb_1254 hb_1255 hS_125 rfl (L1 := [(r0, 16, 12, .int z_1), (r0, 16, 13, .ref bn), (r0, 16, 14, .ref bv), (r0, 16, 11, .int pm), (r0, 16, 15, .int pl), (r0, 16, 16, .int pb)]) [0, 1, 2, 7, 8, 9] rfl rfl (M1 := []) [] rfl rfl (I1 := []) [] rfl rfl).more hb_1256
          have hNn_125 : (jNk [0, 1, 2, 3, 4, 5, 6, 7, 8, 9, 10, 11, 12, 13, 14, 15, 16, 17, 175]) G0 G_125 := (jNk.rf).tr hN_125
          have hg_127 := hb_1252 _ _ hg_r0
          have hg_128 := hb_1252 _ _ hg_bn
          have hg_129 := hb_1252 _ _ hg_bv
          have hh_130 := hh_125.moreM hbM_125
          have hh_131 := hh_130.more (P1 := [(bv, 0, 3, .int cv), (bv, 0, 0, .ref av)]) (jP.cons hg_129 (hbO_125 _ _ _ _ (by first | assumption | exact Ne.symm (by assumption) | exact jnek hg_bv hg_bn (by decide)) hg_bv (hh_2.at 5 rfl)) (jP.cons hg_129 (hbO_125 _ _ _ _ (by first | assumption | exact Ne.symm (by assumption) | exact jnek hg_bv hg_bn (by decide)) hg_bv (hh_2.at 6 rfl)) jP.nil))
          have hg_132 := hb_1252 _ _ hg_av
          obtain ⟨hr_126, hr_126p⟩ := hr_126
          try simp only at hr_126p
          obtain ⟨hr_126p_0, hr_126p_1, hr_126p_2, hr_126p_3, hr_126p_4, hr_126p_5, hr_126p_6⟩ := hr_126p
          obtain ⟨ret_133, rfl, hg_ret_133⟩ := hr_126
          have hg_134 := hb_1252 _ _ hg_ret_133
          refine lv_pop hx hb dX14_headerByte_133 rfl ?_
          refine lv_iload_n hx hb dX14_headerByte_134 rfl (lv_at hl 1 rfl) ?_
          have hsz_135 := hh_131.2.2.2.2.2.1
          have htt_135 := hh_131.2.2.2.2.2.2.1
          refine W.room (fun hrc_135 hrs_135 => ?_)
          refine va_calli (A0 := jA base) (H0 := s.heap) (va_runS (As := [.int a1]) (rest := []) ⟨hx, hb, hml, hown, hts⟩ (uX14_isLetterC l dC dI ca base B hB hAp G_125 H_125 a1) (va_cwS 1 hts (jgS (jWr_48 _ (List.mem_of_getElem? (i := 7) rfl)) (jWr_48 _ (List.mem_of_getElem? (i := 8) rfl)) (jWr_1 _ (List.mem_of_getElem? (i := 5) rfl)) (jWr_48 _ (List.mem_of_getElem? (i := 9) rfl))) rfl rfl rfl (by decide +kernel) ⟨by rw [← hR]; exact Nat.le_of_ble_eq_true rfl, by rw [← hR]; exact Nat.le_of_ble_eq_true rfl⟩) ⟨fun a U g mk q => by obtain ⟨q0, q1, q2, qK, q10, q11⟩ := q; exact ⟨q0, q1, q2, jG.calling g mk a qK, q10, q11⟩, fun U hU hW => ⟨rfl, hU, hh_131.2.1, hG.step hW hU hh_131.1, jP.nil, trivial⟩⟩ rfl rfl hl.1 rfl (lv_room (Nat.le_of_ble_eq_true rfl)) dX14_headerByte_135 ⟨by rw [hRc]; show _ + 0 ≤ _; omega, by rw [hRs]; show _ + 0 ≤ _; omega⟩) hh_131.1 (fun q _ h => h) (fun q h => h) (fun r_136 u_135 t_135 H_135 locs_135 ht_135 hvm_135 hr_136 hb_135 hz_135 hk_135 hS_135 => ?_)
          rw [ht_135] at hb_135
          obtain ⟨hb_1351, hb_1352, hb_1353, hb_1354, hb_1355⟩ := hb_135
          have hh_135 : jSt (dC, dI) B base G0 G_125 EX14_headerByteC s.heap (0 + (m_qa_125 - n_an)) (0 + (2 * (m_qa_125 - n_an))) [(bv, 0, 3, .int cv), (bv, 0, 0, .ref av), (bn, 0, 3, .int qc_125), (bn, 0, 0, .ref qa_125), (r0, 16, 12, .int z_1), (r0, 16, 13, .ref bn), (r0, 16, 14, .ref bv), (r0, 16, 11, .int pm), (r0, 16, 15, .int pl), (r0, 16, 16, .int pb)] [(qa_125, 198, m_qa_125, ca 0, gv_125), (av, 198, n_av, ca 0, fv)] [] H_135 locs_135 := ((hh_131.call hb_1351 hb_1352 hb_1353 hb_1354 hS_135 rfl (L1 := [(bv, 0, 3, .int cv), (bv, 0, 0, .ref av), (bn, 0, 3, .int qc_125), (bn, 0, 0, .ref qa_125), (r0, 16, 12, .int z_1), (r0, 16, 13, .ref bn), (r0, 16, 14, .ref bv), (r0, 16, 11, .int pm), (r0, 16, 15, .int pl), (r0, 16, 16, .int pb)]) [0, 1, 2, 3, 4, 5, 6, 7, 8, 9] rfl rfl (M1 := [(qa_125, 198, m_qa_125, ca 0, gv_125), (av, 198, n_av, ca 0, fv)]) [0, 1] rfl rfl (I1 := []) [] rfl rfl).more hb_1355)
          clear hh_131 ht_135 hvm_135 hz_135 hk_135 hS_135 hb_1351 hb_1352 hb_1353 hb_1354 hb_1355
          obtain ⟨hr_136b, hr_136p⟩ := hr_136
          have hr_136' := jb_01 hr_136b
          refine lv_if_ne (tgt := 147) hx hb dX14_headerByte_138 (by decide) (fun c_137 => ?_) (fun c_137 => ?_)
          · skip
            have c_137' : r_136.toInt ≠ 0 := jb_ne (rfl) ((by decide)) c_137
            first | (have hr_136pq := hr_136p.resolve_left (by omega); clear hr_136p) | (have hr_136pq := hr_136p.resolve_right (by omega); clear hr_136p) | try clear hr_136p
            refine lv_iconst (v := 1) hx hb dX14_headerByte_147 (by decide) ?_
            refine lv_goto (tgt := 152) hx hb dX14_headerByte_148 (by decide) ?_
            have hsz_138 := hh_135.2.2.2.2.2.1
            have htt_138 := hh_135.2.2.2.2.2.2.1
            refine W.room (fun hrc_138 hrs_138 => ?_)
            refine W.widen (k := LC - s.heap.size) (n := LS - jTot s.heap) (by omega) (by omega) ?_
            rw [hQ]
            exact W.zret (v := 1) hx hb hr (jb_nz (Or.inr rfl)) (fun t ht hW => ⟨⟨1, (z_1, pm, pl, pb, qc_125, cv, qa_125, m_qa_125, av, n_av, gv_125, fv, G_125), rfl, ⟨(Or.inr rfl), by skip; (try dsimp only); refine ⟨by omega, by omega, by omega, by omega, by omega, by omega, by omega, by omega, by omega, by omega, by omega, by omega, by omega, by omega, ?_, ?_⟩; exact jfHq.n1 hRE (by omega) (by omega) (by omega) (by omega) (by omega) (by omega) (by omega) (by omega) (hr_126p_5.to (by omega)) (by omega) (by omega) (by omega); omega⟩, ⟨hh_135.ra (by first | (simp only; omega) | omega) (by first | (simp only; omega) | omega) (M1 := [(r0, 16, 12, .int z_1), (r0, 16, 11, .int pm), (r0, 16, 15, .int pl), (r0, 16, 16, .int pb), (bn, 0, 3, .int qc_125), (bv, 0, 3, .int cv), (bn, 0, 0, .ref qa_125), (bv, 0, 0, .ref av)]) [4, 7, 8, 9, 2, 0, 3, 1] rfl ht, hgq_125_0, hg_132, hNn_125, by rw [ht]; exact hh_135.2.2.2.2.2.2.2.1.sub [0, 1] rfl⟩⟩, by rw [ht]; try exact hh_135.1.1, fun q h9 hq => by rw [ht]; try exact hh_135.1.2.1 q h9 hq⟩) hh_135.1.2.2 dX14_headerByte_152
          · skip
            have c_137' : r_136.toInt = 0 := jb_ne_n (rfl) ((by decide)) c_137
            first | (have hr_136pq := hr_136p.resolve_left (by omega); clear hr_136p) | (have hr_136pq := hr_136p.resolve_right (by omega); clear hr_136p) | try clear hr_136p
            refine lv_iload_n hx hb dX14_headerByte_141 rfl (lv_at hl 1 rfl) ?_
            refine lv_bipush (v := 45) hx hb dX14_headerByte_142 (by decide) ?_
            refine lv_icmp_ne (tgt := 151) hx hb dX14_headerByte_144 (by decide) (fun c_139 => ?_) (fun c_139 => ?_)
            · skip
              have c_139' : a1.toInt ≠ 45 := jb_ne (rfl) ((by decide)) c_139
              refine lv_iconst (v := 0) hx hb dX14_headerByte_151 (by decide) ?_
              have hsz_140 := hh_135.2.2.2.2.2.1
              have htt_140 := hh_135.2.2.2.2.2.2.1
              refine W.room (fun hrc_140 hrs_140 => ?_)
              refine W.widen (k := LC - s.heap.size) (n := LS - jTot s.heap) (by omega) (by omega) ?_
              rw [hQ]
              exact W.zret (v := 0) hx hb hr (jb_nz (Or.inl rfl)) (fun t ht hW => ⟨⟨0, (z_1, pm, pl, pb, qc_125, cv, qa_125, m_qa_125, av, n_av, gv_125, fv, G_125), rfl, ⟨(Or.inl rfl), by skip; (try dsimp only); refine ⟨by omega, by omega, by omega, by omega, by omega, by omega, by omega, by omega, by omega, by omega, by omega, by omega, by omega, by omega, ?_, ?_⟩; exact jfHq.n1 hRE (by omega) (by omega) (by omega) (by omega) (by omega) (by omega) (by omega) (by omega) (hr_126p_5.to (by omega)) (by omega) (by omega) (by omega); omega⟩, ⟨hh_135.ra (by first | (simp only; omega) | omega) (by first | (simp only; omega) | omega) (M1 := [(r0, 16, 12, .int z_1), (r0, 16, 11, .int pm), (r0, 16, 15, .int pl), (r0, 16, 16, .int pb), (bn, 0, 3, .int qc_125), (bv, 0, 3, .int cv), (bn, 0, 0, .ref qa_125), (bv, 0, 0, .ref av)]) [4, 7, 8, 9, 2, 0, 3, 1] rfl ht, hgq_125_0, hg_132, hNn_125, by rw [ht]; exact hh_135.2.2.2.2.2.2.2.1.sub [0, 1] rfl⟩⟩, by rw [ht]; try exact hh_135.1.1, fun q h9 hq => by rw [ht]; try exact hh_135.1.2.1 q h9 hq⟩) hh_135.1.2.2 dX14_headerByte_152
            · skip
              have c_139' : a1.toInt = 45 := jb_ne_n (rfl) ((by decide)) c_139
              refine lv_iconst (v := 1) hx hb dX14_headerByte_147 (by decide) ?_
              refine lv_goto (tgt := 152) hx hb dX14_headerByte_148 (by decide) ?_
              have hsz_141 := hh_135.2.2.2.2.2.1
              have htt_141 := hh_135.2.2.2.2.2.2.1
              refine W.room (fun hrc_141 hrs_141 => ?_)
              refine W.widen (k := LC - s.heap.size) (n := LS - jTot s.heap) (by omega) (by omega) ?_
              rw [hQ]
              exact W.zret (v := 1) hx hb hr (jb_nz (Or.inr rfl)) (fun t ht hW => ⟨⟨1, (z_1, pm, pl, pb, qc_125, cv, qa_125, m_qa_125, av, n_av, gv_125, fv, G_125), rfl, ⟨(Or.inr rfl), by skip; (try dsimp only); refine ⟨by omega, by omega, by omega, by omega, by omega, by omega, by omega, by omega, by omega, by omega, by omega, by omega, by omega, by omega, ?_, ?_⟩; exact jfHq.n1 hRE (by omega) (by omega) (by omega) (by omega) (by omega) (by omega) (by omega) (by omega) (hr_126p_5.to (by omega)) (by omega) (by omega) (by omega); omega⟩, ⟨hh_135.ra (by first | (simp only; omega) | omega) (by first | (simp only; omega) | omega) (M1 := [(r0, 16, 12, .int z_1), (r0, 16, 11, .int pm), (r0, 16, 15, .int pl), (r0, 16, 16, .int pb), (bn, 0, 3, .int qc_125), (bv, 0, 3, .int cv), (bn, 0, 0, .ref qa_125), (bv, 0, 0, .ref av)]) [4, 7, 8, 9, 2, 0, 3, 1] rfl ht, hgq_125_0, hg_132, hNn_125, by rw [ht]; exact hh_135.2.2.2.2.2.2.2.1.sub [0, 1] rfl⟩⟩, by rw [ht]; try exact hh_135.1.1, fun q h9 hq => by rw [ht]; try exact hh_135.1.2.1 q h9 hq⟩) hh_135.1.2.2 dX14_headerByte_152
        · skip
          have c_123' : a1.toInt = 58 := jb_ne_n (rfl) ((by decide)) c_123
          refine lv_aload_n hx hb dX14_headerByte_117 rfl (lv_at hl 0 rfl) ?_
          refine lv_iconst (v := 2) hx hb dX14_headerByte_118 (by decide) ?_
          refine j7_put hx hb hown hK hh_2 hB hAp hB16 (C := RX14) (T := TX14) (N := 74) rfl (by decide) hg_r0 (i := 11) (by decide) hly_16_11 rfl hlk_231 rfl (ty := .int) (v := .int 2) (by decide +kernel) rfl rfl (⟨_, rfl⟩) rfl (L1 := [(r0, 16, 12, .int z_1), (r0, 16, 13, .ref bn), (r0, 16, 14, .ref bv), (bn, 0, 3, .int cn), (bn, 0, 0, .ref an), (bv, 0, 3, .int cv), (bv, 0, 0, .ref av), (r0, 16, 15, .int pl), (r0, 16, 16, .int pb)]) [0, 1, 2, 3, 4, 5, 6, 8, 9] rfl rfl rfl dX14_headerByte_119 (fun H_142 locs_142 hh_142 => ?_)
          clear hh_2
          refine lv_iconst (v := 1) hx hb dX14_headerByte_122 (by decide) ?_
          have hsz_143 := hh_142.2.2.2.2.2.1
          have htt_143 := hh_142.2.2.2.2.2.2.1
          refine W.room (fun hrc_143 hrs_143 => ?_)
          refine W.widen (k := LC - s.heap.size) (n := LS - jTot s.heap) (by omega) (by omega) ?_
          rw [hQ]
          exact W.zret (v := 1) hx hb hr (jb_nz (Or.inr rfl)) (fun t ht hW => ⟨⟨1, (z_1, 2, pl, pb, cn, cv, an, n_an, av, n_av, fn, fv, G0), rfl, ⟨(Or.inr rfl), by skip; (try dsimp only); refine ⟨by omega, by omega, by omega, by omega, by omega, by omega, by omega, by omega, by omega, by omega, by omega, by omega, by omega, by omega, ?_, ?_⟩; exact jfHq.c1 hRE (by omega) (by omega) (by omega) (by omega) (by omega) (by omega) rfl (by omega) (by omega) (by omega); omega⟩, ⟨hh_142.ra (by first | (simp only; omega) | omega) (by first | (simp only; omega) | omega) (M1 := [(r0, 16, 12, .int z_1), (r0, 16, 11, .int 2), (r0, 16, 15, .int pl), (r0, 16, 16, .int pb), (bn, 0, 3, .int cn), (bv, 0, 3, .int cv), (bn, 0, 0, .ref an), (bv, 0, 0, .ref av)]) [1, 0, 8, 9, 4, 6, 5, 7] rfl ht, hg_an, hg_av, jNk.rf, by rw [ht]; exact hh_142.2.2.2.2.2.2.2.1.sub [0, 1] rfl⟩⟩, by rw [ht]; try exact hh_142.1.1, fun q h9 hq => by rw [ht]; try exact hh_142.1.2.1 q h9 hq⟩) hh_142.1.2.2 dX14_headerByte_123
    · skip
      have c_4' : pm.toInt = 0 := jb_ne_n (rfl) ((by decide)) c_4
      refine lv_aload_n hx hb dX14_headerByte_29 rfl (lv_at hl 0 rfl) ?_
      refine j7_read hx hb hown hK (C := RX14) (T := TX14) (N := 74) rfl hly_16_13 hlk_26 (hh_2.at 1 rfl) dX14_headerByte_30 ?_
      refine lv_iconst (v := 0) hx hb dX14_headerByte_33 (by decide) ?_
      have hsz_144 := hh_2.2.2.2.2.2.1
      have htt_144 := hh_2.2.2.2.2.2.2.1
      refine W.room (fun hrc_144 hrs_144 => ?_)
      refine va_callv (A0 := jA base) (H0 := s.heap) (va_runV (As := [.int 0]) (rest := []) ⟨hx, hb, hml, hown, hts⟩ (uJ4_setLength_d00df l dC dI ca base B hB hAp hB0 hB198 G0 H_2 bn 0 cn an n_an) (cwV 1 hts (jgV (jWr_45 _ (List.mem_of_getElem? (i := 0) rfl)) (jWr_45 _ (List.mem_of_getElem? (i := 1) rfl)) (jWr_45 _ (List.mem_of_getElem? (i := 2) rfl)) (jWr_11 _ (List.mem_of_getElem? (i := 0) rfl)) (jWr_45 _ (List.mem_of_getElem? (i := 3) rfl))) rfl rfl rfl (by decide +kernel) ⟨by rw [← hR]; exact Nat.le_of_ble_eq_true rfl, by rw [← hR]; exact Nat.le_of_ble_eq_true rfl⟩) ⟨fun a U g mk q => by obtain ⟨q0, q1, q2, qK, q10, q11, q12, q13⟩ := q; exact ⟨q0, q1, q2, jG.calling g mk a qK, q10, q11, q12, q13⟩, hh_2.recv (C := RJ4) (T := TJ4) (N := 4) hB0 rfl (by decide) hg_bn hK, fun U hU hW => ⟨rfl, hU, hh_2.2.1, hG.step hW hU hh_2.1, hg_bn, hg_an, (hh_2.2.2.1.sub (L1 := [(bn, 0, 3, .int cn), (bn, 0, 0, .ref an)]) [3, 4] rfl), by first | omega | (refine ⟨?_, ?_, ?_⟩ <;> (first | omega | rfl | assumption | decide | exact Or.inl rfl | exact Or.inr rfl | (simp only; omega)))⟩⟩ rfl rfl hl.1 rfl (lv_room (Nat.le_of_ble_eq_true rfl)) dX14_headerByte_34 ⟨by rw [hRc]; show _ + 0 ≤ _; omega, by rw [hRs]; show _ + 0 ≤ _; omega⟩) hh_2.1 (fun q _ h => h) (fun q h => h) (fun u_144 t_144 H_144 locs_144 ht_144 hvm_144 hr_145 hb_144 hz_144 hk_144 hS_144 => ?_)
      obtain ⟨qc_144, rfl⟩ : ∃ z, z = u_144 := ⟨_, rfl⟩
      rw [ht_144] at hb_144
      obtain ⟨hb_144, hbO_144⟩ := hb_144
      obtain ⟨hb_1441, hb_1442, hb_1443, hb_1444, hb_1445⟩ := hb_144
      have hh_144 : jSt (dC, dI) B base G0 G0 EX14_headerByteC s.heap 0 0 [(bn, 0, 3, .int qc_144), (r0, 16, 12, .int z_1), (r0, 16, 13, .ref bn), (r0, 16, 14, .ref bv), (bn, 0, 0, .ref an), (bv, 0, 0, .ref av), (r0, 16, 11, .int pm), (r0, 16, 15, .int pl), (r0, 16, 16, .int pb)] [(an, 198, n_an, ca 0, fn), (av, 198, n_av, ca 0, fv)] [] H_144 locs_144 := ((hh_2.call hb_1441 hb_1442 hb_1443 hb_1444 hS_144 rfl (L1 := [(r0, 16, 12, .int z_1), (r0, 16, 13, .ref bn), (r0, 16, 14, .ref bv), (bn, 0, 0, .ref an), (bv, 0, 0, .ref av), (r0, 16, 11, .int pm), (r0, 16, 15, .int pl), (r0, 16, 16, .int pb)]) [0, 1, 2, 4, 6, 7, 8, 9] rfl rfl (M1 := [(an, 198, n_an, ca 0, fn), (av, 198, n_av, ca 0, fv)]) [0, 1] rfl rfl (I1 := []) [] rfl rfl).more hb_1445)
      have hh_146 := hh_144.more (P1 := [(bv, 0, 3, .int cv)]) (jP.cons hg_bv (hbO_144 _ _ _ _ (by first | assumption | exact Ne.symm (by assumption) | exact jnek hg_bv hg_bn (by decide)) hg_bv (hh_2.at 5 rfl)) jP.nil)
      clear hh_2 ht_144 hvm_144 hz_144 hk_144 hS_144 hb_1441 hb_1442 hb_1443 hb_1444 hb_1445
      refine lv_aload_n hx hb dX14_headerByte_37 rfl (lv_at hl 0 rfl) ?_
      refine j7_read hx hb hown hK (C := RX14) (T := TX14) (N := 74) rfl hly_16_14 hlk_30 (hh_146.at 4 rfl) dX14_headerByte_38 ?_
      refine lv_iconst (v := 0) hx hb dX14_headerByte_41 (by decide) ?_
      have hsz_147 := hh_146.2.2.2.2.2.1
      have htt_147 := hh_146.2.2.2.2.2.2.1
      refine W.room (fun hrc_147 hrs_147 => ?_)
      refine va_callv (A0 := jA base) (H0 := s.heap) (va_runV (As := [.int 0]) (rest := []) ⟨hx, hb, hml, hown, hts⟩ (uJ4_setLength_d00df l dC dI ca base B hB hAp hB0 hB198 G0 H_144 bv 0 cv av n_av) (cwV 1 hts (jgV (jWr_45 _ (List.mem_of_getElem? (i := 0) rfl)) (jWr_45 _ (List.mem_of_getElem? (i := 1) rfl)) (jWr_45 _ (List.mem_of_getElem? (i := 2) rfl)) (jWr_11 _ (List.mem_of_getElem? (i := 0) rfl)) (jWr_45 _ (List.mem_of_getElem? (i := 3) rfl))) rfl rfl rfl (by decide +kernel) ⟨by rw [← hR]; exact Nat.le_of_ble_eq_true rfl, by rw [← hR]; exact Nat.le_of_ble_eq_true rfl⟩) ⟨fun a U g mk q => by obtain ⟨q0, q1, q2, qK, q10, q11, q12, q13⟩ := q; exact ⟨q0, q1, q2, jG.calling g mk a qK, q10, q11, q12, q13⟩, hh_146.recv (C := RJ4) (T := TJ4) (N := 4) hB0 rfl (by decide) hg_bv hK, fun U hU hW => ⟨rfl, hU, hh_146.2.1, hG.step hW hU hh_146.1, hg_bv, hg_av, (hh_146.2.2.1.sub (L1 := [(bv, 0, 3, .int cv), (bv, 0, 0, .ref av)]) [0, 6] rfl), by first | omega | (refine ⟨?_, ?_, ?_⟩ <;> (first | omega | rfl | assumption | decide | exact Or.inl rfl | exact Or.inr rfl | (simp only; omega)))⟩⟩ rfl rfl hl.1 rfl (lv_room (Nat.le_of_ble_eq_true rfl)) dX14_headerByte_42 ⟨by rw [hRc]; show _ + 0 ≤ _; omega, by rw [hRs]; show _ + 0 ≤ _; omega⟩) hh_146.1 (fun q _ h => h) (fun q h => h) (fun u_147 t_147 H_147 locs_147 ht_147 hvm_147 hr_148 hb_147 hz_147 hk_147 hS_147 => ?_)
      obtain ⟨qc_147, rfl⟩ : ∃ z, z = u_147 := ⟨_, rfl⟩
      rw [ht_147] at hb_147
      obtain ⟨hb_147, hbO_147⟩ := hb_147
      obtain ⟨hb_1471, hb_1472, hb_1473, hb_1474, hb_1475⟩ := hb_147
      have hh_147 : jSt (dC, dI) B base G0 G0 EX14_headerByteC s.heap 0 0 [(bv, 0, 3, .int qc_147), (r0, 16, 12, .int z_1), (r0, 16, 13, .ref bn), (r0, 16, 14, .ref bv), (bn, 0, 0, .ref an), (bv, 0, 0, .ref av), (r0, 16, 11, .int pm), (r0, 16, 15, .int pl), (r0, 16, 16, .int pb)] [(an, 198, n_an, ca 0, fn), (av, 198, n_av, ca 0, fv)] [] H_147 locs_147 := ((hh_146.call hb_1471 hb_1472 hb_1473 hb_1474 hS_147 rfl (L1 := [(r0, 16, 12, .int z_1), (r0, 16, 13, .ref bn), (r0, 16, 14, .ref bv), (bn, 0, 0, .ref an), (bv, 0, 0, .ref av), (r0, 16, 11, .int pm), (r0, 16, 15, .int pl), (r0, 16, 16, .int pb)]) [2, 3, 4, 5, 6, 7, 8, 9] rfl rfl (M1 := [(an, 198, n_an, ca 0, fn), (av, 198, n_av, ca 0, fv)]) [0, 1] rfl rfl (I1 := []) [] rfl rfl).more hb_1475)
      have hh_149 := hh_147.more (P1 := [(bn, 0, 3, .int qc_144)]) (jP.cons hg_bn (hbO_147 _ _ _ _ (by first | assumption | exact Ne.symm (by assumption) | exact jnek hg_bn hg_bv (by decide)) hg_bn (hh_146.at 1 rfl)) jP.nil)
      clear hh_146 ht_147 hvm_147 hz_147 hk_147 hS_147 hb_1471 hb_1472 hb_1473 hb_1474 hb_1475
      refine lv_iload_n hx hb dX14_headerByte_45 rfl (lv_at hl 1 rfl) ?_
      refine lv_bipush (v := 13) hx hb dX14_headerByte_46 (by decide) ?_
      refine lv_icmp_ne (tgt := 69) hx hb dX14_headerByte_48 (by decide) (fun c_150 => ?_) (fun c_150 => ?_)
      · skip
        have c_150' : a1.toInt ≠ 13 := jb_ne (rfl) ((by decide)) c_150
        refine lv_aload_n hx hb dX14_headerByte_69 rfl (lv_at hl 0 rfl) ?_
        refine lv_iconst (v := 1) hx hb dX14_headerByte_70 (by decide) ?_
        refine j7_put hx hb hown hK hh_149 hB hAp hB16 (C := RX14) (T := TX14) (N := 74) rfl (by decide) hg_r0 (i := 11) (by decide) hly_16_11 rfl hlk_231 rfl (ty := .int) (v := .int 1) (by decide +kernel) rfl rfl (⟨_, rfl⟩) rfl (L1 := [(bn, 0, 3, .int qc_144), (bv, 0, 3, .int qc_147), (r0, 16, 12, .int z_1), (r0, 16, 13, .ref bn), (r0, 16, 14, .ref bv), (bn, 0, 0, .ref an), (bv, 0, 0, .ref av), (r0, 16, 15, .int pl), (r0, 16, 16, .int pb)]) [0, 1, 2, 3, 4, 5, 6, 8, 9] rfl rfl rfl dX14_headerByte_71 (fun H_151 locs_151 hh_151 => ?_)
        clear hh_149
        refine lv_aload_n hx hb dX14_headerByte_74 rfl (lv_at hl 0 rfl) ?_
        refine j7_read hx hb hown hK (C := RX14) (T := TX14) (N := 74) rfl hly_16_13 hlk_26 (hh_151.at 4 rfl) dX14_headerByte_75 ?_
        refine lv_iload_n hx hb dX14_headerByte_78 rfl (lv_at hl 1 rfl) ?_
        refine lv_i2c hx hb dX14_headerByte_79 rfl ?_
        refine lv_topi (fun z_152 ez_152 => ?_)
        have hic := jb_i2c (by assumption) hp16 hp17
        have hsz_153 := hh_151.2.2.2.2.2.1
        have htt_153 := hh_151.2.2.2.2.2.2.1
        refine W.room (fun hrc_153 hrs_153 => ?_)
        refine j_callx (A0 := jA base) (H0 := s.heap) (va_runV (As := [.int z_152]) (rest := []) ⟨hx, hb, hml, hown, hts⟩ (uJ4_append_cf468C l dC dI ca base B hB hAp hB0 hB198 G0 H_151 bn z_152 qc_144 an n_an fn av n_av fv LC LS) (cwV 1 hts (jgV (jWr_46 _ (List.mem_of_getElem? (i := 18) rfl)) (jWr_46 _ (List.mem_of_getElem? (i := 19) rfl)) (jWr_46 _ (List.mem_of_getElem? (i := 20) rfl)) (jWr_11 _ (List.mem_of_getElem? (i := 0) rfl)) (jWr_46 _ (List.mem_of_getElem? (i := 21) rfl))) rfl rfl rfl (by decide +kernel) ⟨by rw [← hR]; exact Nat.le_of_ble_eq_true rfl, by rw [← hR]; exact Nat.le_of_ble_eq_true rfl⟩) ⟨fun a U g mk q => by obtain ⟨q0, q1, q2, qK, q10, q11, q12, q13, q14⟩ := q; exact ⟨q0, q1, q2, jG.calling g mk a qK, q10, q11, q12, q13, q14⟩, hh_151.recv (C := RJ4) (T := TJ4) (N := 4) hB0 rfl (by decide) hg_bn hK, fun U hU hW => ⟨rfl, hU, hh_151.2.1, hG.step hW hU hh_151.1, hg_bn, hg_an, (hh_151.2.2.1.sub (L1 := [(bn, 0, 3, .int qc_144), (bn, 0, 0, .ref an)]) [1, 6] rfl), (hh_151.2.2.2.2.2.2.2.1.sub (L1 := [(an, 198, n_an, ca 0, fn), (av, 198, n_av, ca 0, fv)]) [0, 1] rfl), by first | omega | (refine ⟨?_, ?_, ?_, ?_, ?_, ?_, ?_⟩ <;> (first | omega | rfl | assumption | decide | exact Or.inl rfl | exact Or.inr rfl | (simp only; omega)))⟩⟩ rfl rfl hl.1 rfl (lv_room (Nat.le_of_ble_eq_true rfl)) dX14_headerByte_80 ⟨by rw [hRc]; omega, by rw [hRs]; omega⟩) hh_151.1 (fun q _ h => h) (fun q h => h) (fun r_154 u_153 t_153 H_153 locs_153 ht_153 hvm_153 hr_154 hb_153 hz_153 hk_153 hS_153 => ?_)
        obtain ⟨qc_153, qa_153, m_qa_153, gv_153, G_153⟩ := u_153
        rw [ht_153] at hb_153
        simp only at hb_153
        obtain ⟨⟨hb_1531, hb_1532, hb_1533, hb_1534, hb_1535, hb_1536⟩, hgq_153_0, hN_153, hbO_153, hbM_153⟩ := hb_153
        have hh_153 : jSt (dC, dI) B base G0 G_153 EX14_headerByteC s.heap (0 + (m_qa_153 - n_an)) (0 + (2 * (m_qa_153 - n_an))) [(bn, 0, 3, .int qc_153), (bn, 0, 0, .ref qa_153), (r0, 16, 11, .int 1), (r0, 16, 12, .int z_1), (r0, 16, 13, .ref bn), (r0, 16, 14, .ref bv), (r0, 16, 15, .int pl), (r0, 16, 16, .int pb)] [] [] H_153 locs_153 := (hh_151.callG hb_1531 hb_1532 hb_1533 hb_1534 hb_1535 hS_153 rfl (L1 := [(r0, 16, 11, .int 1), (r0, 16, 12, .int z_1), (r0, 16, 13, .ref bn), (r0, 16, 14, .ref bv), (r0, 16, 15, .int pl), (r0, 16, 16, .int pb)]) [0, 3, 4, 5, 8, 9] rfl rfl (M1 := []) [] rfl rfl (I1 := []) [] rfl rfl).more hb_1536
        have hNn_153 : (jNk [0, 1, 2, 3, 4, 5, 6, 7, 8, 9, 10, 11, 12, 13, 14, 15, 16, 17, 175]) G0 G_153 := (jNk.rf).tr hN_153
        have hg_155 := hb_1532 _ _ hg_r0
        have hg_156 := hb_1532 _ _ hg_bn
        have hg_157 := hb_1532 _ _ hg_bv
        have hh_158 := hh_153.moreM hbM_153
        have hh_159 := hh_158.more (P1 := [(bv, 0, 3, .int qc_147), (bv, 0, 0, .ref av)]) (jP.cons hg_157 (hbO_153 _ _ _ _ (by first | assumption | exact Ne.symm (by assumption) | exact jnek hg_bv hg_bn (by decide)) hg_bv (hh_151.at 2 rfl)) (jP.cons hg_157 (hbO_153 _ _ _ _ (by first | assumption | exact Ne.symm (by assumption) | exact jnek hg_bv hg_bn (by decide)) hg_bv (hh_151.at 7 rfl)) jP.nil))
        have hg_160 := hb_1532 _ _ hg_av
        obtain ⟨hr_154, hr_154p⟩ := hr_154
        try simp only at hr_154p
        obtain ⟨hr_154p_0, hr_154p_1, hr_154p_2, hr_154p_3, hr_154p_4, hr_154p_5, hr_154p_6⟩ := hr_154p
        obtain ⟨ret_161, rfl, hg_ret_161⟩ := hr_154
        have hg_162 := hb_1532 _ _ hg_ret_161
        refine lv_pop hx hb dX14_headerByte_83 rfl ?_
        refine lv_iload_n hx hb dX14_headerByte_84 rfl (lv_at hl 1 rfl) ?_
        have hsz_163 := hh_159.2.2.2.2.2.1
        have htt_163 := hh_159.2.2.2.2.2.2.1
        refine W.room (fun hrc_163 hrs_163 => ?_)
        refine va_calli (A0 := jA base) (H0 := s.heap) (va_runS (As := [.int a1]) (rest := []) ⟨hx, hb, hml, hown, hts⟩ (uX14_isLetterC l dC dI ca base B hB hAp G_153 H_153 a1) (va_cwS 1 hts (jgS (jWr_48 _ (List.mem_of_getElem? (i := 7) rfl)) (jWr_48 _ (List.mem_of_getElem? (i := 8) rfl)) (jWr_1 _ (List.mem_of_getElem? (i := 5) rfl)) (jWr_48 _ (List.mem_of_getElem? (i := 9) rfl))) rfl rfl rfl (by decide +kernel) ⟨by rw [← hR]; exact Nat.le_of_ble_eq_true rfl, by rw [← hR]; exact Nat.le_of_ble_eq_true rfl⟩) ⟨fun a U g mk q => by obtain ⟨q0, q1, q2, qK, q10, q11⟩ := q; exact ⟨q0, q1, q2, jG.calling g mk a qK, q10, q11⟩, fun U hU hW => ⟨rfl, hU, hh_159.2.1, hG.step hW hU hh_159.1, jP.nil, trivial⟩⟩ rfl rfl hl.1 rfl (lv_room (Nat.le_of_ble_eq_true rfl)) dX14_headerByte_85 ⟨by rw [hRc]; show _ + 0 ≤ _; omega, by rw [hRs]; show _ + 0 ≤ _; omega⟩) hh_159.1 (fun q _ h => h) (fun q h => h) (fun r_164 u_163 t_163 H_163 locs_163 ht_163 hvm_163 hr_164 hb_163 hz_163 hk_163 hS_163 => ?_)
        rw [ht_163] at hb_163
        obtain ⟨hb_1631, hb_1632, hb_1633, hb_1634, hb_1635⟩ := hb_163
        have hh_163 : jSt (dC, dI) B base G0 G_153 EX14_headerByteC s.heap (0 + (m_qa_153 - n_an)) (0 + (2 * (m_qa_153 - n_an))) [(bv, 0, 3, .int qc_147), (bv, 0, 0, .ref av), (bn, 0, 3, .int qc_153), (bn, 0, 0, .ref qa_153), (r0, 16, 11, .int 1), (r0, 16, 12, .int z_1), (r0, 16, 13, .ref bn), (r0, 16, 14, .ref bv), (r0, 16, 15, .int pl), (r0, 16, 16, .int pb)] [(qa_153, 198, m_qa_153, ca 0, gv_153), (av, 198, n_av, ca 0, fv)] [] H_163 locs_163 := ((hh_159.call hb_1631 hb_1632 hb_1633 hb_1634 hS_163 rfl (L1 := [(bv, 0, 3, .int qc_147), (bv, 0, 0, .ref av), (bn, 0, 3, .int qc_153), (bn, 0, 0, .ref qa_153), (r0, 16, 11, .int 1), (r0, 16, 12, .int z_1), (r0, 16, 13, .ref bn), (r0, 16, 14, .ref bv), (r0, 16, 15, .int pl), (r0, 16, 16, .int pb)]) [0, 1, 2, 3, 4, 5, 6, 7, 8, 9] rfl rfl (M1 := [(qa_153, 198, m_qa_153, ca 0, gv_153), (av, 198, n_av, ca 0, fv)]) [0, 1] rfl rfl (I1 := []) [] rfl rfl).more hb_1635)
        clear hh_159 ht_163 hvm_163 hz_163 hk_163 hS_163 hb_1631 hb_1632 hb_1633 hb_1634 hb_1635
        obtain ⟨hr_164b, hr_164p⟩ := hr_164
        have hr_164' := jb_01 hr_164b
        refine lv_if_ne (tgt := 97) hx hb dX14_headerByte_88 (by decide) (fun c_165 => ?_) (fun c_165 => ?_)
        · skip
          have c_165' : r_164.toInt ≠ 0 := jb_ne (rfl) ((by decide)) c_165
          first | (have hr_164pq := hr_164p.resolve_left (by omega); clear hr_164p) | (have hr_164pq := hr_164p.resolve_right (by omega); clear hr_164p) | try clear hr_164p
          refine lv_iconst (v := 1) hx hb dX14_headerByte_97 (by decide) ?_
          refine lv_goto (tgt := 102) hx hb dX14_headerByte_98 (by decide) ?_
          have hsz_166 := hh_163.2.2.2.2.2.1
          have htt_166 := hh_163.2.2.2.2.2.2.1
          refine W.room (fun hrc_166 hrs_166 => ?_)
          refine W.widen (k := LC - s.heap.size) (n := LS - jTot s.heap) (by omega) (by omega) ?_
          rw [hQ]
          exact W.zret (v := 1) hx hb hr (jb_nz (Or.inr rfl)) (fun t ht hW => ⟨⟨1, (z_1, 1, pl, pb, qc_153, qc_147, qa_153, m_qa_153, av, n_av, gv_153, fv, G_153), rfl, ⟨(Or.inr rfl), by skip; (try dsimp only); refine ⟨by omega, by omega, by omega, by omega, by omega, by omega, by omega, by omega, by omega, by omega, by omega, by omega, by omega, by omega, ?_, ?_⟩; exact jfHq.n0 hRE (by omega) (by omega) (by omega) (by omega) (by omega) (by omega) (by omega) (by omega) (n := qc_144.toInt) (by omega) (hr_154p_5.to (by omega)) (by omega) (by omega); omega⟩, ⟨hh_163.ra (by first | (simp only; omega) | omega) (by first | (simp only; omega) | omega) (M1 := [(r0, 16, 12, .int z_1), (r0, 16, 11, .int 1), (r0, 16, 15, .int pl), (r0, 16, 16, .int pb), (bn, 0, 3, .int qc_153), (bv, 0, 3, .int qc_147), (bn, 0, 0, .ref qa_153), (bv, 0, 0, .ref av)]) [5, 4, 8, 9, 2, 0, 3, 1] rfl ht, hgq_153_0, hg_160, hNn_153, by rw [ht]; exact hh_163.2.2.2.2.2.2.2.1.sub [0, 1] rfl⟩⟩, by rw [ht]; try exact hh_163.1.1, fun q h9 hq => by rw [ht]; try exact hh_163.1.2.1 q h9 hq⟩) hh_163.1.2.2 dX14_headerByte_102
        · skip
          have c_165' : r_164.toInt = 0 := jb_ne_n (rfl) ((by decide)) c_165
          first | (have hr_164pq := hr_164p.resolve_left (by omega); clear hr_164p) | (have hr_164pq := hr_164p.resolve_right (by omega); clear hr_164p) | try clear hr_164p
          refine lv_iload_n hx hb dX14_headerByte_91 rfl (lv_at hl 1 rfl) ?_
          refine lv_bipush (v := 45) hx hb dX14_headerByte_92 (by decide) ?_
          refine lv_icmp_ne (tgt := 101) hx hb dX14_headerByte_94 (by decide) (fun c_167 => ?_) (fun c_167 => ?_)
          · skip
            have c_167' : a1.toInt ≠ 45 := jb_ne (rfl) ((by decide)) c_167
            refine lv_iconst (v := 0) hx hb dX14_headerByte_101 (by decide) ?_
            have hsz_168 := hh_163.2.2.2.2.2.1
            have htt_168 := hh_163.2.2.2.2.2.2.1
            refine W.room (fun hrc_168 hrs_168 => ?_)
            refine W.widen (k := LC - s.heap.size) (n := LS - jTot s.heap) (by omega) (by omega) ?_
            rw [hQ]
            exact W.zret (v := 0) hx hb hr (jb_nz (Or.inl rfl)) (fun t ht hW => ⟨⟨0, (z_1, 1, pl, pb, qc_153, qc_147, qa_153, m_qa_153, av, n_av, gv_153, fv, G_153), rfl, ⟨(Or.inl rfl), by skip; (try dsimp only); refine ⟨by omega, by omega, by omega, by omega, by omega, by omega, by omega, by omega, by omega, by omega, by omega, by omega, by omega, by omega, ?_, ?_⟩; exact jfHq.n0 hRE (by omega) (by omega) (by omega) (by omega) (by omega) (by omega) (by omega) (by omega) (n := qc_144.toInt) (by omega) (hr_154p_5.to (by omega)) (by omega) (by omega); omega⟩, ⟨hh_163.ra (by first | (simp only; omega) | omega) (by first | (simp only; omega) | omega) (M1 := [(r0, 16, 12, .int z_1), (r0, 16, 11, .int 1), (r0, 16, 15, .int pl), (r0, 16, 16, .int pb), (bn, 0, 3, .int qc_153), (bv, 0, 3, .int qc_147), (bn, 0, 0, .ref qa_153), (bv, 0, 0, .ref av)]) [5, 4, 8, 9, 2, 0, 3, 1] rfl ht, hgq_153_0, hg_160, hNn_153, by rw [ht]; exact hh_163.2.2.2.2.2.2.2.1.sub [0, 1] rfl⟩⟩, by rw [ht]; try exact hh_163.1.1, fun q h9 hq => by rw [ht]; try exact hh_163.1.2.1 q h9 hq⟩) hh_163.1.2.2 dX14_headerByte_102
          · skip
            have c_167' : a1.toInt = 45 := jb_ne_n (rfl) ((by decide)) c_167
            refine lv_iconst (v := 1) hx hb dX14_headerByte_97 (by decide) ?_
            refine lv_goto (tgt := 102) hx hb dX14_headerByte_98 (by decide) ?_
            have hsz_169 := hh_163.2.2.2.2.2.1
            have htt_169 := hh_163.2.2.2.2.2.2.1
            refine W.room (fun hrc_169 hrs_169 => ?_)
            refine W.widen (k := LC - s.heap.size) (n := LS - jTot s.heap) (by omega) (by omega) ?_
            rw [hQ]
            exact W.zret (v := 1) hx hb hr (jb_nz (Or.inr rfl)) (fun t ht hW => ⟨⟨1, (z_1, 1, pl, pb, qc_153, qc_147, qa_153, m_qa_153, av, n_av, gv_153, fv, G_153), rfl, ⟨(Or.inr rfl), by skip; (try dsimp only); refine ⟨by omega, by omega, by omega, by omega, by omega, by omega, by omega, by omega, by omega, by omega, by omega, by omega, by omega, by omega, ?_, ?_⟩; exact jfHq.n0 hRE (by omega) (by omega) (by omega) (by omega) (by omega) (by omega) (by omega) (by omega) (n := qc_144.toInt) (by omega) (hr_154p_5.to (by omega)) (by omega) (by omega); omega⟩, ⟨hh_163.ra (by first | (simp only; omega) | omega) (by first | (simp only; omega) | omega) (M1 := [(r0, 16, 12, .int z_1), (r0, 16, 11, .int 1), (r0, 16, 15, .int pl), (r0, 16, 16, .int pb), (bn, 0, 3, .int qc_153), (bv, 0, 3, .int qc_147), (bn, 0, 0, .ref qa_153), (bv, 0, 0, .ref av)]) [5, 4, 8, 9, 2, 0, 3, 1] rfl ht, hgq_153_0, hg_160, hNn_153, by rw [ht]; exact hh_163.2.2.2.2.2.2.2.1.sub [0, 1] rfl⟩⟩, by rw [ht]; try exact hh_163.1.1, fun q h9 hq => by rw [ht]; try exact hh_163.1.2.1 q h9 hq⟩) hh_163.1.2.2 dX14_headerByte_102
      · skip
        have c_150' : a1.toInt = 13 := jb_ne_n (rfl) ((by decide)) c_150
        refine lv_aload_n hx hb dX14_headerByte_51 rfl (lv_at hl 0 rfl) ?_
        refine lv_iconst (v := 5) hx hb dX14_headerByte_52 (by decide) ?_
        refine j7_put hx hb hown hK hh_149 hB hAp hB16 (C := RX14) (T := TX14) (N := 74) rfl (by decide) hg_r0 (i := 11) (by decide) hly_16_11 rfl hlk_231 rfl (ty := .int) (v := .int 5) (by decide +kernel) rfl rfl (⟨_, rfl⟩) rfl (L1 := [(bn, 0, 3, .int qc_144), (bv, 0, 3, .int qc_147), (r0, 16, 12, .int z_1), (r0, 16, 13, .ref bn), (r0, 16, 14, .ref bv), (bn, 0, 0, .ref an), (bv, 0, 0, .ref av), (r0, 16, 15, .int pl), (r0, 16, 16, .int pb)]) [0, 1, 2, 3, 4, 5, 6, 8, 9] rfl rfl rfl dX14_headerByte_53 (fun H_170 locs_170 hh_170 => ?_)
        clear hh_149
        refine lv_aload_n hx hb dX14_headerByte_56 rfl (lv_at hl 0 rfl) ?_
        refine j7_read hx hb hown hK (C := RX14) (T := TX14) (N := 74) rfl hly_16_15 hlk_33 (hh_170.at 8 rfl) dX14_headerByte_57 ?_
        refine lv_if_lt (tgt := 67) hx hb dX14_headerByte_60 (by decide) (fun c_171 => ?_) (fun c_171 => ?_)
        · skip
          have c_171' : pl.toInt < 0 := jb_lt (rfl) ((by decide)) c_171
          refine lv_iconst (v := 0) hx hb dX14_headerByte_67 (by decide) ?_
          have hsz_172 := hh_170.2.2.2.2.2.1
          have htt_172 := hh_170.2.2.2.2.2.2.1
          refine W.room (fun hrc_172 hrs_172 => ?_)
          refine W.widen (k := LC - s.heap.size) (n := LS - jTot s.heap) (by omega) (by omega) ?_
          rw [hQ]
          exact W.zret (v := 0) hx hb hr (jb_nz (Or.inl rfl)) (fun t ht hW => ⟨⟨0, (z_1, 5, pl, pb, qc_144, qc_147, an, n_an, av, n_av, fn, fv, G0), rfl, ⟨(Or.inl rfl), by skip; (try dsimp only); refine ⟨by omega, by omega, by omega, by omega, by omega, by omega, by omega, by omega, by omega, by omega, by omega, by omega, by omega, by omega, ?_, ?_⟩; exact jfHq.r0 hRE (by omega) (by omega) (by omega) (by omega) (by omega) (by omega) (by omega); omega⟩, ⟨hh_170.ra (by first | (simp only; omega) | omega) (by first | (simp only; omega) | omega) (M1 := [(r0, 16, 12, .int z_1), (r0, 16, 11, .int 5), (r0, 16, 15, .int pl), (r0, 16, 16, .int pb), (bn, 0, 3, .int qc_144), (bv, 0, 3, .int qc_147), (bn, 0, 0, .ref an), (bv, 0, 0, .ref av)]) [3, 0, 8, 9, 1, 2, 6, 7] rfl ht, hg_an, hg_av, jNk.rf, by rw [ht]; exact hh_170.2.2.2.2.2.2.2.1.sub [0, 1] rfl⟩⟩, by rw [ht]; try exact hh_170.1.1, fun q h9 hq => by rw [ht]; try exact hh_170.1.2.1 q h9 hq⟩) hh_170.1.2.2 dX14_headerByte_68
        · skip
          have c_171' : pl.toInt ≥ 0 := jb_lt_n (rfl) ((by decide)) c_171
          refine lv_iconst (v := 1) hx hb dX14_headerByte_63 (by decide) ?_
          refine lv_goto (tgt := 68) hx hb dX14_headerByte_64 (by decide) ?_
          have hsz_173 := hh_170.2.2.2.2.2.1
          have htt_173 := hh_170.2.2.2.2.2.2.1
          refine W.room (fun hrc_173 hrs_173 => ?_)
          refine W.widen (k := LC - s.heap.size) (n := LS - jTot s.heap) (by omega) (by omega) ?_
          rw [hQ]
          exact W.zret (v := 1) hx hb hr (jb_nz (Or.inr rfl)) (fun t ht hW => ⟨⟨1, (z_1, 5, pl, pb, qc_144, qc_147, an, n_an, av, n_av, fn, fv, G0), rfl, ⟨(Or.inr rfl), by skip; (try dsimp only); refine ⟨by omega, by omega, by omega, by omega, by omega, by omega, by omega, by omega, by omega, by omega, by omega, by omega, by omega, by omega, ?_, ?_⟩; exact jfHq.r0 hRE (by omega) (by omega) (by omega) (by omega) (by omega) (by omega) (by omega); omega⟩, ⟨hh_170.ra (by first | (simp only; omega) | omega) (by first | (simp only; omega) | omega) (M1 := [(r0, 16, 12, .int z_1), (r0, 16, 11, .int 5), (r0, 16, 15, .int pl), (r0, 16, 16, .int pb), (bn, 0, 3, .int qc_144), (bv, 0, 3, .int qc_147), (bn, 0, 0, .ref an), (bv, 0, 0, .ref av)]) [3, 0, 8, 9, 1, 2, 6, 7] rfl ht, hg_an, hg_av, jNk.rf, by rw [ht]; exact hh_170.2.2.2.2.2.2.2.1.sub [0, 1] rfl⟩⟩, by rw [ht]; try exact hh_170.1.1, fun q h9 hq => by rw [ht]; try exact hh_170.1.2.1 q h9 hq⟩) hh_170.1.2.2 dX14_headerByte_68
  · skip
    have c_3' : z_1.toInt > 200 := jb_le_n (rfl) ((by decide)) c_3
    refine lv_iconst (v := 0) hx hb dX14_headerByte_20 (by decide) ?_
    have hsz_174 := hh_2.2.2.2.2.2.1
    have htt_174 := hh_2.2.2.2.2.2.2.1
    refine W.room (fun hrc_174 hrs_174 => ?_)
    refine W.widen (k := LC - s.heap.size) (n := LS - jTot s.heap) (by omega) (by omega) ?_
    rw [hQ]
    exact W.zret (v := 0) hx hb hr (jb_nz (Or.inl rfl)) (fun t ht hW => ⟨⟨0, (z_1, pm, pl, pb, cn, cv, an, n_an, av, n_av, fn, fv, G0), rfl, ⟨(Or.inl rfl), by skip; (try dsimp only); refine ⟨by omega, by omega, by omega, by omega, by omega, by omega, by omega, by omega, by omega, by omega, by omega, by omega, by omega, by omega, ?_, ?_⟩; exact jfHq.big hRE (by omega) (by omega) (by omega); omega⟩, ⟨hh_2.ra (by first | (simp only; omega) | omega) (by first | (simp only; omega) | omega) (M1 := [(r0, 16, 12, .int z_1), (r0, 16, 11, .int pm), (r0, 16, 15, .int pl), (r0, 16, 16, .int pb), (bn, 0, 3, .int cn), (bv, 0, 3, .int cv), (bn, 0, 0, .ref an), (bv, 0, 0, .ref av)]) [0, 7, 8, 9, 3, 5, 4, 6] rfl ht, hg_an, hg_av, jNk.rf, by rw [ht]; exact hh_2.2.2.2.2.2.2.2.1.sub [0, 1] rfl⟩⟩, by rw [ht]; try exact hh_2.1.1, fun q h9 hq => by rw [ht]; try exact hh_2.1.2.1 q h9 hq⟩) hh_2.1.2.2 dX14_headerByte_21
end
