section
-- texts whose bytes are known: charAt, isText and member as functions
theorem jStrT.F {base a n : Nat} {tx : String} {U : State} {H : Heap} (h : jStrT base a tx U H) (hn : tx.length = n) : jStrF base a n (jChT tx) U H := by
  subst hn
  obtain ⟨h1, h2, v, h3, h4⟩ := h
  exact ⟨h1, h2, v, h3, h4⟩
def jCv (x : Int32) : Int32 := ((x &&& 255).toUInt32 % 65536).toInt32
def jTx (fp f : Nat → Int32) (a : Int) : Nat → Int
  | 0 => 1
  | n + 1 => if jSo fp (a + n) = (jCv (f n)).toInt then jTx fp f a n else 0
theorem jTx_0 {fp f : Nat → Int32} {a : Int} {m n : Nat} (h : m < n) (he : jSo fp (a + m) ≠ (jCv (f m)).toInt) : jTx fp f a n = 0 := by
  induction n with
  | zero => omega
  | succ n ih =>
    have e : jTx fp f a (n + 1) = if jSo fp (a + n) = (jCv (f n)).toInt then jTx fp f a n else 0 := rfl
    rw [e]
    by_cases q : m = n
    · subst q; rw [if_neg he]
    · split
      · exact ih (by omega)
      · rfl
theorem jTx_1 {fp f : Nat → Int32} {a : Int} {m : Nat} (h : jTx fp f a m = 1) (he : jSo fp (a + m) = (jCv (f m)).toInt) : jTx fp f a (m + 1) = 1 := by
  have e : jTx fp f a (m + 1) = if jSo fp (a + m) = (jCv (f m)).toInt then jTx fp f a m else 0 := rfl
  rw [e, if_pos he]; exact h
def jIT (fp f : Nat → Int32) (n : Nat) (a b : Int) : Int := if b - a = n then jTx fp f a n else 0
def jMn (nf nt nx fp f : Nat → Int32) (n : Nat) : Nat → Int → Int → Int
  | 0, _, c => c
  | k + 1, m, c => if m < 0 then c else jMn nf nt nx fp f n k (jSo nx m) (if jIT fp f n (jSo nf m) (jSo nt m) = 0 then c else m)
theorem jMn_s {nf nt nx fp f : Nat → Int32} {n k : Nat} {m c m1 c1 : Int} (hk : 0 < k) (hm : 0 ≤ m) (e1 : m1 = jSo nx m) (e2 : (jIT fp f n (jSo nf m) (jSo nt m) = 0 ∧ c1 = c) ∨ (jIT fp f n (jSo nf m) (jSo nt m) ≠ 0 ∧ c1 = m)) : jMn nf nt nx fp f n (k - 1) m1 c1 = jMn nf nt nx fp f n k m c := by
  cases k with
  | zero => omega
  | succ k =>
    have e : jMn nf nt nx fp f n (k + 1) m c = if m < 0 then c else jMn nf nt nx fp f n k (jSo nx m) (if jIT fp f n (jSo nf m) (jSo nt m) = 0 then c else m) := rfl
    rw [e, if_neg (by omega), ← e1]
    rcases e2 with ⟨q, rfl⟩ | ⟨q, rfl⟩
    · rw [if_pos q]; rfl
    · rw [if_neg q]; rfl
theorem jMn_e {nf nt nx fp f : Nat → Int32} {n k : Nat} {m c r : Int} (hk : 0 < k) (hm : m < 0) (e : r = c) : r = jMn nf nt nx fp f n k m c := by
  cases k with
  | zero => omega
  | succ k =>
    have e1 : jMn nf nt nx fp f n (k + 1) m c = if m < 0 then c else jMn nf nt nx fp f n k (jSo nx m) (if jIT fp f n (jSo nf m) (jSo nt m) = 0 then c else m) := rfl
    rw [e1, if_pos hm, e]
/-- the member of node a that the text f of length n names; -1 when there is none -/
def jMb (so hr nf nt nx fp f : Nat → Int32) (n : Nat) (a : Int) : Int := if a < 0 ∨ jSo so a ≠ 6 then -1 else jMn nf nt nx fp f n 3102 (jSo hr a) (-1)
set_option maxHeartbeats 4000000 in
set_option maxRecDepth 20000 in
theorem eJ1_charAt_3b067 (l : Launch) (dC : Nat → ClassId) (dI : Nat → Nat → Nat) (ca : Nat → ClassId) (base : Nat) (H0 : Heap) (h0 n : Nat) (f : Nat → Int32) (a1 : Int32) : Met l yJ1_charAt_3b067 (jw yJ1_charAt_3b067 cJ1_charAt_3b067 2 (some .char)) ({ frames := 2, cells := 0, slots := 0, locals := 80 }) (va_Pc [.ref h0, .int a1] (fun U => U.heap = H0 ∧ va_T .byte h0 n (fun j => .int (f j)) (jA base) U H0 ∧ jG dC dI ca base U ∧ (n < 2147483648 ∧ 0 ≤ a1.toInt ∧ a1.toInt < n))) (vp_Si (fun r => r = jCv (f a1.toInt.toNat))) 0 0 (fun _ => False) := by
  refine Met.ofW (cc := cJ1_charAt_3b067) (maxL := 2) (ret := (some .char)) (by decide) rfl ?_
  intro p e s m args below meth c s₁ B hml hv
  obtain ⟨rfl, hH0, hsa_h0, hG, hp1, hp2, hp3⟩ := hv
  have hK := hG.1
  have hx := B.exec
  have hb := B.bytes
  have hr := B.returns
  have hts := atoms_spec (ws := (jw yJ1_charAt_3b067 cJ1_charAt_3b067 2 (some .char))) B.pre
  have htw : ∀ w ∈ jWl, w.before _ s = true := fun w h => hts w (List.mem_cons_of_mem _ h)
  have hown : s.vm.findClass RJ1 = some m.cls := findClass_of_methodNamed B.named
  have hlocks := B.notSynchronized
  obtain ⟨Q, hQ⟩ : ∃ Q, Q = MQ below (vp_Si (fun r => r = jCv (f a1.toInt.toNat))) ([.ref h0, .int a1] : List Value).toArray s 0 0 (fun _ => False) := ⟨_, rfl⟩
  rw [← hQ]
  have hl := lv_entry ([.ref h0, .int a1]) (n := 2) (Nat.le_of_ble_eq_true rfl)
  rw [lg_entry_eq]
  generalize (lg_sl ([.ref h0, .int a1]) ++ List.replicate (2 - (lg_sl ([.ref h0, .int a1])).length) Slot.unset).toArray = ls at hl ⊢
  have hl : lv_has ls 2 [(0, .ref h0), (1, .int a1)] := hl
  generalize hR : (headSpec (jw yJ1_charAt_3b067 cJ1_charAt_3b067 2 (some .char)) ({ frames := 2, cells := 0, slots := 0, locals := 80 })).room = R
  subst hH0
  have hS : va_S (jA base) s.heap s.heap [] := va_S.rf
  have hk0 : (0 : Int32).toInt = 0 := by decide
  have hk1 : (1 : Int32).toInt = 1 := by decide
  have hk255 : (255 : Int32).toInt = 255 := by decide
  refine lv_iload_n hx hb dJ1_charAt_3b067_0 rfl (lv_at hl 1 rfl) ?_
  refine lv_aload_n hx hb dJ1_charAt_3b067_1 rfl (lv_at hl 0 rfl) ?_
  refine va_tlen hx hb hsa_h0 hS (v := Int32.ofNat n) rfl dJ1_charAt_3b067_2 ?_
  refine lv_topi (fun z_1 ez_1 => ?_)
  have hz_1 : z_1.toInt = n := by rw [ez_1]; exact jb_nat (by omega)
  refine va_csv (W.runS (As := [.int a1, .int z_1]) (rest := []) ⟨hx, hb, hml, hown, hts⟩ (wJ0_checkIndex_df160 l dC dI ca base s.heap a1 z_1) (va_cwS 2 hts (jgS (jWr_6 _ (List.mem_of_getElem? (i := 12) rfl)) (jWr_6 _ (List.mem_of_getElem? (i := 13) rfl)) (jWr_5 _ (List.mem_of_getElem? (i := 15) rfl)) (jWr_6 _ (List.mem_of_getElem? (i := 14) rfl))) rfl rfl rfl (by decide +kernel) ⟨by rw [← hR]; exact Nat.le_of_ble_eq_true rfl, by rw [← hR]; exact Nat.le_of_ble_eq_true rfl⟩) ⟨fun a U g mk q => by obtain ⟨q0, q1, qK, q9⟩ := q; exact ⟨q0, q1, jG.calling g mk a qK, q9⟩, fun U hU hW => ⟨rfl, hU, hG.step hW hU hS, by first | trivial | omega | (constructor <;> omega)⟩⟩ rfl rfl hl.1 rfl (lv_room (Nat.le_of_ble_eq_true rfl)) dJ1_charAt_3b067_3 ⟨Nat.zero_le _, Nat.zero_le _⟩) (fun _ => ?_)
  refine lv_aload_n hx hb dJ1_charAt_3b067_6 rfl (lv_at hl 0 rfl) ?_
  refine lv_iload_n hx hb dJ1_charAt_3b067_7 rfl (lv_at hl 1 rfl) ?_
  refine va_tb hx hb hsa_h0 hS (jb_in (rfl) (by omega) (by omega)) rfl dJ1_charAt_3b067_8 ?_
  refine lv_topi (fun z_3 ez_3 => ?_)
  refine lv_sipush (v := 255) hx hb dJ1_charAt_3b067_9 (by decide) ?_
  refine lv_iand hx hb dJ1_charAt_3b067_12 ?_
  refine lv_topi (fun z_4 ez_4 => ?_)
  have hz_4 : 0 ≤ z_4.toInt ∧ z_4.toInt ≤ 255 := by rw [ez_4]; exact jb_and z_3 (m := 255) (k := 8) (by decide) (by decide)
  refine lv_i2c hx hb dJ1_charAt_3b067_13 rfl ?_
  refine lv_topi (fun z_5 ez_5 => ?_)
  rw [hQ]
  exact W.zret (v := z_5) hx hb hr (by rw [ez_5]; exact pk_nc _) (fun t ht hW => ⟨z_5, rfl, by show z_5 = jCv (f a1.toInt.toNat); rw [← jb_cl (x := a1) rfl (by omega), ez_5, ez_4, ez_3]; rfl, ht⟩) (fun _ h => nomatch h) dJ1_charAt_3b067_14
set_option maxHeartbeats 4000000 in
set_option maxRecDepth 20000 in
theorem eJ0_charAt_5068e (l : Launch) (dC : Nat → ClassId) (dI : Nat → Nat → Nat) (ca : Nat → ClassId) (base : Nat) (H0 : Heap) (h0 n : Nat) (f : Nat → Int32) (a1 : Int32) : Met l yJ0_charAt_5068e (jw yJ0_charAt_5068e cJ0_charAt_5068e 2 (some .char)) ({ frames := 3, cells := 0, slots := 0, locals := 120 }) (va_Pc [.ref h0, .int a1] (fun U => U.heap = H0 ∧ jStrF base h0 n f U H0 ∧ jG dC dI ca base U ∧ (n < 2147483648 ∧ 0 ≤ a1.toInt ∧ a1.toInt < n))) (vp_Si (fun r => r = jCv (f a1.toInt.toNat))) 0 0 (fun _ => False) := by
  refine Met.ofW (cc := cJ0_charAt_5068e) (maxL := 2) (ret := (some .char)) (by decide) rfl ?_
  intro p e s m args below meth c s₁ B hml hv
  obtain ⟨rfl, hH0, hsF, hG, hp1, hp2, hp3⟩ := hv
  have hstr_h0 := hsF.str
  have hK := hG.1
  have hx := B.exec
  have hb := B.bytes
  have hr := B.returns
  have hts := atoms_spec (ws := (jw yJ0_charAt_5068e cJ0_charAt_5068e 2 (some .char))) B.pre
  have htw : ∀ w ∈ jWl, w.before _ s = true := fun w h => hts w (List.mem_cons_of_mem _ h)
  have hown : s.vm.findClass RJ0 = some m.cls := findClass_of_methodNamed B.named
  have hlocks := B.notSynchronized
  obtain ⟨Q, hQ⟩ : ∃ Q, Q = MQ below (vp_Si (fun r => r = jCv (f a1.toInt.toNat))) ([.ref h0, .int a1] : List Value).toArray s 0 0 (fun _ => False) := ⟨_, rfl⟩
  rw [← hQ]
  have hl := lv_entry ([.ref h0, .int a1]) (n := 2) (Nat.le_of_ble_eq_true rfl)
  rw [lg_entry_eq]
  generalize (lg_sl ([.ref h0, .int a1]) ++ List.replicate (2 - (lg_sl ([.ref h0, .int a1])).length) Slot.unset).toArray = ls at hl ⊢
  have hl : lv_has ls 2 [(0, .ref h0), (1, .int a1)] := hl
  generalize hR : (headSpec (jw yJ0_charAt_5068e cJ0_charAt_5068e 2 (some .char)) ({ frames := 3, cells := 0, slots := 0, locals := 120 })).room = R
  subst hH0
  have hS : va_S (jA base) s.heap s.heap [] := va_S.rf
  have hk0 : (0 : Int32).toInt = 0 := by decide
  have hk1 : (1 : Int32).toInt = 1 := by decide
  refine lv_aload_n hx hb dJ0_charAt_5068e_0 rfl (lv_at hl 0 rfl) ?_
  refine vp_callSi (W.runV (As := []) (rest := []) ⟨hx, hb, hml, hown, hts⟩ (wJ0_isLatin1_aae02 l dC dI ca base s.heap h0 n) (cwV 0 hts (jgV (jWr_6 _ (List.mem_of_getElem? (i := 4) rfl)) (jWr_6 _ (List.mem_of_getElem? (i := 5) rfl)) (jWr_6 _ (List.mem_of_getElem? (i := 6) rfl)) (jWr_5 _ (List.mem_of_getElem? (i := 15) rfl)) (jWr_6 _ (List.mem_of_getElem? (i := 7) rfl))) rfl rfl rfl (by decide +kernel) ⟨by rw [← hR]; exact Nat.le_of_ble_eq_true rfl, by rw [← hR]; exact Nat.le_of_ble_eq_true rfl⟩) ⟨fun a U g mk q => by obtain ⟨q0, q1, q2, qK, q9⟩ := q; exact ⟨q0, q1, (q2.moved (Vm.Alike.refl U.vm)), jG.calling g mk a qK, q9⟩, jStr_recv hstr_h0 hS, fun U hU hW => ⟨rfl, hU, (hstr_h0.moved hW.alike).kept hS.2.1, hG.step hW hU hS, by omega⟩⟩ rfl rfl hl.1 rfl (lv_room (Nat.le_of_ble_eq_true rfl)) dJ0_charAt_5068e_1 ⟨Nat.zero_le _, Nat.zero_le _⟩) (fun r_1 hr_1 => ?_)
  subst hr_1
  refine lv_if_eq (tgt := 16) hx hb dJ0_charAt_5068e_4 (by decide) (fun c_2 => ?_) (fun c_2 => ?_)
  · skip
    exact absurd c_2 (by decide)
  · skip
    refine lv_aload_n hx hb dJ0_charAt_5068e_7 rfl (lv_at hl 0 rfl) ?_
    obtain ⟨sv_3, gsv_3, hsv_3⟩ := hsF.2.2
    refine vk_getf hx hb gsv_3 hS hown (htw (.fieldLink RJ0 9 "java/lang/String" "value" "[B") (jWr_5 _ (List.mem_of_getElem? (i := 17) rfl))) (fun _ h9 => h9) dJ0_charAt_5068e_8 ?_
    refine lv_iload_n hx hb dJ0_charAt_5068e_11 rfl (lv_at hl 1 rfl) ?_
    refine vp_callSi (W.runS (As := [.ref sv_3, .int a1]) (rest := []) ⟨hx, hb, hml, hown, hts⟩ (eJ1_charAt_3b067 l dC dI ca base s.heap sv_3 n f a1) (va_cwS 2 hts (jgS (jWr_6 _ (List.mem_of_getElem? (i := 8) rfl)) (jWr_6 _ (List.mem_of_getElem? (i := 9) rfl)) (jWr_6 _ (List.mem_of_getElem? (i := 10) rfl)) (jWr_6 _ (List.mem_of_getElem? (i := 11) rfl))) rfl rfl rfl (by decide +kernel) ⟨by rw [← hR]; exact Nat.le_of_ble_eq_true rfl, by rw [← hR]; exact Nat.le_of_ble_eq_true rfl⟩) ⟨fun a U g mk q => by obtain ⟨q0, q1, q2, qK, q9⟩ := q; exact ⟨q0, q1, (q2.moved (Vm.Alike.refl U.vm)), jG.calling g mk a qK, q9⟩, fun U hU hW => ⟨rfl, hU, (hsv_3.moved hW.alike).kept hS.2.1, hG.step hW hU hS, ⟨by omega, by omega, by omega⟩⟩⟩ rfl rfl hl.1 rfl (lv_room (Nat.le_of_ble_eq_true rfl)) dJ0_charAt_5068e_12 ⟨Nat.zero_le _, Nat.zero_le _⟩) (fun r_4 hr_4 => ?_)
    rw [hQ]
    exact W.zret (v := r_4) hx hb hr (by rw [hr_4]; exact jb_nch (jb_char _).1 (jb_char _).2) (fun t ht hW => ⟨r_4, rfl, hr_4, ht⟩) (fun _ h => nomatch h) dJ0_charAt_5068e_15
end
section
def EX14_isTextK : List (Nat × Nat) := []
set_option maxHeartbeats 4000000 in
set_option maxRecDepth 20000 in
theorem uX14_isTextK (l : Launch) (dC : Nat → ClassId) (dI : Nat → Nat → Nat) (ca : Nat → ClassId) (base : Nat) (B : jF) (hB : jBok B) (hAp : jAp (dC, dI)) (hB16 : ∀ n G a H, B 16 n G a H ↔ jOb (dC, dI) 16 74 (F16 n G) a H) (hB127 : ∀ n G a H, B 127 n G a H ↔ jAr (dC, dI) (ca 1) (fun j z => True) n a H) (G0 : jT) (H0 : Heap) (r0 : Nat) (a1 : Int32) (a2 : Int32) (r3 : Nat) (n3 : Nat) (f3 : Nat → Int32) (xp : Nat) (mp : Nat → Int32) : Met l yX14_isText (jw yX14_isText cX14_isText 5 (some .boolean)) ({ frames := 4, cells := 0, slots := 0, locals := 141 }) (va_Pc [.ref r0, .int a1, .int a2, .ref r3] (fun U => U.heap = H0 ∧ jX B base G0 [] H0 ∧ jG dC dI ca base U ∧ jStrF base r3 n3 f3 U H0 ∧ G0 r0 = some (16, 0) ∧ G0 xp = some (127, 3300) ∧ jP (dC, dI) G0 H0 [(r0, 16, 27, .ref xp)] ∧ jMc (dC, dI) G0 H0 [(xp, 127, 3300, ca 1, mp)] ∧ 0 ≤ a1.toInt ∧ a2.toInt ≤ 3300 ∧ a1.toInt ≤ 3300 ∧ 0 ≤ a2.toInt ∧ n3 < 2147483648)) (va_Qi (S := Unit) (fun r u => (r = 0 ∨ r = 1) ∧ (r.toInt = jIT mp f3 n3 a1.toInt a2.toInt)) (fun u t => jRt (dC, dI) B base G0 EX14_isTextK H0 [] t.heap) (jA base)) 0 0 (jA base) := by
  refine Met.ofW (cc := cX14_isText) (maxL := 5) (ret := (some .boolean)) (by decide) rfl ?_
  intro p e s m args below meth c s₁ Bd hml hv
  obtain ⟨rfl, hH0, hX, hG, hstrF_r3, hg_r0, hg_xp, hP0, hM0, hp0, hp1, hp2, hp3, hp4⟩ := hv
  have hK := hG.1
  have hx := Bd.exec
  have hb := Bd.bytes
  have hr := Bd.returns
  have hts := atoms_spec (ws := (jw yX14_isText cX14_isText 5 (some .boolean))) Bd.pre
  have htw : ∀ w ∈ jWl, w.before _ s = true := fun w h => hts w (List.mem_cons_of_mem _ h)
  have hown : s.vm.findClass RX14 = some m.cls := findClass_of_methodNamed Bd.named
  have hlocks := Bd.notSynchronized
  obtain ⟨Q, hQ⟩ : ∃ Q, Q = MQ below (va_Qi (S := Unit) (fun r u => (r = 0 ∨ r = 1) ∧ (r.toInt = jIT mp f3 n3 a1.toInt a2.toInt)) (fun u t => jRt (dC, dI) B base G0 EX14_isTextK H0 [] t.heap) (jA base)) ([.ref r0, .int a1, .int a2, .ref r3] : List Value).toArray s 0 0 (jA base) := ⟨_, rfl⟩
  rw [← hQ]
  have hl := lv_entry ([.ref r0, .int a1, .int a2, .ref r3]) (n := 5) (Nat.le_of_ble_eq_true rfl)
  rw [lg_entry_eq]
  generalize (lg_sl ([.ref r0, .int a1, .int a2, .ref r3]) ++ List.replicate (5 - (lg_sl ([.ref r0, .int a1, .int a2, .ref r3])).length) Slot.unset).toArray = ls at hl ⊢
  have hstr_r3 := hstrF_r3.str
  have hl : lv_has ls 5 [(0, .ref r0), (1, .int a1), (2, .int a2), (3, .ref r3)] := hl
  generalize hR : (headSpec (jw yX14_isText cX14_isText 5 (some .boolean)) ({ frames := 4, cells := 0, slots := 0, locals := 141 })).room = R
  subst hH0
  have hh : jSt (dC, dI) B base G0 G0 EX14_isTextK s.heap 0 0 [(r0, 16, 27, .ref xp)] [(xp, 127, 3300, ca 1, mp)] [] s.heap [] := jSt.start hX hP0 hM0 jIs.nil
  clear hX hP0
  have hk0 : (0 : Int32).toInt = 0 := by decide
  have hk1 : (1 : Int32).toInt = 1 := by decide
  have hly_16_27 := htw (u_lay RX14 TX14 27) (jWc_wsX140 _ (u_in_lay (by decide)))
  have hlk_65 := (htw (.fieldLink RX14 65 "ProofServerModel" "pool" "[I") (jWr_11 _ (List.mem_of_getElem? (i := 14) rfl)))
  have hrg_a1 := jb_rng a1
  have hrg_a2 := jb_rng a2
  refine lv_iload_n hx hb dX14_isText_0 rfl (lv_at hl 2 rfl) ?_
  refine lv_iload_n hx hb dX14_isText_1 rfl (lv_at hl 1 rfl) ?_
  refine lv_isub hx hb dX14_isText_2 ?_
  refine lv_topi (fun z_1 ez_1 => ?_)
  have hz_1 : z_1.toInt = a2.toInt - a1.toInt := by rw [ez_1]; exact jb_isub2 (rfl) (rfl) (by omega)
  refine lv_aload_n hx hb dX14_isText_3 rfl (lv_at hl 3 rfl) ?_
  refine vp_callSi (W.runV (As := []) (rest := [.int z_1]) ⟨hx, hb, hml, hown, hts⟩ (wJ0_length_8abf5 l dC dI ca base s.heap r3 n3) (cwV 0 hts (jgV (jWr_49 _ (List.mem_of_getElem? (i := 1) rfl)) (jWr_5 _ (List.mem_of_getElem? (i := 13) rfl)) (jWr_5 _ (List.mem_of_getElem? (i := 14) rfl)) (jWr_5 _ (List.mem_of_getElem? (i := 15) rfl)) (jWr_5 _ (List.mem_of_getElem? (i := 16) rfl))) rfl rfl rfl (by decide +kernel) ⟨by rw [← hR]; exact Nat.le_of_ble_eq_true rfl, by rw [← hR]; exact Nat.le_of_ble_eq_true rfl⟩) ⟨fun a U g mk q => by obtain ⟨q0, q1, q2, qK, q9⟩ := q; exact ⟨q0, q1, (q2.moved (Vm.Alike.refl U.vm)), jG.calling g mk a qK, q9⟩, jStr_recv hstr_r3 hh.1, fun U hU hW => ⟨rfl, hU, (hstr_r3.moved hW.alike).kept hh.1.2.1, hG.step hW hU hh.1, by omega⟩⟩ rfl rfl hl.1 rfl (lv_room (Nat.le_of_ble_eq_true rfl)) dX14_isText_4 ⟨Nat.zero_le _, Nat.zero_le _⟩) (fun r_2 hr_2 => ?_)
  refine lv_icmp_eq (tgt := 12) hx hb dX14_isText_7 (by decide) (fun c_3 => ?_) (fun c_3 => ?_)
  · skip
    have c_3' : z_1.toInt = r_2.toInt := jb_eq (rfl) (rfl) c_3
    refine lv_iconst (v := 0) hx hb dX14_isText_12 (by decide) ?_
    refine lv_istore (lv' := [(4, .int 0), (0, .ref r0), (1, .int a1), (2, .int a2), (3, .ref r3)]) hx hb dX14_isText_13 hl (by decide) rfl (fun ls hl => ?_)
    have L15 : ∀ (N : Nat) (v4_4 : Int32) (H_4 : Heap) (locs_4 : List Loc), jSt (dC, dI) B base G0 G0 EX14_isTextK s.heap 0 0 [(r0, 16, 27, .ref xp)] [(xp, 127, 3300, ca 1, mp)] [] H_4 locs_4 → (0 ≤ v4_4.toInt ∧ v4_4.toInt ≤ n3 ∧ jTx mp f3 a1.toInt (v4_4.toInt).toNat = 1) → (n3 - v4_4.toInt : Int) < N → ∀ ls : Array Slot, lv_has ls 5 [(0, .ref r0), (1, .int a1), (2, .int a2), (3, .ref r3), (4, .int v4_4)] → W p l e R s m ([.ref r0, .int a1, .int a2, .ref r3] : List Value).toArray below meth c H_4 locs_4 0 0 Q (F0 m 15 ls []) := by
      intro N
      induction N with
      | zero => intro v4_4 H_4 locs_4 hh_4  hi_4 hm; exact absurd hm (by omega)
      | succ N L15 =>
        intro v4_4 H_4 locs_4 hh_4  hi_4 hm_4 ls hl
        obtain ⟨hi_4_0, hi_4_1, hi_4_2⟩ := hi_4
        refine lv_iload hx hb dX14_isText_15 (lv_at hl 4 rfl) ?_
        refine lv_aload_n hx hb dX14_isText_17 rfl (lv_at hl 3 rfl) ?_
        refine vp_callSi (W.runV (As := []) (rest := [.int v4_4]) ⟨hx, hb, hml, hown, hts⟩ (wJ0_length_8abf5 l dC dI ca base H_4 r3 n3) (cwV 0 hts (jgV (jWr_49 _ (List.mem_of_getElem? (i := 1) rfl)) (jWr_5 _ (List.mem_of_getElem? (i := 13) rfl)) (jWr_5 _ (List.mem_of_getElem? (i := 14) rfl)) (jWr_5 _ (List.mem_of_getElem? (i := 15) rfl)) (jWr_5 _ (List.mem_of_getElem? (i := 16) rfl))) rfl rfl rfl (by decide +kernel) ⟨by rw [← hR]; exact Nat.le_of_ble_eq_true rfl, by rw [← hR]; exact Nat.le_of_ble_eq_true rfl⟩) ⟨fun a U g mk q => by obtain ⟨q0, q1, q2, qK, q9⟩ := q; exact ⟨q0, q1, (q2.moved (Vm.Alike.refl U.vm)), jG.calling g mk a qK, q9⟩, jStr_recv hstr_r3 hh_4.1, fun U hU hW => ⟨rfl, hU, (hstr_r3.moved hW.alike).kept hh_4.1.2.1, hG.step hW hU hh_4.1, by omega⟩⟩ rfl rfl hl.1 rfl (lv_room (Nat.le_of_ble_eq_true rfl)) dX14_isText_18 ⟨Nat.zero_le _, Nat.zero_le _⟩) (fun r_5 hr_5 => ?_)
        refine lv_icmp_ge (tgt := 50) hx hb dX14_isText_21 (by decide) (fun c_6 => ?_) (fun c_6 => ?_)
        · skip
          have c_6' : v4_4.toInt ≥ r_5.toInt := jb_ge (rfl) (rfl) c_6
          refine lv_iconst (v := 1) hx hb dX14_isText_50 (by decide) ?_
          rw [hQ]
          exact W.zret (v := 1) hx hb hr (jb_nz (Or.inr rfl)) (fun t ht hW => ⟨⟨1, (), rfl, ⟨(Or.inr rfl), by unfold jIT; rw [if_pos (by omega), show n3 = v4_4.toInt.toNat by omega, hi_4_2]; exact hk1⟩, hh_4.rt (M1 := []) [] rfl ht⟩, by rw [ht]; try exact hh_4.1.1, fun q h9 hq => by rw [ht]; try exact hh_4.1.2.1 q h9 hq⟩) hh_4.1.2.2 dX14_isText_51
        · skip
          have c_6' : v4_4.toInt < r_5.toInt := jb_ge_n (rfl) (rfl) c_6
          refine lv_aload_n hx hb dX14_isText_24 rfl (lv_at hl 0 rfl) ?_
          refine j7_read hx hb hown hK (C := RX14) (T := TX14) (N := 74) rfl hly_16_27 hlk_65 (hh_4.at 0 rfl) dX14_isText_25 ?_
          refine lv_iload_n hx hb dX14_isText_28 rfl (lv_at hl 1 rfl) ?_
          refine lv_iload hx hb dX14_isText_29 (lv_at hl 4 rfl) ?_
          refine lv_iadd hx hb dX14_isText_31 ?_
          refine lv_topi (fun z_7 ez_7 => ?_)
          have hz_7 : z_7.toInt = a1.toInt + v4_4.toInt := by rw [ez_7]; exact jb_iadd2 (rfl) (rfl) (by omega)
          refine j7_ialdM hx hb hK hh_4 hB127 1 rfl (by decide) hg_xp (x := z_7.toInt) (rfl) (by omega) (j := 0) rfl dX14_isText_32 (fun z_8 ez_8 (hz_8 : True) => ?_)
          have hqz_8 : z_8.toInt = jSo mp ((a1.toInt + v4_4.toInt)) := by unfold jSo; rw [ez_8, show z_7.toInt = (a1.toInt + v4_4.toInt) by omega]
          refine lv_aload_n hx hb dX14_isText_33 rfl (lv_at hl 3 rfl) ?_
          refine lv_iload hx hb dX14_isText_34 (lv_at hl 4 rfl) ?_
          refine vp_callSi (W.runV (As := [.int v4_4]) (rest := [.int z_8]) ⟨hx, hb, hml, hown, hts⟩ (eJ0_charAt_5068e l dC dI ca base H_4 r3 n3 f3 v4_4) (cwV 1 hts (jgV (jWr_49 _ (List.mem_of_getElem? (i := 13) rfl)) (jWr_6 _ (List.mem_of_getElem? (i := 1) rfl)) (jWr_6 _ (List.mem_of_getElem? (i := 2) rfl)) (jWr_5 _ (List.mem_of_getElem? (i := 15) rfl)) (jWr_6 _ (List.mem_of_getElem? (i := 3) rfl))) rfl rfl rfl (by decide +kernel) ⟨by rw [← hR]; exact Nat.le_of_ble_eq_true rfl, by rw [← hR]; exact Nat.le_of_ble_eq_true rfl⟩) ⟨fun a U g mk q => by obtain ⟨q0, q1, q2, qK, q9⟩ := q; exact ⟨q0, q1, (q2.moved (Vm.Alike.refl U.vm)), jG.calling g mk a qK, q9⟩, jStr_recv hstr_r3 hh_4.1, fun U hU hW => ⟨rfl, hU, (hstrF_r3.moved hW.alike).kept hh_4.1.2.1, hG.step hW hU hh_4.1, ⟨by omega, by omega, by omega⟩⟩⟩ rfl rfl hl.1 rfl (lv_room (Nat.le_of_ble_eq_true rfl)) dX14_isText_36 ⟨Nat.zero_le _, Nat.zero_le _⟩) (fun r_9 hr_9 => ?_)
          refine lv_icmp_eq (tgt := 44) hx hb dX14_isText_39 (by decide) (fun c_10 => ?_) (fun c_10 => ?_)
          · skip
            have c_10' : z_8.toInt = r_9.toInt := jb_eq (rfl) (rfl) c_10
            obtain ⟨z_11, ez_11⟩ : ∃ y : Int32, y = v4_4 + 1 := ⟨_, rfl⟩
            refine lv_iinc (v := z_11) (lv' := [(4, .int z_11), (0, .ref r0), (1, .int a1), (2, .int a2), (3, .ref r3)]) hx hb dX14_isText_44 hl (k := 4) rfl (by rw [ez_11]; rfl) (by decide) rfl (fun ls hl => ?_)
            have hz_11 : z_11.toInt = v4_4.toInt + 1 := by rw [ez_11]; exact jb_iadd2 (rfl) (by decide) (by omega)
            refine lv_goto (tgt := 15) hx hb dX14_isText_47 (by decide) ?_
            exact L15 z_11 _ _ hh_4 (by refine ⟨by omega, by omega, ?_⟩; rw [show (z_11).toInt.toNat = v4_4.toInt.toNat + 1 by omega]; exact jTx_1 hi_4_2 (by rw [show a1.toInt + ((v4_4.toInt.toNat : Nat) : Int) = a1.toInt + v4_4.toInt by omega, ← hqz_8, ← hr_9]; omega)) (by omega) _ (lv_sub hl [1, 2, 3, 4, 0] rfl)
          · skip
            have c_10' : z_8.toInt ≠ r_9.toInt := jb_eq_n (rfl) (rfl) c_10
            refine lv_iconst (v := 0) hx hb dX14_isText_42 (by decide) ?_
            rw [hQ]
            exact W.zret (v := 0) hx hb hr (jb_nz (Or.inl rfl)) (fun t ht hW => ⟨⟨0, (), rfl, ⟨(Or.inl rfl), by unfold jIT; rw [if_pos (by omega), jTx_0 (m := v4_4.toInt.toNat) (by omega) (by rw [show a1.toInt + ((v4_4.toInt.toNat : Nat) : Int) = a1.toInt + v4_4.toInt by omega, ← hqz_8, ← hr_9]; omega)]; exact hk0⟩, hh_4.rt (M1 := []) [] rfl ht⟩, by rw [ht]; try exact hh_4.1.1, fun q h9 hq => by rw [ht]; try exact hh_4.1.2.1 q h9 hq⟩) hh_4.1.2.2 dX14_isText_43
    exact L15 (n3 - (0 : Int32).toInt : Int).toNat.succ 0 _ _ hh (by refine ⟨by omega, by omega, ?_⟩; rw [hk0]; rfl) (by omega) _ (lv_sub hl [1, 2, 3, 4, 0] rfl)
  · skip
    have c_3' : z_1.toInt ≠ r_2.toInt := jb_eq_n (rfl) (rfl) c_3
    refine lv_iconst (v := 0) hx hb dX14_isText_10 (by decide) ?_
    rw [hQ]
    exact W.zret (v := 0) hx hb hr (jb_nz (Or.inl rfl)) (fun t ht hW => ⟨⟨0, (), rfl, ⟨(Or.inl rfl), by unfold jIT; rw [if_neg (by omega)]; exact hk0⟩, hh.rt (M1 := []) [] rfl ht⟩, by rw [ht]; try exact hh.1.1, fun q h9 hq => by rw [ht]; try exact hh.1.2.1 q h9 hq⟩) hh.1.2.2 dX14_isText_11
end
section
def jPos (so hr nf nt nx fp : Nat → Int32) (a : Int) : Prop := 0 ≤ jMb so hr nf nt nx fp (jChT "line") 4 a ∧ 0 ≤ jMb so hr nf nt nx fp (jChT "character") 9 a
def jChg (so hr nf nt nx fp : Nat → Int32) (a : Int) : Prop := 0 ≤ jMb so hr nf nt nx fp (jChT "text") 4 a ∧ jSo so (jMb so hr nf nt nx fp (jChT "text") 4 a) = 4 ∧ (0 ≤ jMb so hr nf nt nx fp (jChT "range") 5 a → jPos so hr nf nt nx fp (jMb so hr nf nt nx fp (jChT "start") 5 (jMb so hr nf nt nx fp (jChT "range") 5 a)) ∧ jPos so hr nf nt nx fp (jMb so hr nf nt nx fp (jChT "end") 3 (jMb so hr nf nt nx fp (jChT "range") 5 a)))
theorem dX14_isPosition_0 : decode cX14_isPosition 0 = .ok (.aload_n 0, 1) := by decide +kernel
theorem dX14_isPosition_1 : decode cX14_isPosition 1 = .ok (.iload_n 1, 1) := by decide +kernel
theorem dX14_isPosition_2 : decode cX14_isPosition 2 = .ok (.ldc_w 544, 3) := by decide +kernel
theorem dX14_isPosition_5 : decode cX14_isPosition 5 = .ok (.invokevirtual 430, 3) := by decide +kernel
theorem dX14_isPosition_8 : decode cX14_isPosition 8 = .ok (.istore_n 2, 1) := by decide +kernel
theorem dX14_isPosition_9 : decode cX14_isPosition 9 = .ok (.aload_n 0, 1) := by decide +kernel
theorem dX14_isPosition_10 : decode cX14_isPosition 10 = .ok (.iload_n 1, 1) := by decide +kernel
theorem dX14_isPosition_11 : decode cX14_isPosition 11 = .ok (.ldc_w 546, 3) := by decide +kernel
theorem dX14_isPosition_14 : decode cX14_isPosition 14 = .ok (.invokevirtual 430, 3) := by decide +kernel
theorem dX14_isPosition_17 : decode cX14_isPosition 17 = .ok (.istore_n 3, 1) := by decide +kernel
theorem dX14_isPosition_18 : decode cX14_isPosition 18 = .ok (.aload_n 0, 1) := by decide +kernel
theorem dX14_isPosition_19 : decode cX14_isPosition 19 = .ok (.iload_n 2, 1) := by decide +kernel
theorem dX14_isPosition_20 : decode cX14_isPosition 20 = .ok (.invokevirtual 371, 3) := by decide +kernel
theorem dX14_isPosition_23 : decode cX14_isPosition 23 = .ok (.ifCond .eq 33, 3) := by decide +kernel
theorem dX14_isPosition_26 : decode cX14_isPosition 26 = .ok (.aload_n 0, 1) := by decide +kernel
theorem dX14_isPosition_27 : decode cX14_isPosition 27 = .ok (.iload_n 3, 1) := by decide +kernel
theorem dX14_isPosition_28 : decode cX14_isPosition 28 = .ok (.invokevirtual 371, 3) := by decide +kernel
theorem dX14_isPosition_31 : decode cX14_isPosition 31 = .ok (.ifCond .eq 25, 3) := by decide +kernel
theorem dX14_isPosition_34 : decode cX14_isPosition 34 = .ok (.aload_n 0, 1) := by decide +kernel
theorem dX14_isPosition_35 : decode cX14_isPosition 35 = .ok (.getfield 62, 3) := by decide +kernel
theorem dX14_isPosition_38 : decode cX14_isPosition 38 = .ok (.iload_n 2, 1) := by decide +kernel
theorem dX14_isPosition_39 : decode cX14_isPosition 39 = .ok (.iaload, 1) := by decide +kernel
theorem dX14_isPosition_40 : decode cX14_isPosition 40 = .ok (.ifCond .lt 16, 3) := by decide +kernel
theorem dX14_isPosition_43 : decode cX14_isPosition 43 = .ok (.aload_n 0, 1) := by decide +kernel
theorem dX14_isPosition_44 : decode cX14_isPosition 44 = .ok (.getfield 62, 3) := by decide +kernel
theorem dX14_isPosition_47 : decode cX14_isPosition 47 = .ok (.iload_n 3, 1) := by decide +kernel
theorem dX14_isPosition_48 : decode cX14_isPosition 48 = .ok (.iaload, 1) := by decide +kernel
theorem dX14_isPosition_49 : decode cX14_isPosition 49 = .ok (.ifCond .lt 7, 3) := by decide +kernel
theorem dX14_isPosition_52 : decode cX14_isPosition 52 = .ok (.iconst 1, 1) := by decide +kernel
theorem dX14_isPosition_53 : decode cX14_isPosition 53 = .ok (.goto 4, 3) := by decide +kernel
theorem dX14_isPosition_56 : decode cX14_isPosition 56 = .ok (.iconst 0, 1) := by decide +kernel
theorem dX14_isPosition_57 : decode cX14_isPosition 57 = .ok (.ireturn, 1) := by decide +kernel
theorem dX14_lineOf_0 : decode cX14_lineOf 0 = .ok (.aload_n 0, 1) := by decide +kernel
theorem dX14_lineOf_1 : decode cX14_lineOf 1 = .ok (.getfield 62, 3) := by decide +kernel
theorem dX14_lineOf_4 : decode cX14_lineOf 4 = .ok (.aload_n 0, 1) := by decide +kernel
theorem dX14_lineOf_5 : decode cX14_lineOf 5 = .ok (.iload_n 1, 1) := by decide +kernel
theorem dX14_lineOf_6 : decode cX14_lineOf 6 = .ok (.ldc_w 544, 3) := by decide +kernel
theorem dX14_lineOf_9 : decode cX14_lineOf 9 = .ok (.invokevirtual 430, 3) := by decide +kernel
theorem dX14_lineOf_12 : decode cX14_lineOf 12 = .ok (.iaload, 1) := by decide +kernel
theorem dX14_lineOf_13 : decode cX14_lineOf 13 = .ok (.ireturn, 1) := by decide +kernel
theorem dX14_characterOf_0 : decode cX14_characterOf 0 = .ok (.aload_n 0, 1) := by decide +kernel
theorem dX14_characterOf_1 : decode cX14_characterOf 1 = .ok (.getfield 62, 3) := by decide +kernel
theorem dX14_characterOf_4 : decode cX14_characterOf 4 = .ok (.aload_n 0, 1) := by decide +kernel
theorem dX14_characterOf_5 : decode cX14_characterOf 5 = .ok (.iload_n 1, 1) := by decide +kernel
theorem dX14_characterOf_6 : decode cX14_characterOf 6 = .ok (.ldc_w 546, 3) := by decide +kernel
theorem dX14_characterOf_9 : decode cX14_characterOf 9 = .ok (.invokevirtual 430, 3) := by decide +kernel
theorem dX14_characterOf_12 : decode cX14_characterOf 12 = .ok (.iaload, 1) := by decide +kernel
theorem dX14_characterOf_13 : decode cX14_characterOf 13 = .ok (.ireturn, 1) := by decide +kernel
theorem dX14_isChange_0 : decode cX14_isChange 0 = .ok (.aload_n 0, 1) := by decide +kernel
theorem dX14_isChange_1 : decode cX14_isChange 1 = .ok (.getfield 37, 3) := by decide +kernel
theorem dX14_isChange_4 : decode cX14_isChange 4 = .ok (.iload_n 1, 1) := by decide +kernel
theorem dX14_isChange_5 : decode cX14_isChange 5 = .ok (.iaload, 1) := by decide +kernel
theorem dX14_isChange_6 : decode cX14_isChange 6 = .ok (.bipush 6, 2) := by decide +kernel
theorem dX14_isChange_8 : decode cX14_isChange 8 = .ok (.if_icmp .ne 18, 3) := by decide +kernel
theorem dX14_isChange_11 : decode cX14_isChange 11 = .ok (.aload_n 0, 1) := by decide +kernel
theorem dX14_isChange_12 : decode cX14_isChange 12 = .ok (.aload_n 0, 1) := by decide +kernel
theorem dX14_isChange_13 : decode cX14_isChange 13 = .ok (.iload_n 1, 1) := by decide +kernel
theorem dX14_isChange_14 : decode cX14_isChange 14 = .ok (.ldc_w 519, 3) := by decide +kernel
theorem dX14_isChange_17 : decode cX14_isChange 17 = .ok (.invokevirtual 430, 3) := by decide +kernel
theorem dX14_isChange_20 : decode cX14_isChange 20 = .ok (.invokevirtual 368, 3) := by decide +kernel
theorem dX14_isChange_23 : decode cX14_isChange 23 = .ok (.ifCond .ne 5, 3) := by decide +kernel
theorem dX14_isChange_26 : decode cX14_isChange 26 = .ok (.iconst 0, 1) := by decide +kernel
theorem dX14_isChange_27 : decode cX14_isChange 27 = .ok (.ireturn, 1) := by decide +kernel
theorem dX14_isChange_28 : decode cX14_isChange 28 = .ok (.aload_n 0, 1) := by decide +kernel
theorem dX14_isChange_29 : decode cX14_isChange 29 = .ok (.iload_n 1, 1) := by decide +kernel
theorem dX14_isChange_30 : decode cX14_isChange 30 = .ok (.ldc_w 548, 3) := by decide +kernel
theorem dX14_isChange_33 : decode cX14_isChange 33 = .ok (.invokevirtual 430, 3) := by decide +kernel
theorem dX14_isChange_36 : decode cX14_isChange 36 = .ok (.istore_n 2, 1) := by decide +kernel
theorem dX14_isChange_37 : decode cX14_isChange 37 = .ok (.iload_n 2, 1) := by decide +kernel
theorem dX14_isChange_38 : decode cX14_isChange 38 = .ok (.ifCond .lt 33, 3) := by decide +kernel
theorem dX14_isChange_41 : decode cX14_isChange 41 = .ok (.aload_n 0, 1) := by decide +kernel
theorem dX14_isChange_42 : decode cX14_isChange 42 = .ok (.aload_n 0, 1) := by decide +kernel
theorem dX14_isChange_43 : decode cX14_isChange 43 = .ok (.iload_n 2, 1) := by decide +kernel
theorem dX14_isChange_44 : decode cX14_isChange 44 = .ok (.ldc_w 553, 3) := by decide +kernel
theorem dX14_isChange_47 : decode cX14_isChange 47 = .ok (.invokevirtual 430, 3) := by decide +kernel
theorem dX14_isChange_50 : decode cX14_isChange 50 = .ok (.invokevirtual 566, 3) := by decide +kernel
theorem dX14_isChange_53 : decode cX14_isChange 53 = .ok (.ifCond .eq 22, 3) := by decide +kernel
theorem dX14_isChange_56 : decode cX14_isChange 56 = .ok (.aload_n 0, 1) := by decide +kernel
theorem dX14_isChange_57 : decode cX14_isChange 57 = .ok (.aload_n 0, 1) := by decide +kernel
theorem dX14_isChange_58 : decode cX14_isChange 58 = .ok (.iload_n 2, 1) := by decide +kernel
theorem dX14_isChange_59 : decode cX14_isChange 59 = .ok (.ldc_w 555, 3) := by decide +kernel
theorem dX14_isChange_62 : decode cX14_isChange 62 = .ok (.invokevirtual 430, 3) := by decide +kernel
theorem dX14_isChange_65 : decode cX14_isChange 65 = .ok (.invokevirtual 566, 3) := by decide +kernel
theorem dX14_isChange_68 : decode cX14_isChange 68 = .ok (.ifCond .eq 7, 3) := by decide +kernel
theorem dX14_isChange_71 : decode cX14_isChange 71 = .ok (.iconst 1, 1) := by decide +kernel
theorem dX14_isChange_72 : decode cX14_isChange 72 = .ok (.goto 4, 3) := by decide +kernel
theorem dX14_isChange_75 : decode cX14_isChange 75 = .ok (.iconst 0, 1) := by decide +kernel
theorem dX14_isChange_76 : decode cX14_isChange 76 = .ok (.ireturn, 1) := by decide +kernel
end
section
theorem dX14_make_0 : decode cX14_make 0 = .ok (.aload_n 0, 1) := by decide +kernel
theorem dX14_make_1 : decode cX14_make 1 = .ok (.iload_n 1, 1) := by decide +kernel
theorem dX14_make_2 : decode cX14_make 2 = .ok (.ldc_w 519, 3) := by decide +kernel
theorem dX14_make_5 : decode cX14_make 5 = .ok (.invokevirtual 430, 3) := by decide +kernel
theorem dX14_make_8 : decode cX14_make 8 = .ok (.istore_n 2, 1) := by decide +kernel
theorem dX14_make_9 : decode cX14_make 9 = .ok (.aload_n 0, 1) := by decide +kernel
theorem dX14_make_10 : decode cX14_make 10 = .ok (.iload_n 1, 1) := by decide +kernel
theorem dX14_make_11 : decode cX14_make 11 = .ok (.ldc_w 548, 3) := by decide +kernel
theorem dX14_make_14 : decode cX14_make 14 = .ok (.invokevirtual 430, 3) := by decide +kernel
theorem dX14_make_17 : decode cX14_make 17 = .ok (.istore_n 3, 1) := by decide +kernel
theorem dX14_make_18 : decode cX14_make 18 = .ok (.aload_n 0, 1) := by decide +kernel
theorem dX14_make_19 : decode cX14_make 19 = .ok (.getfield 55, 3) := by decide +kernel
theorem dX14_make_22 : decode cX14_make 22 = .ok (.iload_n 2, 1) := by decide +kernel
theorem dX14_make_23 : decode cX14_make 23 = .ok (.iaload, 1) := by decide +kernel
theorem dX14_make_24 : decode cX14_make 24 = .ok (.aload_n 0, 1) := by decide +kernel
theorem dX14_make_25 : decode cX14_make 25 = .ok (.getfield 52, 3) := by decide +kernel
theorem dX14_make_28 : decode cX14_make 28 = .ok (.iload_n 2, 1) := by decide +kernel
theorem dX14_make_29 : decode cX14_make 29 = .ok (.iaload, 1) := by decide +kernel
theorem dX14_make_30 : decode cX14_make 30 = .ok (.isub, 1) := by decide +kernel
theorem dX14_make_31 : decode cX14_make 31 = .ok (.istore 4, 2) := by decide +kernel
theorem dX14_make_33 : decode cX14_make 33 = .ok (.iconst 0, 1) := by decide +kernel
theorem dX14_make_34 : decode cX14_make 34 = .ok (.istore 5, 2) := by decide +kernel
theorem dX14_make_36 : decode cX14_make 36 = .ok (.aload_n 0, 1) := by decide +kernel
theorem dX14_make_37 : decode cX14_make 37 = .ok (.getfield 550, 3) := by decide +kernel
theorem dX14_make_40 : decode cX14_make 40 = .ok (.istore 6, 2) := by decide +kernel
theorem dX14_make_42 : decode cX14_make 42 = .ok (.iload_n 3, 1) := by decide +kernel
theorem dX14_make_43 : decode cX14_make 43 = .ok (.ifCond .lt 87, 3) := by decide +kernel
theorem dX14_make_46 : decode cX14_make 46 = .ok (.aload_n 0, 1) := by decide +kernel
theorem dX14_make_47 : decode cX14_make 47 = .ok (.iload_n 3, 1) := by decide +kernel
theorem dX14_make_48 : decode cX14_make 48 = .ok (.ldc_w 553, 3) := by decide +kernel
theorem dX14_make_51 : decode cX14_make 51 = .ok (.invokevirtual 430, 3) := by decide +kernel
theorem dX14_make_54 : decode cX14_make 54 = .ok (.istore 7, 2) := by decide +kernel
theorem dX14_make_56 : decode cX14_make 56 = .ok (.aload_n 0, 1) := by decide +kernel
theorem dX14_make_57 : decode cX14_make 57 = .ok (.iload_n 3, 1) := by decide +kernel
theorem dX14_make_58 : decode cX14_make 58 = .ok (.ldc_w 555, 3) := by decide +kernel
theorem dX14_make_61 : decode cX14_make 61 = .ok (.invokevirtual 430, 3) := by decide +kernel
theorem dX14_make_64 : decode cX14_make 64 = .ok (.istore 8, 2) := by decide +kernel
theorem dX14_make_66 : decode cX14_make 66 = .ok (.aload_n 0, 1) := by decide +kernel
theorem dX14_make_67 : decode cX14_make 67 = .ok (.getfield 78, 3) := by decide +kernel
theorem dX14_make_70 : decode cX14_make 70 = .ok (.aload_n 0, 1) := by decide +kernel
theorem dX14_make_71 : decode cX14_make 71 = .ok (.getfield 550, 3) := by decide +kernel
theorem dX14_make_74 : decode cX14_make 74 = .ok (.aload_n 0, 1) := by decide +kernel
theorem dX14_make_75 : decode cX14_make 75 = .ok (.iload 7, 2) := by decide +kernel
theorem dX14_make_77 : decode cX14_make 77 = .ok (.invokevirtual 556, 3) := by decide +kernel
theorem dX14_make_80 : decode cX14_make 80 = .ok (.aload_n 0, 1) := by decide +kernel
theorem dX14_make_81 : decode cX14_make 81 = .ok (.iload 7, 2) := by decide +kernel
theorem dX14_make_83 : decode cX14_make 83 = .ok (.invokevirtual 559, 3) := by decide +kernel
theorem dX14_make_86 : decode cX14_make 86 = .ok (.invokestatic 562, 3) := by decide +kernel
theorem dX14_make_89 : decode cX14_make 89 = .ok (.istore 5, 2) := by decide +kernel
theorem dX14_make_91 : decode cX14_make 91 = .ok (.aload_n 0, 1) := by decide +kernel
theorem dX14_make_92 : decode cX14_make 92 = .ok (.getfield 78, 3) := by decide +kernel
theorem dX14_make_95 : decode cX14_make 95 = .ok (.aload_n 0, 1) := by decide +kernel
theorem dX14_make_96 : decode cX14_make 96 = .ok (.getfield 550, 3) := by decide +kernel
theorem dX14_make_99 : decode cX14_make 99 = .ok (.aload_n 0, 1) := by decide +kernel
theorem dX14_make_100 : decode cX14_make 100 = .ok (.iload 8, 2) := by decide +kernel
theorem dX14_make_102 : decode cX14_make 102 = .ok (.invokevirtual 556, 3) := by decide +kernel
theorem dX14_make_105 : decode cX14_make 105 = .ok (.aload_n 0, 1) := by decide +kernel
theorem dX14_make_106 : decode cX14_make 106 = .ok (.iload 8, 2) := by decide +kernel
theorem dX14_make_108 : decode cX14_make 108 = .ok (.invokevirtual 559, 3) := by decide +kernel
theorem dX14_make_111 : decode cX14_make 111 = .ok (.invokestatic 562, 3) := by decide +kernel
theorem dX14_make_114 : decode cX14_make 114 = .ok (.istore 6, 2) := by decide +kernel
theorem dX14_make_116 : decode cX14_make 116 = .ok (.iload 5, 2) := by decide +kernel
theorem dX14_make_118 : decode cX14_make 118 = .ok (.ifCond .lt 10, 3) := by decide +kernel
theorem dX14_make_121 : decode cX14_make 121 = .ok (.iload 6, 2) := by decide +kernel
theorem dX14_make_123 : decode cX14_make 123 = .ok (.iload 5, 2) := by decide +kernel
theorem dX14_make_125 : decode cX14_make 125 = .ok (.if_icmp .ge 5, 3) := by decide +kernel
theorem dX14_make_128 : decode cX14_make 128 = .ok (.iconst 0, 1) := by decide +kernel
theorem dX14_make_129 : decode cX14_make 129 = .ok (.ireturn, 1) := by decide +kernel
theorem dX14_make_130 : decode cX14_make 130 = .ok (.aload_n 0, 1) := by decide +kernel
theorem dX14_make_131 : decode cX14_make 131 = .ok (.getfield 550, 3) := by decide +kernel
theorem dX14_make_134 : decode cX14_make 134 = .ok (.iload 6, 2) := by decide +kernel
theorem dX14_make_136 : decode cX14_make 136 = .ok (.iload 5, 2) := by decide +kernel
theorem dX14_make_138 : decode cX14_make 138 = .ok (.isub, 1) := by decide +kernel
theorem dX14_make_139 : decode cX14_make 139 = .ok (.isub, 1) := by decide +kernel
theorem dX14_make_140 : decode cX14_make 140 = .ok (.iload 4, 2) := by decide +kernel
theorem dX14_make_142 : decode cX14_make 142 = .ok (.iadd, 1) := by decide +kernel
theorem dX14_make_143 : decode cX14_make 143 = .ok (.istore 7, 2) := by decide +kernel
theorem dX14_make_145 : decode cX14_make 145 = .ok (.iload 7, 2) := by decide +kernel
theorem dX14_make_147 : decode cX14_make 147 = .ok (.sipush 1500, 3) := by decide +kernel
theorem dX14_make_150 : decode cX14_make 150 = .ok (.if_icmp .le 5, 3) := by decide +kernel
theorem dX14_make_153 : decode cX14_make 153 = .ok (.iconst 0, 1) := by decide +kernel
theorem dX14_make_154 : decode cX14_make 154 = .ok (.ireturn, 1) := by decide +kernel
theorem dX14_make_155 : decode cX14_make 155 = .ok (.aload_n 0, 1) := by decide +kernel
theorem dX14_make_156 : decode cX14_make 156 = .ok (.getfield 550, 3) := by decide +kernel
theorem dX14_make_159 : decode cX14_make 159 = .ok (.iload 6, 2) := by decide +kernel
theorem dX14_make_161 : decode cX14_make 161 = .ok (.isub, 1) := by decide +kernel
theorem dX14_make_162 : decode cX14_make 162 = .ok (.istore 8, 2) := by decide +kernel
theorem dX14_make_164 : decode cX14_make 164 = .ok (.iconst 0, 1) := by decide +kernel
theorem dX14_make_165 : decode cX14_make 165 = .ok (.istore 9, 2) := by decide +kernel
theorem dX14_make_167 : decode cX14_make 167 = .ok (.iload 9, 2) := by decide +kernel
theorem dX14_make_169 : decode cX14_make 169 = .ok (.iload 8, 2) := by decide +kernel
theorem dX14_make_171 : decode cX14_make 171 = .ok (.if_icmp .ge 26, 3) := by decide +kernel
theorem dX14_make_174 : decode cX14_make 174 = .ok (.aload_n 0, 1) := by decide +kernel
theorem dX14_make_175 : decode cX14_make 175 = .ok (.getfield 81, 3) := by decide +kernel
theorem dX14_make_178 : decode cX14_make 178 = .ok (.iload 9, 2) := by decide +kernel
theorem dX14_make_180 : decode cX14_make 180 = .ok (.aload_n 0, 1) := by decide +kernel
theorem dX14_make_181 : decode cX14_make 181 = .ok (.getfield 78, 3) := by decide +kernel
theorem dX14_make_184 : decode cX14_make 184 = .ok (.iload 6, 2) := by decide +kernel
theorem dX14_make_186 : decode cX14_make 186 = .ok (.iload 9, 2) := by decide +kernel
theorem dX14_make_188 : decode cX14_make 188 = .ok (.iadd, 1) := by decide +kernel
theorem dX14_make_189 : decode cX14_make 189 = .ok (.iaload, 1) := by decide +kernel
theorem dX14_make_190 : decode cX14_make 190 = .ok (.iastore, 1) := by decide +kernel
theorem dX14_make_191 : decode cX14_make 191 = .ok (.iinc 9 1, 3) := by decide +kernel
theorem dX14_make_194 : decode cX14_make 194 = .ok (.goto (-27), 3) := by decide +kernel
theorem dX14_make_197 : decode cX14_make 197 = .ok (.iconst 0, 1) := by decide +kernel
theorem dX14_make_198 : decode cX14_make 198 = .ok (.istore 9, 2) := by decide +kernel
theorem dX14_make_200 : decode cX14_make 200 = .ok (.iload 9, 2) := by decide +kernel
theorem dX14_make_202 : decode cX14_make 202 = .ok (.iload 4, 2) := by decide +kernel
theorem dX14_make_204 : decode cX14_make 204 = .ok (.if_icmp .ge 33, 3) := by decide +kernel
theorem dX14_make_207 : decode cX14_make 207 = .ok (.aload_n 0, 1) := by decide +kernel
theorem dX14_make_208 : decode cX14_make 208 = .ok (.getfield 78, 3) := by decide +kernel
theorem dX14_make_211 : decode cX14_make 211 = .ok (.iload 5, 2) := by decide +kernel
theorem dX14_make_213 : decode cX14_make 213 = .ok (.iload 9, 2) := by decide +kernel
theorem dX14_make_215 : decode cX14_make 215 = .ok (.iadd, 1) := by decide +kernel
theorem dX14_make_216 : decode cX14_make 216 = .ok (.aload_n 0, 1) := by decide +kernel
theorem dX14_make_217 : decode cX14_make 217 = .ok (.getfield 65, 3) := by decide +kernel
theorem dX14_make_220 : decode cX14_make 220 = .ok (.aload_n 0, 1) := by decide +kernel
theorem dX14_make_221 : decode cX14_make 221 = .ok (.getfield 52, 3) := by decide +kernel
theorem dX14_make_224 : decode cX14_make 224 = .ok (.iload_n 2, 1) := by decide +kernel
theorem dX14_make_225 : decode cX14_make 225 = .ok (.iaload, 1) := by decide +kernel
theorem dX14_make_226 : decode cX14_make 226 = .ok (.iload 9, 2) := by decide +kernel
theorem dX14_make_228 : decode cX14_make 228 = .ok (.iadd, 1) := by decide +kernel
theorem dX14_make_229 : decode cX14_make 229 = .ok (.iaload, 1) := by decide +kernel
theorem dX14_make_230 : decode cX14_make 230 = .ok (.iastore, 1) := by decide +kernel
theorem dX14_make_231 : decode cX14_make 231 = .ok (.iinc 9 1, 3) := by decide +kernel
theorem dX14_make_234 : decode cX14_make 234 = .ok (.goto (-34), 3) := by decide +kernel
theorem dX14_make_237 : decode cX14_make 237 = .ok (.iconst 0, 1) := by decide +kernel
theorem dX14_make_238 : decode cX14_make 238 = .ok (.istore 9, 2) := by decide +kernel
theorem dX14_make_240 : decode cX14_make 240 = .ok (.iload 9, 2) := by decide +kernel
theorem dX14_make_242 : decode cX14_make 242 = .ok (.iload 8, 2) := by decide +kernel
theorem dX14_make_244 : decode cX14_make 244 = .ok (.if_icmp .ge 29, 3) := by decide +kernel
theorem dX14_make_247 : decode cX14_make 247 = .ok (.aload_n 0, 1) := by decide +kernel
theorem dX14_make_248 : decode cX14_make 248 = .ok (.getfield 78, 3) := by decide +kernel
theorem dX14_make_251 : decode cX14_make 251 = .ok (.iload 5, 2) := by decide +kernel
theorem dX14_make_253 : decode cX14_make 253 = .ok (.iload 4, 2) := by decide +kernel
theorem dX14_make_255 : decode cX14_make 255 = .ok (.iadd, 1) := by decide +kernel
theorem dX14_make_256 : decode cX14_make 256 = .ok (.iload 9, 2) := by decide +kernel
theorem dX14_make_258 : decode cX14_make 258 = .ok (.iadd, 1) := by decide +kernel
theorem dX14_make_259 : decode cX14_make 259 = .ok (.aload_n 0, 1) := by decide +kernel
theorem dX14_make_260 : decode cX14_make 260 = .ok (.getfield 81, 3) := by decide +kernel
theorem dX14_make_263 : decode cX14_make 263 = .ok (.iload 9, 2) := by decide +kernel
theorem dX14_make_265 : decode cX14_make 265 = .ok (.iaload, 1) := by decide +kernel
theorem dX14_make_266 : decode cX14_make 266 = .ok (.iastore, 1) := by decide +kernel
theorem dX14_make_267 : decode cX14_make 267 = .ok (.iinc 9 1, 3) := by decide +kernel
theorem dX14_make_270 : decode cX14_make 270 = .ok (.goto (-30), 3) := by decide +kernel
theorem dX14_make_273 : decode cX14_make 273 = .ok (.aload_n 0, 1) := by decide +kernel
theorem dX14_make_274 : decode cX14_make 274 = .ok (.iload 7, 2) := by decide +kernel
theorem dX14_make_276 : decode cX14_make 276 = .ok (.putfield 550, 3) := by decide +kernel
theorem dX14_make_279 : decode cX14_make 279 = .ok (.iconst 1, 1) := by decide +kernel
theorem dX14_make_280 : decode cX14_make 280 = .ok (.ireturn, 1) := by decide +kernel
end
section
def EX14_documentOfK : List (Nat × Nat) := []
set_option maxHeartbeats 4000000 in
set_option maxRecDepth 20000 in
theorem uX14_documentOfK (l : Launch) (dC : Nat → ClassId) (dI : Nat → Nat → Nat) (ca : Nat → ClassId) (base : Nat) (B : jF) (hB : jBok B) (hAp : jAp (dC, dI)) (hB14 : ∀ n G a H, B 14 n G a H ↔ jOb (dC, dI) 14 11 (F14 n G) a H) (hB16 : ∀ n G a H, B 16 n G a H ↔ jOb (dC, dI) 16 74 (F16 n G) a H) (hB101 : ∀ n G a H, B 101 n G a H ↔ jAr (dC, dI) (ca 1) (fun j z => True) n a H) (hB117 : ∀ n G a H, B 117 n G a H ↔ jAr (dC, dI) (ca 1) (fun j z => True) n a H) (hB122 : ∀ n G a H, B 122 n G a H ↔ jAr (dC, dI) (ca 1) (fun j z => 0 ≤ z.toInt ∧ z.toInt ≤ 3100) n a H) (hB123 : ∀ n G a H, B 123 n G a H ↔ jAr (dC, dI) (ca 1) (fun j z => 0 ≤ z.toInt ∧ z.toInt ≤ 3100) n a H) (hB127 : ∀ n G a H, B 127 n G a H ↔ jAr (dC, dI) (ca 1) (fun j z => True) n a H) (hB201 : ∀ n G a H, B 201 n G a H ↔ jAq (dC, dI) (ca 4) (jQs 14 0) n G a H) (G0 : jT) (H0 : Heap) (r0 : Nat) (a1 : Int32) (dd : Nat) (dc : Int32) (co : Nat) (cs : Nat) (ol : Nat) (nw : Nat) (td : Nat) (sn ck : Nat → Int32) (fd fo : Nat → Option Nat) (fs : Nat → Int32) : Met l yX14_documentOf (jw yX14_documentOf cX14_documentOf 6 (some (.object "ProofServerModel$Document"))) ({ frames := 1, cells := 0, slots := 0, locals := 21 }) (va_Pc [.ref r0, .int a1] (fun U => U.heap = H0 ∧ jX B base G0 [] H0 ∧ jG dC dI ca base U ∧ jK2 dC dI ca U ∧ G0 r0 = some (16, 0) ∧ G0 dd = some (201, 3) ∧ G0 co = some (208, 2) ∧ G0 cs = some (207, 2) ∧ G0 ol = some (14, 0) ∧ G0 nw = some (14, 0) ∧ G0 td = some (14, 0) ∧ jP (dC, dI) G0 H0 [(r0, 16, 41, .ref dd), (r0, 16, 42, .int dc), (r0, 16, 60, .ref co), (r0, 16, 61, .ref cs), (r0, 16, 46, .ref ol), (r0, 16, 47, .ref nw), (r0, 16, 71, .ref td)] ∧ jMc (dC, dI) G0 H0 [(cs, 207, 2, ca 1, fs)] ∧ jIs (dC, dI) G0 H0 [(jFs, jDY dC dI ca G0 none sn), (jF9, jVl dC dI G0 9 ck), ([(201, 0)], jQc dC dI (ca 4) dd 3 fd), ([(208, 0)], jQc dC dI (ca 4) co 2 fo)] ∧ jPu sn ck fd fo fs dc.toInt ol nw td ∧ a1.toInt ≤ 3099)) (jQx (S := Unit) (fun v u => jRp G0 14 0 (fun x => ∃ d : Nat, d < 3 ∧ (d : Int) < dc.toInt ∧ fd d = some x) v) (fun u t => jRt (dC, dI) B base G0 EX14_documentOfK H0 [] t.heap) (jA base)) 0 0 (jA base) := by
  refine Met.ofW (cc := cX14_documentOf) (maxL := 6) (ret := (some (.object "ProofServerModel$Document"))) (by decide) rfl ?_
  intro p e s m args below meth c s₁ Bd hml hv
  obtain ⟨rfl, hH0, hX, hG, hK2, hg_r0, hg_dd, hg_co, hg_cs, hg_ol, hg_nw, hg_td, hP0, hM0, hI0, hp0, hp1⟩ := hv
  have hK := hG.1
  have hx := Bd.exec
  have hb := Bd.bytes
  have hr := Bd.returns
  have hts := atoms_spec (ws := (jw yX14_documentOf cX14_documentOf 6 (some (.object "ProofServerModel$Document")))) Bd.pre
  have htw : ∀ w ∈ jWl, w.before _ s = true := fun w h => hts w (List.mem_cons_of_mem _ h)
  have hown : s.vm.findClass RX14 = some m.cls := findClass_of_methodNamed Bd.named
  have hlocks := Bd.notSynchronized
  obtain ⟨Q, hQ⟩ : ∃ Q, Q = MQ below (jQx (S := Unit) (fun v u => jRp G0 14 0 (fun x => ∃ d : Nat, d < 3 ∧ (d : Int) < dc.toInt ∧ fd d = some x) v) (fun u t => jRt (dC, dI) B base G0 EX14_documentOfK H0 [] t.heap) (jA base)) ([.ref r0, .int a1] : List Value).toArray s 0 0 (jA base) := ⟨_, rfl⟩
  rw [← hQ]
  have hl := lv_entry ([.ref r0, .int a1]) (n := 6) (Nat.le_of_ble_eq_true rfl)
  rw [lg_entry_eq]
  generalize (lg_sl ([.ref r0, .int a1]) ++ List.replicate (6 - (lg_sl ([.ref r0, .int a1])).length) Slot.unset).toArray = ls at hl ⊢
  have hl : lv_has ls 6 [(0, .ref r0), (1, .int a1)] := hl
  generalize hR : (headSpec (jw yX14_documentOf cX14_documentOf 6 (some (.object "ProofServerModel$Document"))) ({ frames := 1, cells := 0, slots := 0, locals := 21 })).room = R
  subst hH0
  have hh : jSt (dC, dI) B base G0 G0 EX14_documentOfK s.heap 0 0 [(r0, 16, 41, .ref dd), (r0, 16, 42, .int dc), (r0, 16, 60, .ref co), (r0, 16, 61, .ref cs), (r0, 16, 46, .ref ol), (r0, 16, 47, .ref nw), (r0, 16, 71, .ref td)] [(cs, 207, 2, ca 1, fs)] [(jFs, jDY dC dI ca G0 none sn), (jF9, jVl dC dI G0 9 ck), ([(201, 0)], jQc dC dI (ca 4) dd 3 fd), ([(208, 0)], jQc dC dI (ca 4) co 2 fo)] s.heap [] := jSt.start hX hP0 hM0 hI0
  clear hX hP0
  have hk0 : (0 : Int32).toInt = 0 := by decide
  have hk1 : (1 : Int32).toInt = 1 := by decide
  have hly_14_0 := htw (u_lay RX12 TX12 0) (jWc_wsX120 _ (u_in_lay (by decide)))
  have hly_14_1 := htw (u_lay RX12 TX12 1) (jWc_wsX120 _ (u_in_lay (by decide)))
  have hly_16_22 := htw (u_lay RX14 TX14 22) (jWc_wsX140 _ (u_in_lay (by decide)))
  have hly_16_23 := htw (u_lay RX14 TX14 23) (jWc_wsX140 _ (u_in_lay (by decide)))
  have hly_16_27 := htw (u_lay RX14 TX14 27) (jWc_wsX140 _ (u_in_lay (by decide)))
  have hly_16_41 := htw (u_lay RX14 TX14 41) (jWc_wsX140 _ (u_in_lay (by decide)))
  have hly_16_42 := htw (u_lay RX14 TX14 42) (jWc_wsX140 _ (u_in_lay (by decide)))
  have hlk_505 := (htw (.fieldLink RX14 505 "ProofServerModel" "documentCount" "I") (jWr_57 _ (List.mem_of_getElem? (i := 5) rfl)))
  have hlk_74 := (htw (.fieldLink RX14 74 "ProofServerModel" "documents" "[LProofServerModel$Document;") (jWr_11 _ (List.mem_of_getElem? (i := 19) rfl)))
  have hlk_508 := (va_Nw.use (A := ([.ref r0, .int a1] : List Value).toArray) rfl (hG.2.1 RX14 508 "ProofServerModel$Document" "uriLength" "I" "ProofServerModel" (List.mem_of_getElem? (i := 1732) (by decide +kernel))))
  have hlk_55 := (htw (.fieldLink RX14 55 "ProofServerModel" "to" "[I") (jWr_11 _ (List.mem_of_getElem? (i := 10) rfl)))
  have hlk_52 := (htw (.fieldLink RX14 52 "ProofServerModel" "from" "[I") (jWr_11 _ (List.mem_of_getElem? (i := 9) rfl)))
  have hlk_511 := (va_Nw.use (A := ([.ref r0, .int a1] : List Value).toArray) rfl (hG.2.1 RX14 511 "ProofServerModel$Document" "uri" "[I" "ProofServerModel" (List.mem_of_getElem? (i := 1731) (by decide +kernel))))
  have hlk_65 := (htw (.fieldLink RX14 65 "ProofServerModel" "pool" "[I") (jWr_11 _ (List.mem_of_getElem? (i := 14) rfl)))
  have hrg_a1 := jb_rng a1
  obtain ⟨sx_1, esx_1, hsx_1⟩ := hh.sat (C := RX14) (T := TX14) (N := 74) hB16 rfl (by decide) hg_r0 (i := 42) (by decide) rfl 1 rfl
  cases esx_1
  refine lv_aload_n hx hb dX14_documentOf_0 rfl (lv_at hl 0 rfl) ?_
  refine lv_iload_n hx hb dX14_documentOf_1 rfl (lv_at hl 1 rfl) ?_
  obtain ⟨v_4, hv_4, hh_5⟩ := hh.pin (C := RX14) (T := TX14) (N := 74) hB16 rfl (by decide) hg_r0 (i := 17) (by decide) rfl
  obtain ⟨sort_6, rfl, hg_sort_6⟩ := hv_4
  obtain ⟨f_fs_7, hh_7⟩ := hh_5.cpin hB117 (by decide) (by decide) hg_sort_6
  clear hh_5
  refine va_calli (A0 := jA base) (H0 := s.heap) (va_runV (As := [.int a1]) (rest := []) ⟨hx, hb, hml, hown, hts⟩ (uX14_isStringK l dC dI ca base B hB hAp hB16 hB117 G0 s.heap r0 a1 sort_6 f_fs_7) (cwV 1 hts (jgV (jWr_56 _ (List.mem_of_getElem? (i := 3) rfl)) (jWr_56 _ (List.mem_of_getElem? (i := 4) rfl)) (jWr_56 _ (List.mem_of_getElem? (i := 5) rfl)) (jWr_1 _ (List.mem_of_getElem? (i := 5) rfl)) (jWr_56 _ (List.mem_of_getElem? (i := 6) rfl))) rfl rfl rfl (by decide +kernel) ⟨by rw [← hR]; exact Nat.le_of_ble_eq_true rfl, by rw [← hR]; exact Nat.le_of_ble_eq_true rfl⟩) ⟨fun a U g mk q => by obtain ⟨q0, q1, q2, qK, q10, q11, q12, q13, q14⟩ := q; exact ⟨q0, q1, q2, jG.calling g mk a qK, q10, q11, q12, q13, q14⟩, hh_7.recv (C := RX14) (T := TX14) (N := 74) hB16 rfl (by decide) hg_r0 hK, fun U hU hW => ⟨rfl, hU, hh_7.2.1, hG.step hW hU hh_7.1, hg_r0, hg_sort_6, (hh_7.2.2.1.sub (L1 := [(r0, 16, 17, .ref sort_6)]) [0] rfl), (hh_7.2.2.2.2.2.2.2.1.sub (L1 := [(sort_6, 117, 3100, ca 1, f_fs_7)]) [0] rfl), by first | omega | rfl | assumption | decide | exact Or.inl rfl | exact Or.inr rfl | (simp only; omega)⟩⟩ rfl rfl hl.1 rfl (lv_room (Nat.le_of_ble_eq_true rfl)) dX14_documentOf_2 ⟨Nat.zero_le _, Nat.zero_le _⟩) hh_7.1 (fun q _ h => h) (fun q h => h) (fun r_3 u_2 t_2 H_2 locs_2 ht_2 hvm_2 hr_3 hb_2 hz_2 hk_2 hS_2 => ?_)
  rw [ht_2] at hb_2
  obtain ⟨hb_21, hb_22, hb_23, hb_24, hb_25⟩ := hb_2
  have hh_2 : jSt (dC, dI) B base G0 G0 EX14_documentOfK s.heap 0 0 [(r0, 16, 17, .ref sort_6), (r0, 16, 41, .ref dd), (r0, 16, 42, .int dc), (r0, 16, 60, .ref co), (r0, 16, 61, .ref cs), (r0, 16, 46, .ref ol), (r0, 16, 47, .ref nw), (r0, 16, 71, .ref td)] [(sort_6, 117, 3100, ca 1, f_fs_7), (cs, 207, 2, ca 1, fs)] [(jFs, jDY dC dI ca G0 none sn), (jF9, jVl dC dI G0 9 ck), ([(201, 0)], jQc dC dI (ca 4) dd 3 fd), ([(208, 0)], jQc dC dI (ca 4) co 2 fo)] H_2 locs_2 := ((hh_7.call hb_21 hb_22 hb_23 hb_24 hS_2 rfl (L1 := [(r0, 16, 17, .ref sort_6), (r0, 16, 41, .ref dd), (r0, 16, 42, .int dc), (r0, 16, 60, .ref co), (r0, 16, 61, .ref cs), (r0, 16, 46, .ref ol), (r0, 16, 47, .ref nw), (r0, 16, 71, .ref td)]) [0, 1, 2, 3, 4, 5, 6, 7] rfl rfl (M1 := [(sort_6, 117, 3100, ca 1, f_fs_7), (cs, 207, 2, ca 1, fs)]) [0, 1] rfl rfl (I1 := [(jFs, jDY dC dI ca G0 none sn), (jF9, jVl dC dI G0 9 ck), ([(201, 0)], jQc dC dI (ca 4) dd 3 fd), ([(208, 0)], jQc dC dI (ca 4) co 2 fo)]) [0, 1, 2, 3] rfl rfl).more hb_25)
  clear hh_7 ht_2 hvm_2 hz_2 hk_2 hS_2 hb_21 hb_22 hb_23 hb_24 hb_25
  obtain ⟨hr_3b, hr_3p⟩ := hr_3
  obtain ⟨hr_3p_0, hr_3p_1, hr_3p_2⟩ := hr_3p
  have hr_3' := jb_01 hr_3b
  refine lv_if_ne (tgt := 10) hx hb dX14_documentOf_5 (by decide) (fun c_8 => ?_) (fun c_8 => ?_)
  · skip
    have c_8' : r_3.toInt ≠ 0 := jb_ne (rfl) ((by decide)) c_8
    have hs0 := (hr_3p_2 (by omega)).1
    refine lv_iconst (v := 0) hx hb dX14_documentOf_10 (by decide) ?_
    refine lv_istore_n (lv' := [(2, .int 0), (0, .ref r0), (1, .int a1)]) hx hb dX14_documentOf_11 rfl hl (by decide) rfl (fun ls hl => ?_)
    have L12 : ∀ (N : Nat) (v2_9 : Int32) (H_9 : Heap) (locs_9 : List Loc), jSt (dC, dI) B base G0 G0 EX14_documentOfK s.heap 0 0 [(r0, 16, 17, .ref sort_6), (r0, 16, 41, .ref dd), (r0, 16, 42, .int dc), (r0, 16, 60, .ref co), (r0, 16, 61, .ref cs), (r0, 16, 46, .ref ol), (r0, 16, 47, .ref nw), (r0, 16, 71, .ref td)] [(sort_6, 117, 3100, ca 1, f_fs_7), (cs, 207, 2, ca 1, fs)] [(jFs, jDY dC dI ca G0 none sn), (jF9, jVl dC dI G0 9 ck), ([(201, 0)], jQc dC dI (ca 4) dd 3 fd), ([(208, 0)], jQc dC dI (ca 4) co 2 fo)] H_9 locs_9 → (0 ≤ v2_9.toInt ∧ v2_9.toInt ≤ dc.toInt) → (dc.toInt - v2_9.toInt : Int) < N → ∀ ls : Array Slot, lv_has ls 6 [(0, .ref r0), (1, .int a1), (2, .int v2_9)] → W p l e R s m ([.ref r0, .int a1] : List Value).toArray below meth c H_9 locs_9 0 0 Q (F0 m 12 ls []) := by
      intro N
      induction N with
      | zero => intro v2_9 H_9 locs_9 hh_9  hi_9 hm; exact absurd hm (by omega)
      | succ N L12 =>
        intro v2_9 H_9 locs_9 hh_9  hi_9 hm_9 ls hl
        obtain ⟨hi_9_0, hi_9_1⟩ := hi_9
        refine lv_iload_n hx hb dX14_documentOf_12 rfl (lv_at hl 2 rfl) ?_
        refine lv_aload_n hx hb dX14_documentOf_13 rfl (lv_at hl 0 rfl) ?_
        refine j7_read hx hb hown hK (C := RX14) (T := TX14) (N := 74) rfl hly_16_42 hlk_505 (hh_9.at 2 rfl) dX14_documentOf_14 ?_
        refine lv_icmp_ge (tgt := 121) hx hb dX14_documentOf_17 (by decide) (fun c_10 => ?_) (fun c_10 => ?_)
        · skip
          have c_10' : v2_9.toInt ≥ dc.toInt := jb_ge (rfl) (rfl) c_10
          refine lv_null hx hb dX14_documentOf_121 ?_
          rw [hQ]
          exact W.aret (v := .null) hx hb hr (Or.inl ⟨_, rfl⟩) (Or.inl rfl) (fun t ht hW => ⟨⟨.null, (), rfl, Or.inl rfl, hh_9.rt (M1 := []) [] rfl ht⟩, by rw [ht]; try exact hh_9.1.1, fun q h9 hq => by rw [ht]; try exact hh_9.1.2.1 q h9 hq⟩) hh_9.1.2.2 dX14_documentOf_122
        · skip
          have c_10' : v2_9.toInt < dc.toInt := jb_ge_n (rfl) (rfl) c_10
          refine lv_aload_n hx hb dX14_documentOf_20 rfl (lv_at hl 0 rfl) ?_
          refine j7_read hx hb hown hK (C := RX14) (T := TX14) (N := 74) rfl hly_16_41 hlk_74 (hh_9.at 1 rfl) dX14_documentOf_21 ?_
          refine lv_iload_n hx hb dX14_documentOf_24 rfl (lv_at hl 2 rfl) ?_
          refine j7_qaldI hx hb hK2 hh_9 hB201 0 rfl (by decide) hg_dd (x := v2_9.toInt) (rfl) (by omega) (hh_9.iv 2 rfl) dX14_documentOf_25 (fun o_11 ho_11 heo_11 => ?_)
          obtain ⟨el_12, rfl, hg_el_12⟩ := ho_11
          simp only [va_rf]
          refine lv_astore_n (lv' := [(3, .ref el_12), (0, .ref r0), (1, .int a1), (2, .int v2_9)]) hx hb dX14_documentOf_26 rfl hl (by decide) rfl (fun ls hl => ?_)
          refine lv_aload_n hx hb dX14_documentOf_27 rfl (lv_at hl 0 rfl) ?_
          obtain ⟨v_13, hv_13, hh_14⟩ := hh_9.pin (C := RX12) (T := TX12) (N := 11) hB14 rfl (by decide) hg_el_12 (i := 1) (by decide) rfl
          clear hh_9
          obtain ⟨uriLength_15, rfl, hlouriLength_15, hhiuriLength_15⟩ := hv_13
          refine j7_readN hx hb hown hK (C := RX12) (T := TX12) (N := 11) rfl hly_14_1 hlk_508 (hh_14.at 0 rfl) dX14_documentOf_28 ?_
          refine lv_aload_n hx hb dX14_documentOf_31 rfl (lv_at hl 1 rfl) ?_
          obtain ⟨v_16, hv_16, hh_17⟩ := hh_14.pin (C := RX14) (T := TX14) (N := 74) hB16 rfl (by decide) hg_r0 (i := 23) (by decide) rfl
          clear hh_14
          obtain ⟨to_18, rfl, hg_to_18⟩ := hv_16
          refine j7_read hx hb hown hK (C := RX14) (T := TX14) (N := 74) rfl hly_16_23 hlk_55 (hh_17.at 0 rfl) dX14_documentOf_32 ?_
          refine lv_iload_n hx hb dX14_documentOf_35 rfl (lv_at hl 2 rfl) ?_
          refine j7_iald hx hb hK hh_17 hB123 1 rfl (by decide) hg_to_18 (x := a1.toInt) (rfl) (by omega) dX14_documentOf_36 (fun z_19 (hz_19 : 0 ≤ z_19.toInt ∧ z_19.toInt ≤ 3100) => ?_)
          refine lv_aload_n hx hb dX14_documentOf_37 rfl (lv_at hl 1 rfl) ?_
          obtain ⟨v_20, hv_20, hh_21⟩ := hh_17.pin (C := RX14) (T := TX14) (N := 74) hB16 rfl (by decide) hg_r0 (i := 22) (by decide) rfl
          clear hh_17
          obtain ⟨from_22, rfl, hg_from_22⟩ := hv_20
          refine j7_read hx hb hown hK (C := RX14) (T := TX14) (N := 74) rfl hly_16_22 hlk_52 (hh_21.at 0 rfl) dX14_documentOf_38 ?_
          refine lv_iload_n hx hb dX14_documentOf_41 rfl (lv_at hl 2 rfl) ?_
          refine j7_iald hx hb hK hh_21 hB122 1 rfl (by decide) hg_from_22 (x := a1.toInt) (rfl) (by omega) dX14_documentOf_42 (fun z_23 (hz_23 : 0 ≤ z_23.toInt ∧ z_23.toInt ≤ 3100) => ?_)
          refine lv_isub hx hb dX14_documentOf_43 ?_
          refine lv_topi (fun z_24 ez_24 => ?_)
          have hz_24 : z_24.toInt = z_19.toInt - z_23.toInt := by rw [ez_24]; exact jb_isub2 (rfl) (rfl) (by omega)
          have C52 : ∀ (w0_25 : Int32) (H_25 : Heap) (locs_25 : List Loc), jSt (dC, dI) B base G0 G0 EX14_documentOfK s.heap 0 0 [(r0, 16, 22, .ref from_22), (r0, 16, 23, .ref to_18), (el_12, 14, 1, .int uriLength_15), (r0, 16, 17, .ref sort_6), (r0, 16, 41, .ref dd), (r0, 16, 42, .int dc), (r0, 16, 60, .ref co), (r0, 16, 61, .ref cs), (r0, 16, 46, .ref ol), (r0, 16, 47, .ref nw), (r0, 16, 71, .ref td)] [(sort_6, 117, 3100, ca 1, f_fs_7), (cs, 207, 2, ca 1, fs)] [(jFs, jDY dC dI ca G0 none sn), (jF9, jVl dC dI G0 9 ck), ([(201, 0)], jQc dC dI (ca 4) dd 3 fd), ([(208, 0)], jQc dC dI (ca 4) co 2 fo)] H_25 locs_25 → (w0_25 = 0 ∨ w0_25 = 1) → (True) → ∀ ls : Array Slot, lv_has ls 6 [(0, .ref r0), (1, .int a1), (2, .int v2_9), (3, .ref el_12)] → W p l e R s m ([.ref r0, .int a1] : List Value).toArray below meth c H_25 locs_25 0 0 Q (F0 m 52 ls [.int w0_25]) := by
            intro w0_25 H_25 locs_25 hh_25 hb_w0_25 hi_25 ls hl
            have hb_w0_25' := jb_01 hb_w0_25
            refine lv_istore (lv' := [(4, .int w0_25), (0, .ref r0), (1, .int a1), (2, .int v2_9), (3, .ref el_12)]) hx hb dX14_documentOf_52 hl (by decide) rfl (fun ls hl => ?_)
            refine lv_iconst (v := 0) hx hb dX14_documentOf_54 (by decide) ?_
            refine lv_istore (lv' := [(5, .int 0), (4, .int w0_25), (0, .ref r0), (1, .int a1), (2, .int v2_9), (3, .ref el_12)]) hx hb dX14_documentOf_55 hl (by decide) rfl (fun ls hl => ?_)
            have L57 : ∀ (N : Nat) (v4_26 : Int32) (v5_26 : Int32) (H_26 : Heap) (locs_26 : List Loc), jSt (dC, dI) B base G0 G0 EX14_documentOfK s.heap 0 0 [(r0, 16, 22, .ref from_22), (r0, 16, 23, .ref to_18), (el_12, 14, 1, .int uriLength_15), (r0, 16, 17, .ref sort_6), (r0, 16, 41, .ref dd), (r0, 16, 42, .int dc), (r0, 16, 60, .ref co), (r0, 16, 61, .ref cs), (r0, 16, 46, .ref ol), (r0, 16, 47, .ref nw), (r0, 16, 71, .ref td)] [(sort_6, 117, 3100, ca 1, f_fs_7), (cs, 207, 2, ca 1, fs)] [(jFs, jDY dC dI ca G0 none sn), (jF9, jVl dC dI G0 9 ck), ([(201, 0)], jQc dC dI (ca 4) dd 3 fd), ([(208, 0)], jQc dC dI (ca 4) co 2 fo)] H_26 locs_26 → (v4_26 = 0 ∨ v4_26 = 1) → (0 ≤ v5_26.toInt ∧ v5_26.toInt ≤ 40) → (40 - v5_26.toInt : Int) < N → ∀ ls : Array Slot, lv_has ls 6 [(0, .ref r0), (1, .int a1), (2, .int v2_9), (3, .ref el_12), (4, .int v4_26), (5, .int v5_26)] → W p l e R s m ([.ref r0, .int a1] : List Value).toArray below meth c H_26 locs_26 0 0 Q (F0 m 57 ls []) := by
              intro N
              induction N with
              | zero => intro v4_26 v5_26 H_26 locs_26 hh_26 hb_v4_26 hi_26 hm; exact absurd hm (by omega)
              | succ N L57 =>
                intro v4_26 v5_26 H_26 locs_26 hh_26 hb_v4_26 hi_26 hm_26 ls hl
                obtain ⟨hi_26_0, hi_26_1⟩ := hi_26
                have hb_v4_26' := jb_01 hb_v4_26
                refine lv_iload hx hb dX14_documentOf_57 (lv_at hl 5 rfl) ?_
                refine lv_aload_n hx hb dX14_documentOf_59 rfl (lv_at hl 3 rfl) ?_
                refine j7_readN hx hb hown hK (C := RX12) (T := TX12) (N := 11) rfl hly_14_1 hlk_508 (hh_26.at 2 rfl) dX14_documentOf_60 ?_
                refine lv_icmp_ge (tgt := 108) hx hb dX14_documentOf_63 (by decide) (fun c_27 => ?_) (fun c_27 => ?_)
                · skip
                  have c_27' : v5_26.toInt ≥ uriLength_15.toInt := jb_ge (rfl) (rfl) c_27
                  refine lv_iload hx hb dX14_documentOf_108 (lv_at hl 4 rfl) ?_
                  refine lv_if_eq (tgt := 115) hx hb dX14_documentOf_110 (by decide) (fun c_28 => ?_) (fun c_28 => ?_)
                  · skip
                    have c_28' : v4_26.toInt = 0 := jb_eq (rfl) ((by decide)) c_28
                    obtain ⟨z_29, ez_29⟩ : ∃ y : Int32, y = v2_9 + 1 := ⟨_, rfl⟩
                    refine lv_iinc (v := z_29) (lv' := [(2, .int z_29), (0, .ref r0), (1, .int a1), (3, .ref el_12), (4, .int v4_26), (5, .int v5_26)]) hx hb dX14_documentOf_115 hl (k := 2) rfl (by rw [ez_29]; rfl) (by decide) rfl (fun ls hl => ?_)
                    have hz_29 : z_29.toInt = v2_9.toInt + 1 := by rw [ez_29]; exact jb_iadd2 (rfl) (by decide) (by omega)
                    refine lv_goto (tgt := 12) hx hb dX14_documentOf_118 (by decide) ?_
                    exact L12 z_29 _ _ (hh_26.sub (L1 := [(r0, 16, 17, .ref sort_6), (r0, 16, 41, .ref dd), (r0, 16, 42, .int dc), (r0, 16, 60, .ref co), (r0, 16, 61, .ref cs), (r0, 16, 46, .ref ol), (r0, 16, 47, .ref nw), (r0, 16, 71, .ref td)]) [3, 4, 5, 6, 7, 8, 9, 10] rfl (M1 := [(sort_6, 117, 3100, ca 1, f_fs_7), (cs, 207, 2, ca 1, fs)]) [0, 1] rfl (I1 := [(jFs, jDY dC dI ca G0 none sn), (jF9, jVl dC dI G0 9 ck), ([(201, 0)], jQc dC dI (ca 4) dd 3 fd), ([(208, 0)], jQc dC dI (ca 4) co 2 fo)]) [0, 1, 2, 3] rfl) (by first | omega | (refine ⟨?_, ?_⟩ <;> (first | omega | rfl | assumption | decide | exact Or.inl rfl | exact Or.inr rfl | (simp only; omega)))) (by omega) _ (lv_sub hl [1, 2, 0] rfl)
                  · skip
                    have c_28' : v4_26.toInt ≠ 0 := jb_eq_n (rfl) ((by decide)) c_28
                    refine lv_aload_n hx hb dX14_documentOf_113 rfl (lv_at hl 3 rfl) ?_
                    rw [hQ]
                    exact W.aret (v := .ref el_12) hx hb hr (Or.inl ⟨_, rfl⟩) (Or.inr ⟨_, rfl⟩) (fun t ht hW => ⟨⟨.ref el_12, (), rfl, Or.inr ⟨_, rfl, hg_el_12, ⟨v2_9.toInt.toNat, by omega, by omega, heo_11.symm⟩⟩, hh_26.rt (M1 := []) [] rfl ht⟩, by rw [ht]; try exact hh_26.1.1, fun q h9 hq => by rw [ht]; try exact hh_26.1.2.1 q h9 hq⟩) hh_26.1.2.2 dX14_documentOf_114
                · skip
                  have c_27' : v5_26.toInt < uriLength_15.toInt := jb_ge_n (rfl) (rfl) c_27
                  refine lv_iload hx hb dX14_documentOf_66 (lv_at hl 4 rfl) ?_
                  refine lv_if_eq (tgt := 108) hx hb dX14_documentOf_68 (by decide) (fun c_30 => ?_) (fun c_30 => ?_)
                  · skip
                    have c_30' : v4_26.toInt = 0 := jb_eq (rfl) ((by decide)) c_30
                    refine lv_iload hx hb dX14_documentOf_108 (lv_at hl 4 rfl) ?_
                    refine lv_if_eq (tgt := 115) hx hb dX14_documentOf_110 (by decide) (fun c_31 => ?_) (fun c_31 => ?_)
                    · skip
                      have c_31' : v4_26.toInt = 0 := jb_eq (rfl) ((by decide)) c_31
                      obtain ⟨z_32, ez_32⟩ : ∃ y : Int32, y = v2_9 + 1 := ⟨_, rfl⟩
                      refine lv_iinc (v := z_32) (lv' := [(2, .int z_32), (0, .ref r0), (1, .int a1), (3, .ref el_12), (4, .int v4_26), (5, .int v5_26)]) hx hb dX14_documentOf_115 hl (k := 2) rfl (by rw [ez_32]; rfl) (by decide) rfl (fun ls hl => ?_)
                      have hz_32 : z_32.toInt = v2_9.toInt + 1 := by rw [ez_32]; exact jb_iadd2 (rfl) (by decide) (by omega)
                      refine lv_goto (tgt := 12) hx hb dX14_documentOf_118 (by decide) ?_
                      exact L12 z_32 _ _ (hh_26.sub (L1 := [(r0, 16, 17, .ref sort_6), (r0, 16, 41, .ref dd), (r0, 16, 42, .int dc), (r0, 16, 60, .ref co), (r0, 16, 61, .ref cs), (r0, 16, 46, .ref ol), (r0, 16, 47, .ref nw), (r0, 16, 71, .ref td)]) [3, 4, 5, 6, 7, 8, 9, 10] rfl (M1 := [(sort_6, 117, 3100, ca 1, f_fs_7), (cs, 207, 2, ca 1, fs)]) [0, 1] rfl (I1 := [(jFs, jDY dC dI ca G0 none sn), (jF9, jVl dC dI G0 9 ck), ([(201, 0)], jQc dC dI (ca 4) dd 3 fd), ([(208, 0)], jQc dC dI (ca 4) co 2 fo)]) [0, 1, 2, 3] rfl) (by first | omega | (refine ⟨?_, ?_⟩ <;> (first | omega | rfl | assumption | decide | exact Or.inl rfl | exact Or.inr rfl | (simp only; omega)))) (by omega) _ (lv_sub hl [1, 2, 0] rfl)
                    · skip
                      have c_31' : v4_26.toInt ≠ 0 := jb_eq_n (rfl) ((by decide)) c_31
                      exact (by omega : False).elim
                  · skip
                    have c_30' : v4_26.toInt ≠ 0 := jb_eq_n (rfl) ((by decide)) c_30
                    refine lv_aload_n hx hb dX14_documentOf_71 rfl (lv_at hl 3 rfl) ?_
                    obtain ⟨v_33, hv_33, hh_34⟩ := hh_26.pin (C := RX12) (T := TX12) (N := 11) hB14 rfl (by decide) hg_el_12 (i := 0) (by decide) rfl
                    clear hh_26
                    obtain ⟨uri_35, rfl, hg_uri_35⟩ := hv_33
                    refine j7_readN hx hb hown hK (C := RX12) (T := TX12) (N := 11) rfl hly_14_0 hlk_511 (hh_34.at 0 rfl) dX14_documentOf_72 ?_
                    refine lv_iload hx hb dX14_documentOf_75 (lv_at hl 5 rfl) ?_
                    refine j7_iald hx hb hK hh_34 hB101 1 rfl (by decide) hg_uri_35 (x := v5_26.toInt) (rfl) (by omega) dX14_documentOf_77 (fun z_36 (hz_36 : True) => ?_)
                    refine lv_aload_n hx hb dX14_documentOf_78 rfl (lv_at hl 0 rfl) ?_
                    obtain ⟨v_37, hv_37, hh_38⟩ := hh_34.pin (C := RX14) (T := TX14) (N := 74) hB16 rfl (by decide) hg_r0 (i := 27) (by decide) rfl
                    clear hh_34
                    obtain ⟨pool_39, rfl, hg_pool_39⟩ := hv_37
                    refine j7_read hx hb hown hK (C := RX14) (T := TX14) (N := 74) rfl hly_16_27 hlk_65 (hh_38.at 0 rfl) dX14_documentOf_79 ?_
                    refine lv_aload_n hx hb dX14_documentOf_82 rfl (lv_at hl 0 rfl) ?_
                    refine j7_read hx hb hown hK (C := RX14) (T := TX14) (N := 74) rfl hly_16_22 hlk_52 (hh_38.at 2 rfl) dX14_documentOf_83 ?_
                    refine lv_iload_n hx hb dX14_documentOf_86 rfl (lv_at hl 1 rfl) ?_
                    refine j7_iald hx hb hK hh_38 hB122 1 rfl (by decide) hg_from_22 (x := a1.toInt) (rfl) (by omega) dX14_documentOf_87 (fun z_40 (hz_40 : 0 ≤ z_40.toInt ∧ z_40.toInt ≤ 3100) => ?_)
                    refine lv_iload hx hb dX14_documentOf_88 (lv_at hl 5 rfl) ?_
                    refine lv_iadd hx hb dX14_documentOf_90 ?_
                    refine lv_topi (fun z_41 ez_41 => ?_)
                    have hz_41 : z_41.toInt = z_40.toInt + v5_26.toInt := by rw [ez_41]; exact jb_iadd2 (rfl) (rfl) (by omega)
                    refine j7_iald hx hb hK hh_38 hB127 1 rfl (by decide) hg_pool_39 (x := z_41.toInt) (rfl) (by omega) dX14_documentOf_91 (fun z_42 (hz_42 : True) => ?_)
                    refine lv_icmp_ne (tgt := 99) hx hb dX14_documentOf_92 (by decide) (fun c_43 => ?_) (fun c_43 => ?_)
                    · skip
                      have c_43' : z_36.toInt ≠ z_42.toInt := jb_ne (rfl) (rfl) c_43
                      refine lv_iconst (v := 0) hx hb dX14_documentOf_99 (by decide) ?_
                      refine lv_istore (lv' := [(4, .int 0), (0, .ref r0), (1, .int a1), (2, .int v2_9), (3, .ref el_12), (5, .int v5_26)]) hx hb dX14_documentOf_100 hl (by decide) rfl (fun ls hl => ?_)
                      obtain ⟨z_44, ez_44⟩ : ∃ y : Int32, y = v5_26 + 1 := ⟨_, rfl⟩
                      refine lv_iinc (v := z_44) (lv' := [(5, .int z_44), (4, .int 0), (0, .ref r0), (1, .int a1), (2, .int v2_9), (3, .ref el_12)]) hx hb dX14_documentOf_102 hl (k := 5) rfl (by rw [ez_44]; rfl) (by decide) rfl (fun ls hl => ?_)
                      have hz_44 : z_44.toInt = v5_26.toInt + 1 := by rw [ez_44]; exact jb_iadd2 (rfl) (by decide) (by omega)
                      refine lv_goto (tgt := 57) hx hb dX14_documentOf_105 (by decide) ?_
                      exact L57 0 z_44 _ _ (hh_38.sub (L1 := [(r0, 16, 22, .ref from_22), (r0, 16, 23, .ref to_18), (el_12, 14, 1, .int uriLength_15), (r0, 16, 17, .ref sort_6), (r0, 16, 41, .ref dd), (r0, 16, 42, .int dc), (r0, 16, 60, .ref co), (r0, 16, 61, .ref cs), (r0, 16, 46, .ref ol), (r0, 16, 47, .ref nw), (r0, 16, 71, .ref td)]) [2, 3, 4, 5, 6, 7, 8, 9, 10, 11, 12] rfl (M1 := [(sort_6, 117, 3100, ca 1, f_fs_7), (cs, 207, 2, ca 1, fs)]) [0, 1] rfl (I1 := [(jFs, jDY dC dI ca G0 none sn), (jF9, jVl dC dI G0 9 ck), ([(201, 0)], jQc dC dI (ca 4) dd 3 fd), ([(208, 0)], jQc dC dI (ca 4) co 2 fo)]) [0, 1, 2, 3] rfl) (Or.inl rfl) (by first | omega | (refine ⟨?_, ?_⟩ <;> (first | omega | rfl | assumption | decide | exact Or.inl rfl | exact Or.inr rfl | (simp only; omega)))) (by omega) _ (lv_sub hl [2, 3, 4, 5, 1, 0] rfl)
                    · skip
                      have c_43' : z_36.toInt = z_42.toInt := jb_ne_n (rfl) (rfl) c_43
                      refine lv_iconst (v := 1) hx hb dX14_documentOf_95 (by decide) ?_
                      refine lv_goto (tgt := 100) hx hb dX14_documentOf_96 (by decide) ?_
                      refine lv_istore (lv' := [(4, .int 1), (0, .ref r0), (1, .int a1), (2, .int v2_9), (3, .ref el_12), (5, .int v5_26)]) hx hb dX14_documentOf_100 hl (by decide) rfl (fun ls hl => ?_)
                      obtain ⟨z_45, ez_45⟩ : ∃ y : Int32, y = v5_26 + 1 := ⟨_, rfl⟩
                      refine lv_iinc (v := z_45) (lv' := [(5, .int z_45), (4, .int 1), (0, .ref r0), (1, .int a1), (2, .int v2_9), (3, .ref el_12)]) hx hb dX14_documentOf_102 hl (k := 5) rfl (by rw [ez_45]; rfl) (by decide) rfl (fun ls hl => ?_)
                      have hz_45 : z_45.toInt = v5_26.toInt + 1 := by rw [ez_45]; exact jb_iadd2 (rfl) (by decide) (by omega)
                      refine lv_goto (tgt := 57) hx hb dX14_documentOf_105 (by decide) ?_
                      exact L57 1 z_45 _ _ (hh_38.sub (L1 := [(r0, 16, 22, .ref from_22), (r0, 16, 23, .ref to_18), (el_12, 14, 1, .int uriLength_15), (r0, 16, 17, .ref sort_6), (r0, 16, 41, .ref dd), (r0, 16, 42, .int dc), (r0, 16, 60, .ref co), (r0, 16, 61, .ref cs), (r0, 16, 46, .ref ol), (r0, 16, 47, .ref nw), (r0, 16, 71, .ref td)]) [2, 3, 4, 5, 6, 7, 8, 9, 10, 11, 12] rfl (M1 := [(sort_6, 117, 3100, ca 1, f_fs_7), (cs, 207, 2, ca 1, fs)]) [0, 1] rfl (I1 := [(jFs, jDY dC dI ca G0 none sn), (jF9, jVl dC dI G0 9 ck), ([(201, 0)], jQc dC dI (ca 4) dd 3 fd), ([(208, 0)], jQc dC dI (ca 4) co 2 fo)]) [0, 1, 2, 3] rfl) (Or.inr rfl) (by first | omega | (refine ⟨?_, ?_⟩ <;> (first | omega | rfl | assumption | decide | exact Or.inl rfl | exact Or.inr rfl | (simp only; omega)))) (by omega) _ (lv_sub hl [2, 3, 4, 5, 1, 0] rfl)
            exact L57 (40 - (0 : Int32).toInt : Int).toNat.succ w0_25 0 _ _ hh_25 (hb_w0_25) (by first | omega | (refine ⟨?_, ?_⟩ <;> (first | omega | rfl | assumption | decide | exact Or.inl rfl | exact Or.inr rfl | (simp only; omega)))) (by omega) _ (lv_sub hl [2, 3, 4, 5, 1, 0] rfl)
          refine lv_icmp_ne (tgt := 51) hx hb dX14_documentOf_44 (by decide) (fun c_46 => ?_) (fun c_46 => ?_)
          · skip
            have c_46' : uriLength_15.toInt ≠ z_24.toInt := jb_ne (rfl) (rfl) c_46
            refine lv_iconst (v := 0) hx hb dX14_documentOf_51 (by decide) ?_
            exact C52 0 _ _ hh_21 (Or.inl rfl) (trivial) _ (lv_sub hl [1, 2, 3, 0] rfl)
          · skip
            have c_46' : uriLength_15.toInt = z_24.toInt := jb_ne_n (rfl) (rfl) c_46
            refine lv_iconst (v := 1) hx hb dX14_documentOf_47 (by decide) ?_
            refine lv_goto (tgt := 52) hx hb dX14_documentOf_48 (by decide) ?_
            exact C52 1 _ _ hh_21 (Or.inr rfl) (trivial) _ (lv_sub hl [1, 2, 3, 0] rfl)
    exact L12 (dc.toInt - (0 : Int32).toInt : Int).toNat.succ 0 _ _ hh_2 (by first | omega | (refine ⟨?_, ?_⟩ <;> (first | omega | rfl | assumption | decide | exact Or.inl rfl | exact Or.inr rfl | (simp only; omega)))) (by omega) _ (lv_sub hl [1, 2, 0] rfl)
  · skip
    have c_8' : r_3.toInt = 0 := jb_ne_n (rfl) ((by decide)) c_8
    refine lv_null hx hb dX14_documentOf_8 ?_
    rw [hQ]
    exact W.aret (v := .null) hx hb hr (Or.inl ⟨_, rfl⟩) (Or.inl rfl) (fun t ht hW => ⟨⟨.null, (), rfl, Or.inl rfl, hh_2.rt (M1 := []) [] rfl ht⟩, by rw [ht]; try exact hh_2.1.1, fun q h9 hq => by rw [ht]; try exact hh_2.1.2.1 q h9 hq⟩) hh_2.1.2.2 dX14_documentOf_9
end
section
theorem dX14_askGoals_0 : decode cX14_askGoals 0 = .ok (.aload_n 0, 1) := by decide +kernel
theorem dX14_askGoals_1 : decode cX14_askGoals 1 = .ok (.aload_n 0, 1) := by decide +kernel
theorem dX14_askGoals_2 : decode cX14_askGoals 2 = .ok (.aload_n 0, 1) := by decide +kernel
theorem dX14_askGoals_3 : decode cX14_askGoals 3 = .ok (.iload_n 1, 1) := by decide +kernel
theorem dX14_askGoals_4 : decode cX14_askGoals 4 = .ok (.ldc_w 514, 3) := by decide +kernel
theorem dX14_askGoals_7 : decode cX14_askGoals 7 = .ok (.invokevirtual 430, 3) := by decide +kernel
theorem dX14_askGoals_10 : decode cX14_askGoals 10 = .ok (.ldc_w 516, 3) := by decide +kernel
theorem dX14_askGoals_13 : decode cX14_askGoals 13 = .ok (.invokevirtual 430, 3) := by decide +kernel
theorem dX14_askGoals_16 : decode cX14_askGoals 16 = .ok (.invokevirtual 520, 3) := by decide +kernel
theorem dX14_askGoals_19 : decode cX14_askGoals 19 = .ok (.astore_n 2, 1) := by decide +kernel
theorem dX14_askGoals_20 : decode cX14_askGoals 20 = .ok (.aload_n 0, 1) := by decide +kernel
theorem dX14_askGoals_21 : decode cX14_askGoals 21 = .ok (.iload_n 1, 1) := by decide +kernel
theorem dX14_askGoals_22 : decode cX14_askGoals 22 = .ok (.ldc_w 695, 3) := by decide +kernel
theorem dX14_askGoals_25 : decode cX14_askGoals 25 = .ok (.invokevirtual 430, 3) := by decide +kernel
theorem dX14_askGoals_28 : decode cX14_askGoals 28 = .ok (.istore_n 3, 1) := by decide +kernel
theorem dX14_askGoals_29 : decode cX14_askGoals 29 = .ok (.aload_n 2, 1) := by decide +kernel
theorem dX14_askGoals_30 : decode cX14_askGoals 30 = .ok (.ifnull 35, 3) := by decide +kernel
theorem dX14_askGoals_33 : decode cX14_askGoals 33 = .ok (.aload_n 0, 1) := by decide +kernel
theorem dX14_askGoals_34 : decode cX14_askGoals 34 = .ok (.iload_n 3, 1) := by decide +kernel
theorem dX14_askGoals_35 : decode cX14_askGoals 35 = .ok (.invokevirtual 566, 3) := by decide +kernel
theorem dX14_askGoals_38 : decode cX14_askGoals 38 = .ok (.ifCond .eq 27, 3) := by decide +kernel
theorem dX14_askGoals_41 : decode cX14_askGoals 41 = .ok (.aload_n 2, 1) := by decide +kernel
theorem dX14_askGoals_42 : decode cX14_askGoals 42 = .ok (.getfield 529, 3) := by decide +kernel
theorem dX14_askGoals_45 : decode cX14_askGoals 45 = .ok (.aload_n 2, 1) := by decide +kernel
theorem dX14_askGoals_46 : decode cX14_askGoals 46 = .ok (.getfield 526, 3) := by decide +kernel
theorem dX14_askGoals_49 : decode cX14_askGoals 49 = .ok (.aload_n 0, 1) := by decide +kernel
theorem dX14_askGoals_50 : decode cX14_askGoals 50 = .ok (.iload_n 3, 1) := by decide +kernel
theorem dX14_askGoals_51 : decode cX14_askGoals 51 = .ok (.invokevirtual 556, 3) := by decide +kernel
theorem dX14_askGoals_54 : decode cX14_askGoals 54 = .ok (.aload_n 0, 1) := by decide +kernel
theorem dX14_askGoals_55 : decode cX14_askGoals 55 = .ok (.iload_n 3, 1) := by decide +kernel
theorem dX14_askGoals_56 : decode cX14_askGoals 56 = .ok (.invokevirtual 559, 3) := by decide +kernel
theorem dX14_askGoals_59 : decode cX14_askGoals 59 = .ok (.invokestatic 562, 3) := by decide +kernel
theorem dX14_askGoals_62 : decode cX14_askGoals 62 = .ok (.goto 4, 3) := by decide +kernel
theorem dX14_askGoals_65 : decode cX14_askGoals 65 = .ok (.iconst (-1), 1) := by decide +kernel
theorem dX14_askGoals_66 : decode cX14_askGoals 66 = .ok (.istore 4, 2) := by decide +kernel
theorem dX14_askGoals_68 : decode cX14_askGoals 68 = .ok (.iload 4, 2) := by decide +kernel
theorem dX14_askGoals_70 : decode cX14_askGoals 70 = .ok (.ifCond .ge 11, 3) := by decide +kernel
theorem dX14_askGoals_73 : decode cX14_askGoals 73 = .ok (.aload_n 0, 1) := by decide +kernel
theorem dX14_askGoals_74 : decode cX14_askGoals 74 = .ok (.sipush (-32602), 3) := by decide +kernel
theorem dX14_askGoals_77 : decode cX14_askGoals 77 = .ok (.invokevirtual 425, 3) := by decide +kernel
theorem dX14_askGoals_80 : decode cX14_askGoals 80 = .ok (.return_, 1) := by decide +kernel
theorem dX14_askGoals_81 : decode cX14_askGoals 81 = .ok (.iconst 0, 1) := by decide +kernel
theorem dX14_askGoals_82 : decode cX14_askGoals 82 = .ok (.istore 5, 2) := by decide +kernel
theorem dX14_askGoals_84 : decode cX14_askGoals 84 = .ok (.iload 5, 2) := by decide +kernel
theorem dX14_askGoals_86 : decode cX14_askGoals 86 = .ok (.aload_n 2, 1) := by decide +kernel
theorem dX14_askGoals_87 : decode cX14_askGoals 87 = .ok (.getfield 587, 3) := by decide +kernel
theorem dX14_askGoals_90 : decode cX14_askGoals 90 = .ok (.if_icmp .ge 21, 3) := by decide +kernel
theorem dX14_askGoals_93 : decode cX14_askGoals 93 = .ok (.aload_n 2, 1) := by decide +kernel
theorem dX14_askGoals_94 : decode cX14_askGoals 94 = .ok (.getfield 594, 3) := by decide +kernel
theorem dX14_askGoals_97 : decode cX14_askGoals 97 = .ok (.iload 5, 2) := by decide +kernel
theorem dX14_askGoals_99 : decode cX14_askGoals 99 = .ok (.iaload, 1) := by decide +kernel
theorem dX14_askGoals_100 : decode cX14_askGoals 100 = .ok (.iload 4, 2) := by decide +kernel
theorem dX14_askGoals_102 : decode cX14_askGoals 102 = .ok (.if_icmp .gt 9, 3) := by decide +kernel
theorem dX14_askGoals_105 : decode cX14_askGoals 105 = .ok (.iinc 5 1, 3) := by decide +kernel
theorem dX14_askGoals_108 : decode cX14_askGoals 108 = .ok (.goto (-24), 3) := by decide +kernel
theorem dX14_askGoals_111 : decode cX14_askGoals 111 = .ok (.aload_n 2, 1) := by decide +kernel
theorem dX14_askGoals_112 : decode cX14_askGoals 112 = .ok (.getfield 531, 3) := by decide +kernel
theorem dX14_askGoals_115 : decode cX14_askGoals 115 = .ok (.iload 5, 2) := by decide +kernel
theorem dX14_askGoals_117 : decode cX14_askGoals 117 = .ok (.if_icmp .lt 25, 3) := by decide +kernel
theorem dX14_askGoals_120 : decode cX14_askGoals 120 = .ok (.aload_n 0, 1) := by decide +kernel
theorem dX14_askGoals_121 : decode cX14_askGoals 121 = .ok (.invokevirtual 466, 3) := by decide +kernel
theorem dX14_askGoals_124 : decode cX14_askGoals 124 = .ok (.aload_n 0, 1) := by decide +kernel
theorem dX14_askGoals_125 : decode cX14_askGoals 125 = .ok (.aload_n 2, 1) := by decide +kernel
theorem dX14_askGoals_126 : decode cX14_askGoals 126 = .ok (.iload 5, 2) := by decide +kernel
theorem dX14_askGoals_128 : decode cX14_askGoals 128 = .ok (.invokevirtual 697, 3) := by decide +kernel
theorem dX14_askGoals_131 : decode cX14_askGoals 131 = .ok (.aload_n 0, 1) := by decide +kernel
theorem dX14_askGoals_132 : decode cX14_askGoals 132 = .ok (.invokevirtual 700, 3) := by decide +kernel
theorem dX14_askGoals_135 : decode cX14_askGoals 135 = .ok (.aload_n 0, 1) := by decide +kernel
theorem dX14_askGoals_136 : decode cX14_askGoals 136 = .ok (.invokevirtual 422, 3) := by decide +kernel
theorem dX14_askGoals_139 : decode cX14_askGoals 139 = .ok (.goto 12, 3) := by decide +kernel
theorem dX14_askGoals_142 : decode cX14_askGoals 142 = .ok (.aload_n 0, 1) := by decide +kernel
theorem dX14_askGoals_143 : decode cX14_askGoals 143 = .ok (.aload_n 2, 1) := by decide +kernel
theorem dX14_askGoals_144 : decode cX14_askGoals 144 = .ok (.iconst 1, 1) := by decide +kernel
theorem dX14_askGoals_145 : decode cX14_askGoals 145 = .ok (.iload 5, 2) := by decide +kernel
theorem dX14_askGoals_147 : decode cX14_askGoals 147 = .ok (.invokevirtual 703, 3) := by decide +kernel
theorem dX14_askGoals_150 : decode cX14_askGoals 150 = .ok (.pop, 1) := by decide +kernel
theorem dX14_askGoals_151 : decode cX14_askGoals 151 = .ok (.return_, 1) := by decide +kernel
theorem dX14_cancel_0 : decode cX14_cancel 0 = .ok (.aload_n 0, 1) := by decide +kernel
theorem dX14_cancel_1 : decode cX14_cancel 1 = .ok (.iload_n 1, 1) := by decide +kernel
theorem dX14_cancel_2 : decode cX14_cancel 2 = .ok (.ldc_w 428, 3) := by decide +kernel
theorem dX14_cancel_5 : decode cX14_cancel 5 = .ok (.invokevirtual 430, 3) := by decide +kernel
theorem dX14_cancel_8 : decode cX14_cancel 8 = .ok (.istore_n 2, 1) := by decide +kernel
theorem dX14_cancel_9 : decode cX14_cancel 9 = .ok (.iload_n 2, 1) := by decide +kernel
theorem dX14_cancel_10 : decode cX14_cancel 10 = .ok (.ifCond .lt 11, 3) := by decide +kernel
theorem dX14_cancel_13 : decode cX14_cancel 13 = .ok (.aload_n 0, 1) := by decide +kernel
theorem dX14_cancel_14 : decode cX14_cancel 14 = .ok (.iload_n 2, 1) := by decide +kernel
theorem dX14_cancel_15 : decode cX14_cancel 15 = .ok (.invokevirtual 445, 3) := by decide +kernel
theorem dX14_cancel_18 : decode cX14_cancel 18 = .ok (.ifCond .ne 4, 3) := by decide +kernel
theorem dX14_cancel_21 : decode cX14_cancel 21 = .ok (.return_, 1) := by decide +kernel
theorem dX14_cancel_22 : decode cX14_cancel 22 = .ok (.iconst 0, 1) := by decide +kernel
theorem dX14_cancel_23 : decode cX14_cancel 23 = .ok (.istore_n 3, 1) := by decide +kernel
theorem dX14_cancel_24 : decode cX14_cancel 24 = .ok (.iload_n 3, 1) := by decide +kernel
theorem dX14_cancel_25 : decode cX14_cancel 25 = .ok (.aload_n 0, 1) := by decide +kernel
theorem dX14_cancel_26 : decode cX14_cancel 26 = .ok (.getfield 711, 3) := by decide +kernel
theorem dX14_cancel_29 : decode cX14_cancel 29 = .ok (.if_icmp .ge 34, 3) := by decide +kernel
theorem dX14_cancel_32 : decode cX14_cancel 32 = .ok (.aload_n 0, 1) := by decide +kernel
theorem dX14_cancel_33 : decode cX14_cancel 33 = .ok (.iload_n 3, 1) := by decide +kernel
theorem dX14_cancel_34 : decode cX14_cancel 34 = .ok (.iload_n 2, 1) := by decide +kernel
theorem dX14_cancel_35 : decode cX14_cancel 35 = .ok (.invokevirtual 714, 3) := by decide +kernel
theorem dX14_cancel_38 : decode cX14_cancel 38 = .ok (.ifCond .ne 6, 3) := by decide +kernel
theorem dX14_cancel_41 : decode cX14_cancel 41 = .ok (.goto 16, 3) := by decide +kernel
theorem dX14_cancel_44 : decode cX14_cancel 44 = .ok (.aload_n 0, 1) := by decide +kernel
theorem dX14_cancel_45 : decode cX14_cancel 45 = .ok (.iload_n 3, 1) := by decide +kernel
theorem dX14_cancel_46 : decode cX14_cancel 46 = .ok (.invokevirtual 718, 3) := by decide +kernel
theorem dX14_cancel_49 : decode cX14_cancel 49 = .ok (.aload_n 0, 1) := by decide +kernel
theorem dX14_cancel_50 : decode cX14_cancel 50 = .ok (.ldc_w 414, 3) := by decide +kernel
theorem dX14_cancel_53 : decode cX14_cancel 53 = .ok (.invokevirtual 425, 3) := by decide +kernel
theorem dX14_cancel_56 : decode cX14_cancel 56 = .ok (.return_, 1) := by decide +kernel
theorem dX14_cancel_57 : decode cX14_cancel 57 = .ok (.iinc 3 1, 3) := by decide +kernel
theorem dX14_cancel_60 : decode cX14_cancel 60 = .ok (.goto (-36), 3) := by decide +kernel
theorem dX14_cancel_63 : decode cX14_cancel 63 = .ok (.return_, 1) := by decide +kernel
def EX14_waitForK : List (Nat × Nat) := [(16, 3), (16, 4), (16, 6), (16, 48), (101, 0), (103, 0), (202, 0), (203, 0), (206, 0)]
set_option maxHeartbeats 4000000 in
set_option maxRecDepth 20000 in
theorem uX14_waitForK (l : Launch) (dC : Nat → ClassId) (dI : Nat → Nat → Nat) (ca : Nat → ClassId) (base : Nat) (B : jF) (hB : jBok B) (hAp : jAp (dC, dI)) (hB14 : ∀ n G a H, B 14 n G a H ↔ jOb (dC, dI) 14 11 (F14 n G) a H) (hB16 : ∀ n G a H, B 16 n G a H ↔ jOb (dC, dI) 16 74 (F16 n G) a H) (hB101 : ∀ n G a H, B 101 n G a H ↔ jAr (dC, dI) (ca 1) (fun j z => True) n a H) (hB103 : ∀ n G a H, B 103 n G a H ↔ jAr (dC, dI) (ca 3) (fun j z => (z = 0 ∨ z = 1)) n a H) (hB202 : ∀ n G a H, B 202 n G a H ↔ jAq (dC, dI) (ca 4) (jQn 14 0) n G a H) (hB203 : ∀ n G a H, B 203 n G a H ↔ jAr (dC, dI) (ca 1) (fun j z => -3300 ≤ z.toInt ∧ z.toInt ≤ 20) n a H) (hB206 : ∀ n G a H, B 206 n G a H ↔ jAr (dC, dI) (ca 1) (fun j z => 0 ≤ z.toInt ∧ z.toInt ≤ 40) n a H) (G0 : jT) (H0 : Heap) (r0 : Nat) (r1 : Nat) (a2 : Int32) (a3 : Int32) : Met l yX14_waitFor (jw yX14_waitFor cX14_waitFor 5 (some .boolean)) ({ frames := 15, cells := 0, slots := 0, locals := 526 }) (va_Pc [.ref r0, .ref r1, .int a2, .int a3] (fun U => U.heap = H0 ∧ jX B base G0 [] H0 ∧ jG dC dI ca base U ∧ jK2 dC dI ca U ∧ G0 r1 = some (14, 0) ∧ G0 r0 = some (16, 0) ∧ (a2 = 0 ∨ a2 = 1) ∧ jP (dC, dI) G0 H0 [] ∧ 0 ≤ a3.toInt ∧ a3.toInt ≤ 40)) (va_Qi (S := Int32) (fun r u => (r = 0 ∨ r = 1) ∧ (r.toInt = 0 ∨ (1 ≤ u.toInt ∧ u.toInt ≤ 12))) (fun u t => jRt (dC, dI) B base G0 EX14_waitForK H0 [(r0, 16, 48, .int u)] t.heap) (jA base)) 0 0 (jA base) := by
  refine Met.ofW (cc := cX14_waitFor) (maxL := 5) (ret := (some .boolean)) (by decide) rfl ?_
  intro p e s m args below meth c s₁ Bd hml hv
  obtain ⟨rfl, hH0, hX, hG, hK2, hg_r1, hg_r0, hz_a2, hP0, hp0, hp1⟩ := hv
  have hK := hG.1
  have hx := Bd.exec
  have hb := Bd.bytes
  have hr := Bd.returns
  have hts := atoms_spec (ws := (jw yX14_waitFor cX14_waitFor 5 (some .boolean))) Bd.pre
  have htw : ∀ w ∈ jWl, w.before _ s = true := fun w h => hts w (List.mem_cons_of_mem _ h)
  have hown : s.vm.findClass RX14 = some m.cls := findClass_of_methodNamed Bd.named
  have hlocks := Bd.notSynchronized
  obtain ⟨Q, hQ⟩ : ∃ Q, Q = MQ below (va_Qi (S := Int32) (fun r u => (r = 0 ∨ r = 1) ∧ (r.toInt = 0 ∨ (1 ≤ u.toInt ∧ u.toInt ≤ 12))) (fun u t => jRt (dC, dI) B base G0 EX14_waitForK H0 [(r0, 16, 48, .int u)] t.heap) (jA base)) ([.ref r0, .ref r1, .int a2, .int a3] : List Value).toArray s 0 0 (jA base) := ⟨_, rfl⟩
  rw [← hQ]
  have hl := lv_entry ([.ref r0, .ref r1, .int a2, .int a3]) (n := 5) (Nat.le_of_ble_eq_true rfl)
  rw [lg_entry_eq]
  generalize (lg_sl ([.ref r0, .ref r1, .int a2, .int a3]) ++ List.replicate (5 - (lg_sl ([.ref r0, .ref r1, .int a2, .int a3])).length) Slot.unset).toArray = ls at hl ⊢
  have hl : lv_has ls 5 [(0, .ref r0), (1, .ref r1), (2, .int a2), (3, .int a3)] := hl
  generalize hR : (headSpec (jw yX14_waitFor cX14_waitFor 5 (some .boolean)) ({ frames := 15, cells := 0, slots := 0, locals := 526 })).room = R
  subst hH0
  have hh : jSt (dC, dI) B base G0 G0 EX14_waitForK s.heap 0 0 [] [] [] s.heap [] := jSt.start hX hP0 jMc.nil jIs.nil
  clear hX hP0
  have hkm32600 : ((-32600) : Int32).toInt = (-32600) := by decide
  have hk0 : (0 : Int32).toInt = 0 := by decide
  have hk1 : (1 : Int32).toInt = 1 := by decide
  have hk12 : (12 : Int32).toInt = 12 := by decide
  have hk20 : (20 : Int32).toInt = 20 := by decide
  have hly_16_36 := htw (u_lay RX14 TX14 36) (jWc_wsX140 _ (u_in_lay (by decide)))
  have hly_16_37 := htw (u_lay RX14 TX14 37) (jWc_wsX140 _ (u_in_lay (by decide)))
  have hly_16_38 := htw (u_lay RX14 TX14 38) (jWc_wsX140 _ (u_in_lay (by decide)))
  have hly_16_39 := htw (u_lay RX14 TX14 39) (jWc_wsX140 _ (u_in_lay (by decide)))
  have hly_16_48 := htw (u_lay RX14 TX14 48) (jWc_wsX140 _ (u_in_lay (by decide)))
  have hly_16_49 := htw (u_lay RX14 TX14 49) (jWc_wsX140 _ (u_in_lay (by decide)))
  have hly_16_50 := htw (u_lay RX14 TX14 50) (jWc_wsX140 _ (u_in_lay (by decide)))
  have hly_16_51 := htw (u_lay RX14 TX14 51) (jWc_wsX140 _ (u_in_lay (by decide)))
  have hly_16_52 := htw (u_lay RX14 TX14 52) (jWc_wsX140 _ (u_in_lay (by decide)))
  have hly_16_53 := htw (u_lay RX14 TX14 53) (jWc_wsX140 _ (u_in_lay (by decide)))
  have hly_16_54 := htw (u_lay RX14 TX14 54) (jWc_wsX140 _ (u_in_lay (by decide)))
  have hly_16_55 := htw (u_lay RX14 TX14 55) (jWc_wsX140 _ (u_in_lay (by decide)))
  have hlk_711 := (htw (.fieldLink RX14 711 "ProofServerModel" "waits" "I") (jWr_58 _ (List.mem_of_getElem? (i := 11) rfl)))
  have hlk_91 := (htw (.fieldLink RX14 91 "ProofServerModel" "waitOf" "[LProofServerModel$Document;") (jWr_12 _ (List.mem_of_getElem? (i := 0) rfl)))
  have hlk_94 := (htw (.fieldLink RX14 94 "ProofServerModel" "waitGoals" "[Z") (jWr_12 _ (List.mem_of_getElem? (i := 1) rfl)))
  have hlk_97 := (htw (.fieldLink RX14 97 "ProofServerModel" "waitNeed" "[I") (jWr_12 _ (List.mem_of_getElem? (i := 2) rfl)))
  have hlk_100 := (htw (.fieldLink RX14 100 "ProofServerModel" "waitString" "[Z") (jWr_12 _ (List.mem_of_getElem? (i := 3) rfl)))
  have hlk_377 := (htw (.fieldLink RX14 377 "ProofServerModel" "idString" "Z") (jWr_53 _ (List.mem_of_getElem? (i := 19) rfl)))
  have hlk_103 := (htw (.fieldLink RX14 103 "ProofServerModel" "waitInt" "[I") (jWr_12 _ (List.mem_of_getElem? (i := 4) rfl)))
  have hlk_380 := (htw (.fieldLink RX14 380 "ProofServerModel" "idInt" "I") (jWr_53 _ (List.mem_of_getElem? (i := 21) rfl)))
  have hlk_109 := (htw (.fieldLink RX14 109 "ProofServerModel" "waitLength" "[I") (jWr_12 _ (List.mem_of_getElem? (i := 6) rfl)))
  have hlk_383 := (htw (.fieldLink RX14 383 "ProofServerModel" "idLength" "I") (jWr_53 _ (List.mem_of_getElem? (i := 20) rfl)))
  have hlk_106 := (htw (.fieldLink RX14 106 "ProofServerModel" "waitUnits" "[I") (jWr_12 _ (List.mem_of_getElem? (i := 5) rfl)))
  have hlk_68 := (htw (.fieldLink RX14 68 "ProofServerModel" "idUnits" "[I") (jWr_11 _ (List.mem_of_getElem? (i := 15) rfl)))
  have hrg_a2 := jb_rng a2
  have hrg_a3 := jb_rng a3
  refine lv_aload_n hx hb dX14_waitFor_0 rfl (lv_at hl 0 rfl) ?_
  obtain ⟨v_1, hv_1, hh_2⟩ := hh.pin (C := RX14) (T := TX14) (N := 74) hB16 rfl (by decide) hg_r0 (i := 48) (by decide) rfl
  clear hh
  obtain ⟨waits_3, rfl, hlowaits_3, hhiwaits_3⟩ := hv_1
  refine j7_read hx hb hown hK (C := RX14) (T := TX14) (N := 74) rfl hly_16_48 hlk_711 (hh_2.at 0 rfl) dX14_waitFor_1 ?_
  refine lv_bipush (v := 12) hx hb dX14_waitFor_4 (by decide) ?_
  refine lv_icmp_ne (tgt := 18) hx hb dX14_waitFor_6 (by decide) (fun c_4 => ?_) (fun c_4 => ?_)
  · skip
    have c_4' : waits_3.toInt ≠ 12 := jb_ne (rfl) ((by decide)) c_4
    refine lv_aload_n hx hb dX14_waitFor_18 rfl (lv_at hl 0 rfl) ?_
    obtain ⟨v_5, hv_5, hh_6⟩ := hh_2.pin (C := RX14) (T := TX14) (N := 74) hB16 rfl (by decide) hg_r0 (i := 49) (by decide) rfl
    clear hh_2
    obtain ⟨waitOf_7, rfl, hg_waitOf_7⟩ := hv_5
    refine j7_read hx hb hown hK (C := RX14) (T := TX14) (N := 74) rfl hly_16_49 hlk_91 (hh_6.at 0 rfl) dX14_waitFor_19 ?_
    refine lv_aload_n hx hb dX14_waitFor_22 rfl (lv_at hl 0 rfl) ?_
    refine j7_read hx hb hown hK (C := RX14) (T := TX14) (N := 74) rfl hly_16_48 hlk_711 (hh_6.at 1 rfl) dX14_waitFor_23 ?_
    refine lv_aload_n hx hb dX14_waitFor_26 rfl (lv_at hl 1 rfl) ?_
    refine j7_qast hx hb hK2 hh_6 hB hB202 0 rfl (by decide) (by decide) rfl rfl rfl hg_waitOf_7 (x := waits_3.toInt) (rfl) (by omega) hB14 (T := TX12) (N := 11) rfl (by decide) hg_r1 (Or.inr ⟨_, rfl, hg_r1⟩) dX14_waitFor_27 (fun H_8 locs_8 hh_8 => ?_)
    clear hh_6
    refine lv_aload_n hx hb dX14_waitFor_28 rfl (lv_at hl 0 rfl) ?_
    obtain ⟨v_9, hv_9, hh_10⟩ := hh_8.pin (C := RX14) (T := TX14) (N := 74) hB16 rfl (by decide) hg_r0 (i := 50) (by decide) rfl
    clear hh_8
    obtain ⟨waitGoals_11, rfl, hg_waitGoals_11⟩ := hv_9
    refine j7_read hx hb hown hK (C := RX14) (T := TX14) (N := 74) rfl hly_16_50 hlk_94 (hh_10.at 0 rfl) dX14_waitFor_29 ?_
    refine lv_aload_n hx hb dX14_waitFor_32 rfl (lv_at hl 0 rfl) ?_
    refine j7_read hx hb hown hK (C := RX14) (T := TX14) (N := 74) rfl hly_16_48 hlk_711 (hh_10.at 2 rfl) dX14_waitFor_33 ?_
    refine lv_iload_n hx hb dX14_waitFor_36 rfl (lv_at hl 2 rfl) ?_
    refine j7_zast hx hb hK hh_10 hB hB103 3 rfl (by decide) (by decide) rfl rfl rfl hg_waitGoals_11 (x := waits_3.toInt) (rfl) (by omega) (hz_a2) (hz_a2) dX14_waitFor_37 (fun H_12 locs_12 hh_12 => ?_)
    clear hh_10
    refine lv_aload_n hx hb dX14_waitFor_38 rfl (lv_at hl 0 rfl) ?_
    obtain ⟨v_13, hv_13, hh_14⟩ := hh_12.pin (C := RX14) (T := TX14) (N := 74) hB16 rfl (by decide) hg_r0 (i := 51) (by decide) rfl
    clear hh_12
    obtain ⟨waitNeed_15, rfl, hg_waitNeed_15⟩ := hv_13
    refine j7_read hx hb hown hK (C := RX14) (T := TX14) (N := 74) rfl hly_16_51 hlk_97 (hh_14.at 0 rfl) dX14_waitFor_39 ?_
    refine lv_aload_n hx hb dX14_waitFor_42 rfl (lv_at hl 0 rfl) ?_
    refine j7_read hx hb hown hK (C := RX14) (T := TX14) (N := 74) rfl hly_16_48 hlk_711 (hh_14.at 3 rfl) dX14_waitFor_43 ?_
    refine lv_iload_n hx hb dX14_waitFor_46 rfl (lv_at hl 3 rfl) ?_
    refine j7_iast hx hb hK hh_14 hB hB206 1 rfl (by decide) (by decide) rfl rfl rfl hg_waitNeed_15 (x := waits_3.toInt) (rfl) (by omega) (by first | omega | (refine ⟨?_, ?_⟩ <;> (first | omega | rfl | assumption | decide | exact Or.inl rfl | exact Or.inr rfl | (simp only; omega)))) dX14_waitFor_47 (fun H_16 locs_16 hh_16 => ?_)
    clear hh_14
    refine lv_aload_n hx hb dX14_waitFor_48 rfl (lv_at hl 0 rfl) ?_
    obtain ⟨v_17, hv_17, hh_18⟩ := hh_16.pin (C := RX14) (T := TX14) (N := 74) hB16 rfl (by decide) hg_r0 (i := 52) (by decide) rfl
    clear hh_16
    obtain ⟨waitString_19, rfl, hg_waitString_19⟩ := hv_17
    refine j7_read hx hb hown hK (C := RX14) (T := TX14) (N := 74) rfl hly_16_52 hlk_100 (hh_18.at 0 rfl) dX14_waitFor_49 ?_
    refine lv_aload_n hx hb dX14_waitFor_52 rfl (lv_at hl 0 rfl) ?_
    refine j7_read hx hb hown hK (C := RX14) (T := TX14) (N := 74) rfl hly_16_48 hlk_711 (hh_18.at 4 rfl) dX14_waitFor_53 ?_
    refine lv_aload_n hx hb dX14_waitFor_56 rfl (lv_at hl 0 rfl) ?_
    obtain ⟨v_20, hv_20, hh_21⟩ := hh_18.pin (C := RX14) (T := TX14) (N := 74) hB16 rfl (by decide) hg_r0 (i := 36) (by decide) rfl
    clear hh_18
    obtain ⟨idString_22, rfl, hzidString_22⟩ := hv_20
    have hzidString_22' := jb_01 hzidString_22
    refine j7_read hx hb hown hK (C := RX14) (T := TX14) (N := 74) rfl hly_16_36 hlk_377 (hh_21.at 0 rfl) dX14_waitFor_57 ?_
    refine j7_zast hx hb hK hh_21 hB hB103 3 rfl (by decide) (by decide) rfl rfl rfl hg_waitString_19 (x := waits_3.toInt) (rfl) (by omega) (hzidString_22) (hzidString_22) dX14_waitFor_60 (fun H_23 locs_23 hh_23 => ?_)
    clear hh_21
    refine lv_aload_n hx hb dX14_waitFor_61 rfl (lv_at hl 0 rfl) ?_
    obtain ⟨v_24, hv_24, hh_25⟩ := hh_23.pin (C := RX14) (T := TX14) (N := 74) hB16 rfl (by decide) hg_r0 (i := 53) (by decide) rfl
    clear hh_23
    obtain ⟨waitInt_26, rfl, hg_waitInt_26⟩ := hv_24
    refine j7_read hx hb hown hK (C := RX14) (T := TX14) (N := 74) rfl hly_16_53 hlk_103 (hh_25.at 0 rfl) dX14_waitFor_62 ?_
    refine lv_aload_n hx hb dX14_waitFor_65 rfl (lv_at hl 0 rfl) ?_
    refine j7_read hx hb hown hK (C := RX14) (T := TX14) (N := 74) rfl hly_16_48 hlk_711 (hh_25.at 6 rfl) dX14_waitFor_66 ?_
    refine lv_aload_n hx hb dX14_waitFor_69 rfl (lv_at hl 0 rfl) ?_
    obtain ⟨v_27, hv_27, hh_28⟩ := hh_25.pin (C := RX14) (T := TX14) (N := 74) hB16 rfl (by decide) hg_r0 (i := 37) (by decide) rfl
    clear hh_25
    obtain ⟨idInt_29, rfl⟩ := hv_27
    refine j7_read hx hb hown hK (C := RX14) (T := TX14) (N := 74) rfl hly_16_37 hlk_380 (hh_28.at 0 rfl) dX14_waitFor_70 ?_
    refine j7_iast hx hb hK hh_28 hB hB101 1 rfl (by decide) (by decide) rfl rfl rfl hg_waitInt_26 (x := waits_3.toInt) (rfl) (by omega) (trivial) dX14_waitFor_73 (fun H_30 locs_30 hh_30 => ?_)
    clear hh_28
    refine lv_aload_n hx hb dX14_waitFor_74 rfl (lv_at hl 0 rfl) ?_
    obtain ⟨v_31, hv_31, hh_32⟩ := hh_30.pin (C := RX14) (T := TX14) (N := 74) hB16 rfl (by decide) hg_r0 (i := 55) (by decide) rfl
    clear hh_30
    obtain ⟨waitLength_33, rfl, hg_waitLength_33⟩ := hv_31
    refine j7_read hx hb hown hK (C := RX14) (T := TX14) (N := 74) rfl hly_16_55 hlk_109 (hh_32.at 0 rfl) dX14_waitFor_75 ?_
    refine lv_aload_n hx hb dX14_waitFor_78 rfl (lv_at hl 0 rfl) ?_
    refine j7_read hx hb hown hK (C := RX14) (T := TX14) (N := 74) rfl hly_16_48 hlk_711 (hh_32.at 8 rfl) dX14_waitFor_79 ?_
    refine lv_aload_n hx hb dX14_waitFor_82 rfl (lv_at hl 0 rfl) ?_
    obtain ⟨v_34, hv_34, hh_35⟩ := hh_32.pin (C := RX14) (T := TX14) (N := 74) hB16 rfl (by decide) hg_r0 (i := 39) (by decide) rfl
    clear hh_32
    obtain ⟨idLength_36, rfl, hloidLength_36, hhiidLength_36⟩ := hv_34
    refine j7_read hx hb hown hK (C := RX14) (T := TX14) (N := 74) rfl hly_16_39 hlk_383 (hh_35.at 0 rfl) dX14_waitFor_83 ?_
    refine j7_iast hx hb hK hh_35 hB hB203 1 rfl (by decide) (by decide) rfl rfl rfl hg_waitLength_33 (x := waits_3.toInt) (rfl) (by omega) (by first | omega | (refine ⟨?_, ?_⟩ <;> (first | omega | rfl | assumption | decide | exact Or.inl rfl | exact Or.inr rfl | (simp only; omega)))) dX14_waitFor_86 (fun H_37 locs_37 hh_37 => ?_)
    clear hh_35
    refine lv_iconst (v := 0) hx hb dX14_waitFor_87 (by decide) ?_
    refine lv_istore (lv' := [(4, .int 0), (0, .ref r0), (1, .ref r1), (2, .int a2), (3, .int a3)]) hx hb dX14_waitFor_88 hl (by decide) rfl (fun ls hl => ?_)
    have L90 : ∀ (N : Nat) (v4_38 : Int32) (H_38 : Heap) (locs_38 : List Loc), jSt (dC, dI) B base G0 G0 EX14_waitForK s.heap 0 0 [(r0, 16, 39, .int idLength_36), (r0, 16, 55, .ref waitLength_33), (r0, 16, 37, .int idInt_29), (r0, 16, 53, .ref waitInt_26), (r0, 16, 36, .int idString_22), (r0, 16, 52, .ref waitString_19), (r0, 16, 51, .ref waitNeed_15), (r0, 16, 50, .ref waitGoals_11), (r0, 16, 49, .ref waitOf_7), (r0, 16, 48, .int waits_3)] [] [] H_38 locs_38 → (0 ≤ v4_38.toInt ∧ v4_38.toInt ≤ 20) → (20 - v4_38.toInt : Int) < N → ∀ ls : Array Slot, lv_has ls 5 [(0, .ref r0), (1, .ref r1), (2, .int a2), (3, .int a3), (4, .int v4_38)] → W p l e R s m ([.ref r0, .ref r1, .int a2, .int a3] : List Value).toArray below meth c H_38 locs_38 0 0 Q (F0 m 90 ls []) := by
      intro N
      induction N with
      | zero => intro v4_38 H_38 locs_38 hh_38  hi_38 hm; exact absurd hm (by omega)
      | succ N L90 =>
        intro v4_38 H_38 locs_38 hh_38  hi_38 hm_38 ls hl
        obtain ⟨hi_38_0, hi_38_1⟩ := hi_38
        refine lv_iload hx hb dX14_waitFor_90 (lv_at hl 4 rfl) ?_
        refine lv_aload_n hx hb dX14_waitFor_92 rfl (lv_at hl 0 rfl) ?_
        refine j7_read hx hb hown hK (C := RX14) (T := TX14) (N := 74) rfl hly_16_39 hlk_383 (hh_38.at 0 rfl) dX14_waitFor_93 ?_
        refine lv_icmp_ge (tgt := 127) hx hb dX14_waitFor_96 (by decide) (fun c_39 => ?_) (fun c_39 => ?_)
        · skip
          have c_39' : v4_38.toInt ≥ idLength_36.toInt := jb_ge (rfl) (rfl) c_39
          refine lv_aload_n hx hb dX14_waitFor_127 rfl (lv_at hl 0 rfl) ?_
          refine lv_dup hx hb dX14_waitFor_128 rfl ?_
          refine j7_read hx hb hown hK (C := RX14) (T := TX14) (N := 74) rfl hly_16_48 hlk_711 (hh_38.at 9 rfl) dX14_waitFor_129 ?_
          refine lv_iconst (v := 1) hx hb dX14_waitFor_132 (by decide) ?_
          refine lv_iadd hx hb dX14_waitFor_133 ?_
          refine lv_topi (fun z_40 ez_40 => ?_)
          have hz_40 : z_40.toInt = waits_3.toInt + 1 := by rw [ez_40]; exact jb_iadd2 (rfl) ((by decide)) (by omega)
          refine j7_put hx hb hown hK hh_38 hB hAp hB16 (C := RX14) (T := TX14) (N := 74) rfl (by decide) hg_r0 (i := 48) (by decide) hly_16_48 rfl hlk_711 rfl (ty := .int) (v := .int z_40) (by decide +kernel) rfl rfl (⟨_, rfl, by omega, by omega⟩) rfl (L1 := [(r0, 16, 39, .int idLength_36), (r0, 16, 55, .ref waitLength_33), (r0, 16, 37, .int idInt_29), (r0, 16, 53, .ref waitInt_26), (r0, 16, 36, .int idString_22), (r0, 16, 52, .ref waitString_19), (r0, 16, 51, .ref waitNeed_15), (r0, 16, 50, .ref waitGoals_11), (r0, 16, 49, .ref waitOf_7)]) [0, 1, 2, 3, 4, 5, 6, 7, 8] rfl rfl rfl dX14_waitFor_134 (fun H_41 locs_41 hh_41 => ?_)
          clear hh_38
          refine lv_iconst (v := 1) hx hb dX14_waitFor_137 (by decide) ?_
          rw [hQ]
          exact W.zret (v := 1) hx hb hr (jb_nz (Or.inr rfl)) (fun t ht hW => ⟨⟨1, z_40, rfl, ⟨(Or.inr rfl), by (try dsimp only); first | omega | rfl | assumption | decide | exact Or.inl rfl | exact Or.inr rfl | (simp only; omega)⟩, hh_41.rt (M1 := [(r0, 16, 48, .int z_40)]) [0] rfl ht⟩, by rw [ht]; try exact hh_41.1.1, fun q h9 hq => by rw [ht]; try exact hh_41.1.2.1 q h9 hq⟩) hh_41.1.2.2 dX14_waitFor_138
        · skip
          have c_39' : v4_38.toInt < idLength_36.toInt := jb_ge_n (rfl) (rfl) c_39
          refine lv_aload_n hx hb dX14_waitFor_99 rfl (lv_at hl 0 rfl) ?_
          obtain ⟨v_42, hv_42, hh_43⟩ := hh_38.pin (C := RX14) (T := TX14) (N := 74) hB16 rfl (by decide) hg_r0 (i := 54) (by decide) rfl
          clear hh_38
          obtain ⟨waitUnits_44, rfl, hg_waitUnits_44⟩ := hv_42
          refine j7_read hx hb hown hK (C := RX14) (T := TX14) (N := 74) rfl hly_16_54 hlk_106 (hh_43.at 0 rfl) dX14_waitFor_100 ?_
          refine lv_bipush (v := 20) hx hb dX14_waitFor_103 (by decide) ?_
          refine lv_aload_n hx hb dX14_waitFor_105 rfl (lv_at hl 0 rfl) ?_
          refine j7_read hx hb hown hK (C := RX14) (T := TX14) (N := 74) rfl hly_16_48 hlk_711 (hh_43.at 10 rfl) dX14_waitFor_106 ?_
          refine lv_imul hx hb dX14_waitFor_109 ?_
          refine lv_topi (fun z_45 ez_45 => ?_)
          have hz_45 : z_45.toInt = 20 * waits_3.toInt := by rw [ez_45]; exact jb_imul2 ((by decide)) (rfl) (by omega)
          refine lv_iload hx hb dX14_waitFor_110 (lv_at hl 4 rfl) ?_
          refine lv_iadd hx hb dX14_waitFor_112 ?_
          refine lv_topi (fun z_46 ez_46 => ?_)
          have hz_46 : z_46.toInt = z_45.toInt + v4_38.toInt := by rw [ez_46]; exact jb_iadd2 (rfl) (rfl) (by omega)
          refine lv_aload_n hx hb dX14_waitFor_113 rfl (lv_at hl 0 rfl) ?_
          obtain ⟨v_47, hv_47, hh_48⟩ := hh_43.pin (C := RX14) (T := TX14) (N := 74) hB16 rfl (by decide) hg_r0 (i := 38) (by decide) rfl
          clear hh_43
          obtain ⟨idUnits_49, rfl, hg_idUnits_49⟩ := hv_47
          refine j7_read hx hb hown hK (C := RX14) (T := TX14) (N := 74) rfl hly_16_38 hlk_68 (hh_48.at 0 rfl) dX14_waitFor_114 ?_
          refine lv_iload hx hb dX14_waitFor_117 (lv_at hl 4 rfl) ?_
          refine j7_iald hx hb hK hh_48 hB101 1 rfl (by decide) hg_idUnits_49 (x := v4_38.toInt) (rfl) (by omega) dX14_waitFor_119 (fun z_50 (hz_50 : True) => ?_)
          refine j7_iast hx hb hK hh_48 hB hB101 1 rfl (by decide) (by decide) rfl rfl rfl hg_waitUnits_44 (x := z_46.toInt) (rfl) (by omega) (trivial) dX14_waitFor_120 (fun H_51 locs_51 hh_51 => ?_)
          clear hh_48
          obtain ⟨z_52, ez_52⟩ : ∃ y : Int32, y = v4_38 + 1 := ⟨_, rfl⟩
          refine lv_iinc (v := z_52) (lv' := [(4, .int z_52), (0, .ref r0), (1, .ref r1), (2, .int a2), (3, .int a3)]) hx hb dX14_waitFor_121 hl (k := 4) rfl (by rw [ez_52]; rfl) (by decide) rfl (fun ls hl => ?_)
          have hz_52 : z_52.toInt = v4_38.toInt + 1 := by rw [ez_52]; exact jb_iadd2 (rfl) (by decide) (by omega)
          refine lv_goto (tgt := 90) hx hb dX14_waitFor_124 (by decide) ?_
          exact L90 z_52 _ _ (hh_51.sub (L1 := [(r0, 16, 39, .int idLength_36), (r0, 16, 55, .ref waitLength_33), (r0, 16, 37, .int idInt_29), (r0, 16, 53, .ref waitInt_26), (r0, 16, 36, .int idString_22), (r0, 16, 52, .ref waitString_19), (r0, 16, 51, .ref waitNeed_15), (r0, 16, 50, .ref waitGoals_11), (r0, 16, 49, .ref waitOf_7), (r0, 16, 48, .int waits_3)]) [2, 3, 4, 5, 6, 7, 8, 9, 10, 11] rfl (M1 := []) [] rfl (I1 := []) [] rfl) (by first | omega | (refine ⟨?_, ?_⟩ <;> (first | omega | rfl | assumption | decide | exact Or.inl rfl | exact Or.inr rfl | (simp only; omega)))) (by omega) _ (lv_sub hl [1, 2, 3, 4, 0] rfl)
    exact L90 (20 - (0 : Int32).toInt : Int).toNat.succ 0 _ _ hh_37 (by first | omega | (refine ⟨?_, ?_⟩ <;> (first | omega | rfl | assumption | decide | exact Or.inl rfl | exact Or.inr rfl | (simp only; omega)))) (by omega) _ (lv_sub hl [1, 2, 3, 4, 0] rfl)
  · skip
    have c_4' : waits_3.toInt = 12 := jb_ne_n (rfl) ((by decide)) c_4
    refine lv_aload_n hx hb dX14_waitFor_9 rfl (lv_at hl 0 rfl) ?_
    refine lv_sipush (v := (-32600)) hx hb dX14_waitFor_10 (by decide) ?_
    refine va_callv (A0 := jA base) (H0 := s.heap) (va_runV (As := [.int (-32600)]) (rest := []) ⟨hx, hb, hml, hown, hts⟩ (uX14_error l dC dI ca base B hB hAp hB16 hB101 G0 s.heap r0 (-32600)) (cwV 1 hts (jgV (jWr_53 _ (List.mem_of_getElem? (i := 9) rfl)) (jWr_53 _ (List.mem_of_getElem? (i := 10) rfl)) (jWr_53 _ (List.mem_of_getElem? (i := 11) rfl)) (jWr_1 _ (List.mem_of_getElem? (i := 5) rfl)) (jWr_53 _ (List.mem_of_getElem? (i := 12) rfl))) rfl rfl rfl (by decide +kernel) ⟨by rw [← hR]; exact Nat.le_of_ble_eq_true rfl, by rw [← hR]; exact Nat.le_of_ble_eq_true rfl⟩) ⟨fun a U g mk q => by obtain ⟨q0, q1, q2, qK, q10, q11, q12⟩ := q; exact ⟨q0, q1, q2, jG.calling g mk a qK, q10, q11, q12⟩, hh_2.recv (C := RX14) (T := TX14) (N := 74) hB16 rfl (by decide) hg_r0 hK, fun U hU hW => ⟨rfl, hU, hh_2.2.1, hG.step hW hU hh_2.1, hg_r0, jP.nil, trivial⟩⟩ rfl rfl hl.1 rfl (lv_room (Nat.le_of_ble_eq_true rfl)) dX14_waitFor_13 ⟨Nat.zero_le _, Nat.zero_le _⟩) hh_2.1 (fun q _ h => h) (fun q h => h) (fun u_53 t_53 H_53 locs_53 ht_53 hvm_53 hr_54 hb_53 hz_53 hk_53 hS_53 => ?_)
    rw [ht_53] at hb_53
    obtain ⟨hb_531, hb_532, hb_533, hb_534, hb_535⟩ := hb_53
    have hh_53 : jSt (dC, dI) B base G0 G0 EX14_waitForK s.heap 0 0 [(r0, 16, 48, .int waits_3)] [] [] H_53 locs_53 := ((hh_2.call hb_531 hb_532 hb_533 hb_534 hS_53 rfl (L1 := [(r0, 16, 48, .int waits_3)]) [0] rfl rfl (M1 := []) [] rfl rfl (I1 := []) [] rfl rfl).more hb_535)
    clear hh_2 ht_53 hvm_53 hz_53 hk_53 hS_53 hb_531 hb_532 hb_533 hb_534 hb_535
    refine lv_iconst (v := 0) hx hb dX14_waitFor_16 (by decide) ?_
    rw [hQ]
    exact W.zret (v := 0) hx hb hr (jb_nz (Or.inl rfl)) (fun t ht hW => ⟨⟨0, waits_3, rfl, ⟨(Or.inl rfl), by (try dsimp only); first | omega | rfl | assumption | decide | exact Or.inl rfl | exact Or.inr rfl | (simp only; omega)⟩, hh_53.rt (M1 := [(r0, 16, 48, .int waits_3)]) [0] rfl ht⟩, by rw [ht]; try exact hh_53.1.1, fun q h9 hq => by rw [ht]; try exact hh_53.1.2.1 q h9 hq⟩) hh_53.1.2.2 dX14_waitFor_17
end
section
-- the workers of a document that has changed; a document that is opened; closed
theorem jPv.keep {sn ck fs : Nat → Int32} {fd fo : Nat → Option Nat} {dc st k k1 : Int} {ol nw td x w : Nat} (h : jPv sn ck fd fo fs dc ol nw td x st k) (hc : fo w ≠ some x ∨ (fs w).toInt < st) (hw : (w : Int) = k) (hk : k1 = k + 1) : jPv sn ck fd fo fs dc ol nw td x st k1 := by
  obtain ⟨g0, g1, g2, g4, g3⟩ := h
  refine ⟨g0, g1, g2, g4, fun j hj => ?_⟩
  rcases g3 j hj with q | ⟨d, a, k1, k2, k3, k4, k5⟩
  · exact Or.inl q
  · refine Or.inr ⟨d, a, k1, k2, k3, k4, ?_⟩
    rcases k5 with k5 | ⟨k5, k6⟩
    · exact Or.inl k5
    · by_cases e : j = w
      · subst e
        rcases hc with hc | hc
        · exact absurd (by rw [k4, k5]) hc
        · subst k5; exact Or.inl (by have := g4.1; omega)
      · exact Or.inr ⟨k5, by omega⟩
theorem jPv.done {sn ck fs : Nat → Int32} {fd fo : Nat → Option Nat} {dc st k : Int} {ol nw td x : Nat} (h : jPv sn ck fd fo fs dc ol nw td x st k) (hk : 2 ≤ k) : jPu sn ck fd fo fs dc ol nw td := by
  obtain ⟨g0, g1, g2, g4, g3⟩ := h
  refine ⟨g0, g1, g2, fun j hj => ?_⟩
  rcases g3 j hj with q | ⟨d, a, k1, k2, k3, k4, k5⟩
  · exact Or.inl q
  · exact Or.inr ⟨d, a, k1, k2, k3, k4, k5.elim id (fun q => by have := q.2; omega)⟩
theorem jPu.opn {sn ck fs : Nat → Int32} {fd fo : Nat → Option Nat} {dc dc1 : Int} {ol nw td x d0 : Nat} {v w0 : Int32} (h : jPu sn ck fd fo fs dc ol nw td) (hd : fd d0 = some x) (h3 : d0 < 3) (hdc : (d0 : Int) = dc) (h1 : dc1 = dc + 1) (hw : w0.toInt ≤ v.toInt) : jPu (jUn sn x v) (jUn ck x w0) fd fo fs dc1 ol nw td := by
  obtain ⟨g0, g1, g2, g3⟩ := h
  refine ⟨g0, g1, fun i a hi ha => ?_, fun w hw => ?_⟩
  · by_cases e : a = x
    · subst e; rw [jUn_e, jUn_e]; exact hw
    · rw [jUn_n _ _ e, jUn_n _ _ e]; exact g2 i a hi ha
  · rcases g3 w hw with k | ⟨d, a, k1, k2, k3, k4, k5⟩
    · exact Or.inl k
    · refine Or.inr ⟨d, a, by omega, k2, k3, k4, ?_⟩
      have e : a ≠ x := fun q => by
        subst q
        have := g1 d d0 k2 h3 (k3.trans hd.symm)
        omega
      rw [jUn_n _ _ e]; exact k5
theorem jLeA.upd {f g f1 g1 : Nat → Int32} {n a b : Int} (h : jLeA f g) (hv : jSo f1 n = a) (ho : ∀ j, j < 3100 → j ≠ n.toNat → f1 j = f j) (gv : jSo g1 n = b) (go : ∀ j, j < 3100 → j ≠ n.toNat → g1 j = g j) (h0 : 0 ≤ n) (hab : a ≤ b) : jLeA f1 g1 := fun i q0 q1 => by
  by_cases q : i = n
  · rw [q, hv, gv]; exact hab
  · have := h i q0 q1
    unfold jSo at this ⊢
    rw [ho i.toNat (by omega) (by omega), go i.toNat (by omega) (by omega)]
    exact this
section J16
variable {p : Program} {l : Launch} {e : Env} {R : Room} {s : State} {m : MethodId} {args : Array Value} {below : List Frame} {meth : Method} {c : Code} {H : Heap} {locs : List Loc} {cells slots : Nat} {Q : State → Prop}
variable {cc : ByteArray} {pc : Nat} {ls : Array Slot} {rest : List Value} {dC : Nat → ClassId} {dI : Nat → Nat → Nat} {ca : Nat → ClassId} {B : jF} {base : Nat} {G0 G : jT} {E : List (Nat × Nat)} {H0 : Heap} {zc zs : Nat} {L : List jPin} {M : List jCt} {I : List jIv} {a k n : Nat} {cA : ClassId} {tys : List (ClassId × FieldType)}
/-- a store into an array: contents of arrays of other kinds, or of other lengths, stay -/
theorem j7_iastL {P : Nat → Int32 → Prop} (hexec : p.tables.exec = Jvm.exec) (hb : c.code = cc) (hK : va_K (dC, dI) vwCl tys s) (hh : jSt (dC, dI) B base G0 G E H0 zc zs L M I H locs) (hB : jBok B) (hBk : ∀ n G a H, B k n G a H ↔ jAr (dC, dI) cA P n a H) (t0 : Nat) (ht : tys[t0]? = some (cA, .int)) (hk : k < 1000) (hk2 : 17 ≤ k) (hE : E.contains (k, 0) = true) (hM : M.all (fun q => !(q.2.1 == k && q.2.2.1 == n)) = true) (hI : I.all (fun q => !(q.1.contains (k, 0))) = true) (ha : G a = some (k, n)) {i v : Int32} {x : Int} (hi : i.toInt = x) (h12 : 0 ≤ x ∧ x < n) (hv : P x.toNat v) (hdg : decode cc pc = .ok (.iastore, 1))
    (kk : ∀ (H1 : Heap) (locs1 : List Loc) (g : Nat → Int32), g x.toNat = v → (∀ f : Nat → Int32, va_at (dC, dI) vwCl (a, .inl (cA, n, .inl f)) H → ∀ j, j < n → j ≠ x.toNat → g j = f j) → jSt (dC, dI) B base G0 G E H0 zc zs L ((a, k, n, cA, g) :: M) I H1 locs1 → W p l e R s m args below meth c H1 locs1 cells slots Q (F0 m (pc + 1) ls rest)) : W p l e R s m args below meth c H locs cells slots Q (F0 m pc ls (.int v :: .int i :: .ref a :: rest)) := by
  obtain ⟨h1, h2⟩ := h12
  obtain ⟨f', g1, g2⟩ := hh.ar hBk hk ha
  refine j_iast (A := jA base) hexec hb hK t0 g1 (hh.ab ha).1 hh.1.2.2 ht (jb_in hi h1 h2) hdg (fun H1 locs1 hat hsz hfr hT hL => ?_)
  have hh1 : jSt (dC, dI) B base G0 G E H0 zc zs L [] I H locs := by
    obtain ⟨e1, e2, e3, e4, e5, e6, e7, e8, e9⟩ := hh
    exact ⟨e1, e2, e3, e4, e5, e6, e7, jMc.nil, e9⟩
  have h9 := hh1.arr hB ha hk hk2 hE rfl hI hsz hfr hT hL ((hBk _ _ _ _).mpr ⟨_, hat, jAr_upd g2 hi h1 hv⟩)
  refine kk H1 locs1 (upd f' i.toNatClampNeg v) (by rw [← jb_cl hi h1]; simp [upd]) (fun f q4 j hj' hne => ?_) ?_
  · have : j ≠ i.toNatClampNeg := by rw [jb_cl hi h1]; exact hne
    simp only [upd, if_neg this]
    exact (jCt_eq q4 g1 hj').symm
  · obtain ⟨e1, e2, e3, e4, e5, e6, e7, e8, e9⟩ := h9
    refine ⟨e1, e2, e3, e4, e5, e6, e7, fun q hq => ?_, e9⟩
    rcases List.mem_cons.mp hq with e | e
    · subst e; exact ⟨ha, hk2, hk, hat⟩
    · obtain ⟨q1, q2, q3, q4⟩ := hh.2.2.2.2.2.2.2.1 q e
      refine ⟨q1, q2, q3, q4.kept (hfr _ (fun w => ?_))⟩
      have hm9 := List.all_eq_true.mp hM q e
      rw [w, ha] at q1
      have e2 := Prod.mk.inj (Option.some.inj q1)
      rw [← e2.1, ← e2.2] at hm9
      simp at hm9
end J16
end
section
def EX14_settleChecksK : List (Nat × Nat) := [(14, 5), (14, 9), (190, 0), (191, 0), (192, 0), (208, 0)]
set_option maxHeartbeats 4000000 in
set_option maxRecDepth 20000 in
theorem uX14_settleChecksK (l : Launch) (dC : Nat → ClassId) (dI : Nat → Nat → Nat) (ca : Nat → ClassId) (base : Nat) (B : jF) (hB : jBok B) (hAp : jAp (dC, dI)) (hB14 : ∀ n G a H, B 14 n G a H ↔ jOb (dC, dI) 14 11 (F14 n G) a H) (hB16 : ∀ n G a H, B 16 n G a H ↔ jOb (dC, dI) 16 74 (F16 n G) a H) (hB101 : ∀ n G a H, B 101 n G a H ↔ jAr (dC, dI) (ca 1) (fun j z => True) n a H) (hB190 : ∀ n G a H, B 190 n G a H ↔ jAr (dC, dI) (ca 1) (fun j z => 0 ≤ z.toInt ∧ z.toInt ≤ 1500) n a H) (hB191 : ∀ n G a H, B 191 n G a H ↔ jAr (dC, dI) (ca 1) (fun j z => 0 ≤ z.toInt ∧ z.toInt ≤ 1500) n a H) (hB192 : ∀ n G a H, B 192 n G a H ↔ jAr (dC, dI) (ca 1) (fun j z => 0 ≤ z.toInt ∧ z.toInt ≤ 2) n a H) (hB207 : ∀ n G a H, B 207 n G a H ↔ jAr (dC, dI) (ca 1) (fun j z => 0 ≤ z.toInt ∧ z.toInt ≤ 39) n a H) (hB208 : ∀ n G a H, B 208 n G a H ↔ jAq (dC, dI) (ca 4) (jQn 14 0) n G a H) (G0 : jT) (H0 : Heap) (r0 : Nat) (r1 : Nat) (a2 : Int32) (yt : Nat) (pz : Int32) (dd : Nat) (dc : Int32) (co : Nat) (cs : Nat) (ol : Nat) (nw : Nat) (td : Nat) (sn ck : Nat → Int32) (fd fo : Nat → Option Nat) (ft : Nat → Int32) (fs : Nat → Int32) : Met l yX14_settleChecks (jw yX14_settleChecks cX14_settleChecks 4 none) ({ frames := 4, cells := 0, slots := 0, locals := 94 }) (va_Pc [.ref r0, .ref r1, .int a2] (fun U => U.heap = H0 ∧ jX B base G0 [] H0 ∧ jG dC dI ca base U ∧ jK2 dC dI ca U ∧ G0 r1 = some (14, 0) ∧ G0 r0 = some (16, 0) ∧ G0 yt = some (101, 1500) ∧ G0 dd = some (201, 3) ∧ G0 co = some (208, 2) ∧ G0 cs = some (207, 2) ∧ G0 ol = some (14, 0) ∧ G0 nw = some (14, 0) ∧ G0 td = some (14, 0) ∧ jP (dC, dI) G0 H0 [(r1, 14, 3, .ref yt), (r1, 14, 4, .int pz), (r0, 16, 41, .ref dd), (r0, 16, 42, .int dc), (r0, 16, 60, .ref co), (r0, 16, 61, .ref cs), (r0, 16, 46, .ref ol), (r0, 16, 47, .ref nw), (r0, 16, 71, .ref td)] ∧ jMc (dC, dI) G0 H0 [(yt, 101, 1500, ca 1, ft), (cs, 207, 2, ca 1, fs)] ∧ jIs (dC, dI) G0 H0 [(jFs, jDY dC dI ca G0 none sn), (jF9, jVl dC dI G0 9 ck), ([(201, 0)], jQc dC dI (ca 4) dd 3 fd), ([(208, 0)], jQc dC dI (ca 4) co 2 fo)] ∧ jPu sn ck fd fo fs dc.toInt ol nw td ∧ 0 ≤ a2.toInt ∧ a2.toInt ≤ jPar ft pz.toInt ∧ 0 ≤ pz.toInt ∧ pz.toInt ≤ 1500)) (va_Qv (S := Int32 × Int32) (fun u => u.1.toInt ≤ u.2.toInt) (fun u t => (jRt (dC, dI) B base G0 EX14_settleChecksK H0 [(r1, 14, 9, .int u.1), (r1, 14, 5, .int u.2)] t.heap) ∧ jDV dC dI ca G0 r0 dd co cs ol nw td t.heap) (jA base)) 0 0 (jA base) := by
  refine Met.ofW (cc := cX14_settleChecks) (maxL := 4) (ret := none) (by decide) rfl ?_
  intro p e s m args below meth c s₁ Bd hml hv
  obtain ⟨rfl, hH0, hX, hG, hK2, hg_r1, hg_r0, hg_yt, hg_dd, hg_co, hg_cs, hg_ol, hg_nw, hg_td, hP0, hM0, hI0, hp0, hp1, hp2, hp3, hp4⟩ := hv
  have hK := hG.1
  have hx := Bd.exec
  have hb := Bd.bytes
  have hr := Bd.returns
  have hts := atoms_spec (ws := (jw yX14_settleChecks cX14_settleChecks 4 none)) Bd.pre
  have htw : ∀ w ∈ jWl, w.before _ s = true := fun w h => hts w (List.mem_cons_of_mem _ h)
  have hown : s.vm.findClass RX14 = some m.cls := findClass_of_methodNamed Bd.named
  have hlocks := Bd.notSynchronized
  obtain ⟨Q, hQ⟩ : ∃ Q, Q = MQ below (va_Qv (S := Int32 × Int32) (fun u => u.1.toInt ≤ u.2.toInt) (fun u t => (jRt (dC, dI) B base G0 EX14_settleChecksK H0 [(r1, 14, 9, .int u.1), (r1, 14, 5, .int u.2)] t.heap) ∧ jDV dC dI ca G0 r0 dd co cs ol nw td t.heap) (jA base)) ([.ref r0, .ref r1, .int a2] : List Value).toArray s 0 0 (jA base) := ⟨_, rfl⟩
  rw [← hQ]
  have hl := lv_entry ([.ref r0, .ref r1, .int a2]) (n := 4) (Nat.le_of_ble_eq_true rfl)
  rw [lg_entry_eq]
  generalize (lg_sl ([.ref r0, .ref r1, .int a2]) ++ List.replicate (4 - (lg_sl ([.ref r0, .ref r1, .int a2])).length) Slot.unset).toArray = ls at hl ⊢
  have hl : lv_has ls 4 [(0, .ref r0), (1, .ref r1), (2, .int a2)] := hl
  generalize hR : (headSpec (jw yX14_settleChecks cX14_settleChecks 4 none) ({ frames := 4, cells := 0, slots := 0, locals := 94 })).room = R
  subst hH0
  have hh : jSt (dC, dI) B base G0 G0 EX14_settleChecksK s.heap 0 0 [(r1, 14, 3, .ref yt), (r1, 14, 4, .int pz), (r0, 16, 41, .ref dd), (r0, 16, 42, .int dc), (r0, 16, 60, .ref co), (r0, 16, 61, .ref cs), (r0, 16, 46, .ref ol), (r0, 16, 47, .ref nw), (r0, 16, 71, .ref td)] [(yt, 101, 1500, ca 1, ft), (cs, 207, 2, ca 1, fs)] [(jFs, jDY dC dI ca G0 none sn), (jF9, jVl dC dI G0 9 ck), ([(201, 0)], jQc dC dI (ca 4) dd 3 fd), ([(208, 0)], jQc dC dI (ca 4) co 2 fo)] s.heap [] := jSt.start hX hP0 hM0 hI0
  clear hX hP0
  have hk0 : (0 : Int32).toInt = 0 := by decide
  have hk1 : (1 : Int32).toInt = 1 := by decide
  have hk2 : (2 : Int32).toInt = 2 := by decide
  have hly_14_9 := htw (u_lay RX12 TX12 9) (jWc_wsX120 _ (u_in_lay (by decide)))
  have hly_16_60 := htw (u_lay RX14 TX14 60) (jWc_wsX140 _ (u_in_lay (by decide)))
  have hly_16_61 := htw (u_lay RX14 TX14 61) (jWc_wsX140 _ (u_in_lay (by decide)))
  have hlk_531 := (va_Nw.use (A := ([.ref r0, .ref r1, .int a2] : List Value).toArray) rfl (hG.2.1 RX14 531 "ProofServerModel$Document" "checked" "I" "ProofServerModel" (List.mem_of_getElem? (i := 1744) (by decide +kernel))))
  have hlk_129 := (htw (.fieldLink RX14 129 "ProofServerModel" "checkOf" "[LProofServerModel$Document;") (jWr_12 _ (List.mem_of_getElem? (i := 15) rfl)))
  have hlk_132 := (htw (.fieldLink RX14 132 "ProofServerModel" "checkSentence" "[I") (jWr_12 _ (List.mem_of_getElem? (i := 16) rfl)))
  have hrg_a2 := jb_rng a2
  refine lv_aload_n hx hb dX14_settleChecks_0 rfl (lv_at hl 1 rfl) ?_
  have hd_1 := jDY.less (hh.iv 0 rfl) r1
  have hh_2 := hh.sub (L1 := [(r1, 14, 3, .ref yt), (r1, 14, 4, .int pz), (r0, 16, 41, .ref dd), (r0, 16, 42, .int dc), (r0, 16, 60, .ref co), (r0, 16, 61, .ref cs), (r0, 16, 46, .ref ol), (r0, 16, 47, .ref nw), (r0, 16, 71, .ref td)]) [0, 1, 2, 3, 4, 5, 6, 7, 8] rfl (M1 := [(yt, 101, 1500, ca 1, ft), (cs, 207, 2, ca 1, fs)]) [0, 1] rfl (I1 := [(jF9, jVl dC dI G0 9 ck), ([(201, 0)], jQc dC dI (ca 4) dd 3 fd), ([(208, 0)], jQc dC dI (ca 4) co 2 fo)]) [1, 2, 3] rfl
  clear hh
  have hh_3 := hh_2.addI (jDY.ie hd_1)
  clear hh_2
  obtain ⟨v_6, hv_6, hh_7⟩ := hh_3.pin (C := RX12) (T := TX12) (N := 11) hB14 rfl (by decide) hg_r1 (i := 6) (by decide) rfl
  obtain ⟨begin_8, rfl, hg_begin_8⟩ := hv_6
  obtain ⟨v_9, hv_9, hh_10⟩ := hh_7.pin (C := RX12) (T := TX12) (N := 11) hB14 rfl (by decide) hg_r1 (i := 7) (by decide) rfl
  obtain ⟨end_11, rfl, hg_end_11⟩ := hv_9
  obtain ⟨f_fb_12, hh_12⟩ := hh_10.cpin hB190 (by decide) (by decide) hg_begin_8
  clear hh_10
  obtain ⟨f_fe_13, hh_13⟩ := hh_12.cpin hB191 (by decide) (by decide) hg_end_11
  clear hh_12
  refine va_callv (A0 := jA base) (H0 := s.heap) (va_runS (As := [.ref r1]) (rest := []) ⟨hx, hb, hml, hown, hts⟩ (uX14_partD l dC dI ca base B hB hAp hB14 hB101 hB190 hB191 hB192 G0 s.heap r1 yt pz begin_8 end_11 sn ft f_fb_12 f_fe_13) (va_cwS 1 hts (jgS (jWr_57 _ (List.mem_of_getElem? (i := 10) rfl)) (jWr_57 _ (List.mem_of_getElem? (i := 11) rfl)) (jWr_1 _ (List.mem_of_getElem? (i := 5) rfl)) (jWr_57 _ (List.mem_of_getElem? (i := 12) rfl))) rfl rfl rfl (by decide +kernel) ⟨by rw [← hR]; exact Nat.le_of_ble_eq_true rfl, by rw [← hR]; exact Nat.le_of_ble_eq_true rfl⟩) ⟨fun a U g mk q => by obtain ⟨q0, q1, q2, qK, q10, q11, q12, q13, q14, q15, q16, q17⟩ := q; exact ⟨q0, q1, q2, jG.calling g mk a qK, q10, q11, q12, q13, q14, q15, q16, q17⟩, fun U hU hW => ⟨rfl, hU, hh_13.2.1, hG.step hW hU hh_13.1, hg_r1, hg_yt, hg_begin_8, hg_end_11, (hh_13.2.2.1.sub (L1 := [(r1, 14, 3, .ref yt), (r1, 14, 4, .int pz), (r1, 14, 6, .ref begin_8), (r1, 14, 7, .ref end_11)]) [2, 3, 1, 0] rfl), (hh_13.2.2.2.2.2.2.2.1.sub (L1 := [(yt, 101, 1500, ca 1, ft), (begin_8, 190, 40, ca 1, f_fb_12), (end_11, 191, 40, ca 1, f_fe_13)]) [2, 1, 0] rfl), (hh_13.2.2.2.2.2.2.2.2.sub (L1 := [(jFs, jDY dC dI ca G0 (some r1) sn)]) [0] rfl), by first | omega | (refine ⟨?_, ?_⟩ <;> (first | omega | rfl | assumption | decide | exact Or.inl rfl | exact Or.inr rfl | (simp only; omega)))⟩⟩ rfl rfl hl.1 rfl (lv_room (Nat.le_of_ble_eq_true rfl)) dX14_settleChecks_1 ⟨Nat.zero_le _, Nat.zero_le _⟩) hh_13.1 (fun q _ h => h) (fun q h => h) (fun u_4 t_4 H_4 locs_4 ht_4 hvm_4 hr_5 hb_4 hz_4 hk_4 hS_4 => ?_)
  obtain ⟨qs_4, gb_4, ge_4⟩ := u_4
  rw [ht_4] at hb_4
  obtain ⟨hb_4, hbV_4⟩ := hb_4
  obtain ⟨⟨hb_41, hb_42, hb_43, hb_44, hb_45⟩, hb_46⟩ := hb_4
  have hh_4 : jSt (dC, dI) B base G0 G0 EX14_settleChecksK s.heap 0 0 [(r1, 14, 5, .int qs_4), (r1, 14, 7, .ref end_11), (r1, 14, 6, .ref begin_8), (r1, 14, 3, .ref yt), (r1, 14, 4, .int pz), (r0, 16, 41, .ref dd), (r0, 16, 42, .int dc), (r0, 16, 60, .ref co), (r0, 16, 61, .ref cs), (r0, 16, 46, .ref ol), (r0, 16, 47, .ref nw), (r0, 16, 71, .ref td)] [(begin_8, 190, 40, ca 1, gb_4), (end_11, 191, 40, ca 1, ge_4), (yt, 101, 1500, ca 1, ft), (cs, 207, 2, ca 1, fs)] [(jFs, jDY dC dI ca G0 (some r1) sn), (jF9, jVl dC dI G0 9 ck), ([(201, 0)], jQc dC dI (ca 4) dd 3 fd), ([(208, 0)], jQc dC dI (ca 4) co 2 fo)] H_4 locs_4 := (((hh_13.call hb_41 hb_42 hb_43 hb_44 hS_4 rfl (L1 := [(r1, 14, 7, .ref end_11), (r1, 14, 6, .ref begin_8), (r1, 14, 3, .ref yt), (r1, 14, 4, .int pz), (r0, 16, 41, .ref dd), (r0, 16, 42, .int dc), (r0, 16, 60, .ref co), (r0, 16, 61, .ref cs), (r0, 16, 46, .ref ol), (r0, 16, 47, .ref nw), (r0, 16, 71, .ref td)]) [0, 1, 2, 3, 4, 5, 6, 7, 8, 9, 10] rfl rfl (M1 := [(yt, 101, 1500, ca 1, ft), (cs, 207, 2, ca 1, fs)]) [2, 3] rfl rfl (I1 := [(jF9, jVl dC dI G0 9 ck), ([(201, 0)], jQc dC dI (ca 4) dd 3 fd), ([(208, 0)], jQc dC dI (ca 4) co 2 fo)]) [1, 2, 3] rfl rfl).more hb_45).moreM hb_46).addIs hbV_4
  clear hh_13 ht_4 hvm_4 hz_4 hk_4 hS_4 hb_41 hb_42 hb_43 hb_44 hb_45
  clear hb_46
  clear hbV_4
  try simp only at hr_5
  obtain ⟨hr_5_0, hr_5_1, hr_5_2, hr_5_3⟩ := hr_5
  have hd_14 := jDY.full (hh_4.iv 0 rfl) hg_r1 hg_begin_8 hg_end_11 (hh_4.2.2.1.sub (L1 := [(r1, 14, 6, .ref begin_8), (r1, 14, 7, .ref end_11), (r1, 14, 5, .int qs_4)]) [2, 1, 0] rfl) (hh_4.2.2.2.2.2.2.2.1.sub (L1 := [(begin_8, 190, 40, ca 1, gb_4), (end_11, 191, 40, ca 1, ge_4)]) [0, 1] rfl) (hr_5_3.up (by omega)) (by omega) (by omega)
  have hh_15 := hh_4.sub (L1 := [(r1, 14, 5, .int qs_4), (r1, 14, 7, .ref end_11), (r1, 14, 6, .ref begin_8), (r1, 14, 3, .ref yt), (r1, 14, 4, .int pz), (r0, 16, 41, .ref dd), (r0, 16, 42, .int dc), (r0, 16, 60, .ref co), (r0, 16, 61, .ref cs), (r0, 16, 46, .ref ol), (r0, 16, 47, .ref nw), (r0, 16, 71, .ref td)]) [0, 1, 2, 3, 4, 5, 6, 7, 8, 9, 10, 11] rfl (M1 := [(begin_8, 190, 40, ca 1, gb_4), (end_11, 191, 40, ca 1, ge_4), (yt, 101, 1500, ca 1, ft), (cs, 207, 2, ca 1, fs)]) [0, 1, 2, 3] rfl (I1 := [(jF9, jVl dC dI G0 9 ck), ([(201, 0)], jQc dC dI (ca 4) dd 3 fd), ([(208, 0)], jQc dC dI (ca 4) co 2 fo)]) [1, 2, 3] rfl
  clear hh_4
  have hh_16 := hh_15.addI (jDY.ie hd_14)
  clear hh_15
  refine lv_aload_n hx hb dX14_settleChecks_4 rfl (lv_at hl 1 rfl) ?_
  obtain ⟨yb_17, ye_17, fb_17, fe_17, hg_yb_17, hg_ye_17, hP_17, hM_17, hs_17, h0_17, h4_17⟩ := jDY.at (hh_16.iv 0 rfl) hg_r1 (fun q => by cases q)
  have hh_18 := (hh_16.more hP_17).moreM hM_17
  clear hh_16 hP_17 hM_17
  have hh_19 := hh_18.more (jVl.at (hh_18.iv 1 rfl) hg_r1)
  clear hh_18
  obtain ⟨sx_20, esx_20, hsx_20⟩ := hh_19.sat (C := RX12) (T := TX12) (N := 11) hB14 rfl (by decide) hg_r1 (i := 9) (by decide) rfl 0 rfl
  cases esx_20
  refine j7_readN hx hb hown hK (C := RX12) (T := TX12) (N := 11) rfl hly_14_9 hlk_531 (hh_19.at 0 rfl) dX14_settleChecks_5 ?_
  refine lv_iload_n hx hb dX14_settleChecks_8 rfl (lv_at hl 2 rfl) ?_
  have C17 : ∀ (ck_21 : Nat → Int32) (H_21 : Heap) (locs_21 : List Loc), jSt (dC, dI) B base G0 G0 EX14_settleChecksK s.heap 0 0 [(r1, 14, 6, .ref yb_17), (r1, 14, 7, .ref ye_17), (r1, 14, 5, .int ((jUn sn r1 qs_4) r1)), (r1, 14, 3, .ref yt), (r1, 14, 4, .int pz), (r0, 16, 41, .ref dd), (r0, 16, 42, .int dc), (r0, 16, 60, .ref co), (r0, 16, 61, .ref cs), (r0, 16, 46, .ref ol), (r0, 16, 47, .ref nw), (r0, 16, 71, .ref td)] [(yb_17, 190, 40, ca 1, fb_17), (ye_17, 191, 40, ca 1, fe_17), (begin_8, 190, 40, ca 1, gb_4), (end_11, 191, 40, ca 1, ge_4), (yt, 101, 1500, ca 1, ft), (cs, 207, 2, ca 1, fs)] [(jFs, jDY dC dI ca G0 none (jUn sn r1 qs_4)), (jF9, jVl dC dI G0 9 ck_21), ([(201, 0)], jQc dC dI (ca 4) dd 3 fd), ([(208, 0)], jQc dC dI (ca 4) co 2 fo)] H_21 locs_21 → (jPv (jUn sn r1 qs_4) ck_21 fd fo fs dc.toInt ol nw td r1 a2.toInt 0) → ∀ ls : Array Slot, lv_has ls 4 [(0, .ref r0), (1, .ref r1), (2, .int a2)] → W p l e R s m ([.ref r0, .ref r1, .int a2] : List Value).toArray below meth c H_21 locs_21 0 0 Q (F0 m 17 ls []) := by
    intro ck_21 H_21 locs_21 hh_21  hi_21 ls hl
    refine lv_iconst (v := 0) hx hb dX14_settleChecks_17 (by decide) ?_
    refine lv_istore_n (lv' := [(3, .int 0), (0, .ref r0), (1, .ref r1), (2, .int a2)]) hx hb dX14_settleChecks_18 rfl hl (by decide) rfl (fun ls hl => ?_)
    have L19 : ∀ (N : Nat) (v3_22 : Int32) (fo_22 : Nat → Option Nat) (H_22 : Heap) (locs_22 : List Loc), jSt (dC, dI) B base G0 G0 EX14_settleChecksK s.heap 0 0 [(r1, 14, 6, .ref yb_17), (r1, 14, 7, .ref ye_17), (r1, 14, 5, .int ((jUn sn r1 qs_4) r1)), (r1, 14, 3, .ref yt), (r1, 14, 4, .int pz), (r0, 16, 41, .ref dd), (r0, 16, 42, .int dc), (r0, 16, 60, .ref co), (r0, 16, 61, .ref cs), (r0, 16, 46, .ref ol), (r0, 16, 47, .ref nw), (r0, 16, 71, .ref td)] [(yb_17, 190, 40, ca 1, fb_17), (ye_17, 191, 40, ca 1, fe_17), (begin_8, 190, 40, ca 1, gb_4), (end_11, 191, 40, ca 1, ge_4), (yt, 101, 1500, ca 1, ft), (cs, 207, 2, ca 1, fs)] [(jFs, jDY dC dI ca G0 none (jUn sn r1 qs_4)), (jF9, jVl dC dI G0 9 ck_21), ([(201, 0)], jQc dC dI (ca 4) dd 3 fd), ([(208, 0)], jQc dC dI (ca 4) co 2 fo_22)] H_22 locs_22 → (jPv (jUn sn r1 qs_4) ck_21 fd fo_22 fs dc.toInt ol nw td r1 a2.toInt v3_22.toInt ∧ 0 ≤ v3_22.toInt ∧ v3_22.toInt ≤ 2) → (2 - v3_22.toInt : Int) < N → ∀ ls : Array Slot, lv_has ls 4 [(0, .ref r0), (1, .ref r1), (2, .int a2), (3, .int v3_22)] → W p l e R s m ([.ref r0, .ref r1, .int a2] : List Value).toArray below meth c H_22 locs_22 0 0 Q (F0 m 19 ls []) := by
      intro N
      induction N with
      | zero => intro v3_22 fo_22 H_22 locs_22 hh_22  hi_22 hm; exact absurd hm (by omega)
      | succ N L19 =>
        intro v3_22 fo_22 H_22 locs_22 hh_22  hi_22 hm_22 ls hl
        obtain ⟨hi_22_0, hi_22_1, hi_22_2⟩ := hi_22
        refine lv_iload_n hx hb dX14_settleChecks_19 rfl (lv_at hl 3 rfl) ?_
        refine lv_iconst (v := 2) hx hb dX14_settleChecks_20 (by decide) ?_
        refine lv_icmp_ge (tgt := 57) hx hb dX14_settleChecks_21 (by decide) (fun c_23 => ?_) (fun c_23 => ?_)
        · skip
          have c_23' : v3_22.toInt ≥ 2 := jb_ge (rfl) ((by decide)) c_23
          obtain ⟨yb_24, ye_24, fb_24, fe_24, hg_yb_24, hg_ye_24, hP_24, hM_24, hs_24, h0_24, h4_24⟩ := jDY.at (hh_22.iv 0 rfl) hg_r1 (fun q => by cases q)
          have hh_25 := (hh_22.more hP_24).moreM hM_24
          clear hh_22 hP_24 hM_24
          have hh_26 := hh_25.more (jVl.at (hh_25.iv 1 rfl) hg_r1)
          clear hh_25
          obtain ⟨sx_27, esx_27, hsx_27⟩ := hh_26.sat (C := RX12) (T := TX12) (N := 11) hB14 rfl (by decide) hg_r1 (i := 9) (by decide) rfl 0 rfl
          cases esx_27
          rw [hQ]
          exact W.vret hx hb hr (fun t ht hW => ⟨⟨((ck_21 r1), ((jUn sn r1 qs_4) r1)), rfl, by (try dsimp only); have h9 := hi_22_0.2.2.2.1; omega, ⟨hh_26.rt (M1 := [(r1, 14, 9, .int (ck_21 r1)), (r1, 14, 5, .int ((jUn sn r1 qs_4) r1))]) [0, 3] rfl ht, by rw [ht]; exact ⟨(jUn sn r1 qs_4), ck_21, fs, fd, fo_22, dc, hh_26.2.2.1.sub (L1 := [(r0, 16, 41, .ref dd), (r0, 16, 42, .int dc), (r0, 16, 60, .ref co), (r0, 16, 61, .ref cs), (r0, 16, 46, .ref ol), (r0, 16, 47, .ref nw), (r0, 16, 71, .ref td)]) [9, 10, 11, 12, 13, 14, 15] rfl, hh_26.2.2.2.2.2.2.2.1.sub (L1 := [(cs, 207, 2, ca 1, fs)]) [7] rfl, hh_26.2.2.2.2.2.2.2.2.sub (L1 := [(jFs, jDY dC dI ca G0 none (jUn sn r1 qs_4)), (jF9, jVl dC dI G0 9 ck_21), ([(201, 0)], jQc dC dI (ca 4) dd 3 fd), ([(208, 0)], jQc dC dI (ca 4) co 2 fo_22)]) [0, 1, 2, 3] rfl, hi_22_0.done (by omega)⟩⟩⟩, by rw [ht]; try exact hh_26.1.1, fun q h9 hq => by rw [ht]; try exact hh_26.1.2.1 q h9 hq⟩) hh_26.1.2.2 dX14_settleChecks_57
        · skip
          have c_23' : v3_22.toInt < 2 := jb_ge_n (rfl) ((by decide)) c_23
          refine lv_aload_n hx hb dX14_settleChecks_24 rfl (lv_at hl 0 rfl) ?_
          refine j7_read hx hb hown hK (C := RX14) (T := TX14) (N := 74) rfl hly_16_60 hlk_129 (hh_22.at 7 rfl) dX14_settleChecks_25 ?_
          refine lv_iload_n hx hb dX14_settleChecks_28 rfl (lv_at hl 3 rfl) ?_
          refine j7_qaldI hx hb hK2 hh_22 hB208 0 rfl (by decide) hg_co (x := v3_22.toInt) (rfl) (by omega) (hh_22.iv 3 rfl) dX14_settleChecks_29 (fun o_28 ho_28 heo_28 => ?_)
          rcases ho_28 with rfl | ⟨el_29, rfl, hg_el_29⟩
          · simp only [va_rf]
            refine lv_aload_n hx hb dX14_settleChecks_30 rfl (lv_at hl 1 rfl) ?_
            refine lv_acmp_ne (rx := none) (ry := (some r1)) (tgt := 51) hx hb dX14_settleChecks_31 (by decide) (fun c_30 => ?_) (fun c_30 => ?_)
            · skip
              obtain ⟨z_31, ez_31⟩ : ∃ y : Int32, y = v3_22 + 1 := ⟨_, rfl⟩
              refine lv_iinc (v := z_31) (lv' := [(3, .int z_31), (0, .ref r0), (1, .ref r1), (2, .int a2)]) hx hb dX14_settleChecks_51 hl (k := 3) rfl (by rw [ez_31]; rfl) (by decide) rfl (fun ls hl => ?_)
              have hz_31 : z_31.toInt = v3_22.toInt + 1 := by rw [ez_31]; exact jb_iadd2 (rfl) (by decide) (by omega)
              refine lv_goto (tgt := 19) hx hb dX14_settleChecks_54 (by decide) ?_
              exact L19 z_31 fo_22 _ _ hh_22 (by refine ⟨?_, by omega, by omega⟩; first | exact hi_22_0.null (w := v3_22.toInt.toNat) (zz_none) (zz_none) (by omega) (by omega) | exact hi_22_0.keep (w := v3_22.toInt.toNat) (Or.inr (by have h9 := (zz_none); unfold jSo at h9; omega)) (by omega) (by omega) | exact hi_22_0.keep (w := v3_22.toInt.toNat) (Or.inl (by rw [← heo_28]; first | assumption | exact (fun q => nomatch q))) (by omega) (by omega)) (by omega) _ (lv_sub hl [1, 2, 3, 0] rfl)
            · skip
              cases c_30
          · simp only [va_rf]
            refine lv_aload_n hx hb dX14_settleChecks_30 rfl (lv_at hl 1 rfl) ?_
            refine lv_acmp_ne (rx := (some el_29)) (ry := (some r1)) (tgt := 51) hx hb dX14_settleChecks_31 (by decide) (fun c_32 => ?_) (fun c_32 => ?_)
            · skip
              obtain ⟨z_33, ez_33⟩ : ∃ y : Int32, y = v3_22 + 1 := ⟨_, rfl⟩
              refine lv_iinc (v := z_33) (lv' := [(3, .int z_33), (0, .ref r0), (1, .ref r1), (2, .int a2)]) hx hb dX14_settleChecks_51 hl (k := 3) rfl (by rw [ez_33]; rfl) (by decide) rfl (fun ls hl => ?_)
              have hz_33 : z_33.toInt = v3_22.toInt + 1 := by rw [ez_33]; exact jb_iadd2 (rfl) (by decide) (by omega)
              refine lv_goto (tgt := 19) hx hb dX14_settleChecks_54 (by decide) ?_
              exact L19 z_33 fo_22 _ _ hh_22 (by refine ⟨?_, by omega, by omega⟩; first | exact hi_22_0.null (w := v3_22.toInt.toNat) (zz_none) (zz_none) (by omega) (by omega) | exact hi_22_0.keep (w := v3_22.toInt.toNat) (Or.inr (by have h9 := (zz_none); unfold jSo at h9; omega)) (by omega) (by omega) | exact hi_22_0.keep (w := v3_22.toInt.toNat) (Or.inl (by rw [← heo_28]; first | assumption | exact (fun q => nomatch q))) (by omega) (by omega)) (by omega) _ (lv_sub hl [1, 2, 3, 0] rfl)
            · skip
              refine lv_aload_n hx hb dX14_settleChecks_34 rfl (lv_at hl 0 rfl) ?_
              refine j7_read hx hb hown hK (C := RX14) (T := TX14) (N := 74) rfl hly_16_61 hlk_132 (hh_22.at 8 rfl) dX14_settleChecks_35 ?_
              refine lv_iload_n hx hb dX14_settleChecks_38 rfl (lv_at hl 3 rfl) ?_
              refine j7_ialdM hx hb hK hh_22 hB207 1 rfl (by decide) hg_cs (x := v3_22.toInt) (rfl) (by omega) (j := 5) rfl dX14_settleChecks_39 (fun z_34 ez_34 (hz_34 : 0 ≤ z_34.toInt ∧ z_34.toInt ≤ 39) => ?_)
              have hqz_34 : z_34.toInt = jSo fs (v3_22.toInt) := by unfold jSo; rw [ez_34]
              refine lv_iload_n hx hb dX14_settleChecks_40 rfl (lv_at hl 2 rfl) ?_
              refine lv_icmp_lt (tgt := 51) hx hb dX14_settleChecks_41 (by decide) (fun c_35 => ?_) (fun c_35 => ?_)
              · skip
                have c_35' : z_34.toInt < a2.toInt := jb_lt (rfl) (rfl) c_35
                obtain ⟨z_36, ez_36⟩ : ∃ y : Int32, y = v3_22 + 1 := ⟨_, rfl⟩
                refine lv_iinc (v := z_36) (lv' := [(3, .int z_36), (0, .ref r0), (1, .ref r1), (2, .int a2)]) hx hb dX14_settleChecks_51 hl (k := 3) rfl (by rw [ez_36]; rfl) (by decide) rfl (fun ls hl => ?_)
                have hz_36 : z_36.toInt = v3_22.toInt + 1 := by rw [ez_36]; exact jb_iadd2 (rfl) (by decide) (by omega)
                refine lv_goto (tgt := 19) hx hb dX14_settleChecks_54 (by decide) ?_
                exact L19 z_36 fo_22 _ _ hh_22 (by refine ⟨?_, by omega, by omega⟩; first | exact hi_22_0.null (w := v3_22.toInt.toNat) (zz_none) (zz_none) (by omega) (by omega) | exact hi_22_0.keep (w := v3_22.toInt.toNat) (Or.inr (by have h9 := hqz_34; unfold jSo at h9; omega)) (by omega) (by omega) | exact hi_22_0.keep (w := v3_22.toInt.toNat) (Or.inl (by rw [← heo_28]; first | assumption | exact (fun q => nomatch q))) (by omega) (by omega)) (by omega) _ (lv_sub hl [1, 2, 3, 0] rfl)
              · skip
                have c_35' : z_34.toInt ≥ a2.toInt := jb_lt_n (rfl) (rfl) c_35
                refine lv_aload_n hx hb dX14_settleChecks_44 rfl (lv_at hl 0 rfl) ?_
                refine j7_read hx hb hown hK (C := RX14) (T := TX14) (N := 74) rfl hly_16_60 hlk_129 (hh_22.at 7 rfl) dX14_settleChecks_45 ?_
                refine lv_iload_n hx hb dX14_settleChecks_48 rfl (lv_at hl 3 rfl) ?_
                refine lv_null hx hb dX14_settleChecks_49 ?_
                have hd_38 := hh_22.iv 3 rfl
                have hh_40 := hh_22.sub (L1 := [(r1, 14, 6, .ref yb_17), (r1, 14, 7, .ref ye_17), (r1, 14, 5, .int ((jUn sn r1 qs_4) r1)), (r1, 14, 3, .ref yt), (r1, 14, 4, .int pz), (r0, 16, 41, .ref dd), (r0, 16, 42, .int dc), (r0, 16, 60, .ref co), (r0, 16, 61, .ref cs), (r0, 16, 46, .ref ol), (r0, 16, 47, .ref nw), (r0, 16, 71, .ref td)]) [0, 1, 2, 3, 4, 5, 6, 7, 8, 9, 10, 11] rfl (M1 := [(yb_17, 190, 40, ca 1, fb_17), (ye_17, 191, 40, ca 1, fe_17), (begin_8, 190, 40, ca 1, gb_4), (end_11, 191, 40, ca 1, ge_4), (yt, 101, 1500, ca 1, ft), (cs, 207, 2, ca 1, fs)]) [0, 1, 2, 3, 4, 5] rfl (I1 := [(jFs, jDY dC dI ca G0 none (jUn sn r1 qs_4)), (jF9, jVl dC dI G0 9 ck_21), ([(201, 0)], jQc dC dI (ca 4) dd 3 fd)]) [0, 1, 2] rfl
                clear hh_22
                refine j7_qastNI hx hb hK2 hh_40 hB hB208 0 rfl (by decide) (by decide) rfl rfl rfl hg_co (x := v3_22.toInt) (rfl) (by omega) (Or.inl rfl) hd_38 dX14_settleChecks_50 (fun H_37 locs_37 fq_39 hv_37 ho_37 hq_37 hh_37 => ?_)
                clear hh_40
                have hh_41 := hh_37.addI (hq_37.ie hg_co (by decide) (by decide))
                clear hh_37
                clear hd_38
                obtain ⟨z_42, ez_42⟩ : ∃ y : Int32, y = v3_22 + 1 := ⟨_, rfl⟩
                refine lv_iinc (v := z_42) (lv' := [(3, .int z_42), (0, .ref r0), (1, .ref r1), (2, .int a2)]) hx hb dX14_settleChecks_51 hl (k := 3) rfl (by rw [ez_42]; rfl) (by decide) rfl (fun ls hl => ?_)
                have hz_42 : z_42.toInt = v3_22.toInt + 1 := by rw [ez_42]; exact jb_iadd2 (rfl) (by decide) (by omega)
                refine lv_goto (tgt := 19) hx hb dX14_settleChecks_54 (by decide) ?_
                exact L19 z_42 fq_39 _ _ (hh_41.sub (L1 := [(r1, 14, 6, .ref yb_17), (r1, 14, 7, .ref ye_17), (r1, 14, 5, .int ((jUn sn r1 qs_4) r1)), (r1, 14, 3, .ref yt), (r1, 14, 4, .int pz), (r0, 16, 41, .ref dd), (r0, 16, 42, .int dc), (r0, 16, 60, .ref co), (r0, 16, 61, .ref cs), (r0, 16, 46, .ref ol), (r0, 16, 47, .ref nw), (r0, 16, 71, .ref td)]) [0, 1, 2, 3, 4, 5, 6, 7, 8, 9, 10, 11] rfl (M1 := [(yb_17, 190, 40, ca 1, fb_17), (ye_17, 191, 40, ca 1, fe_17), (begin_8, 190, 40, ca 1, gb_4), (end_11, 191, 40, ca 1, ge_4), (yt, 101, 1500, ca 1, ft), (cs, 207, 2, ca 1, fs)]) [0, 1, 2, 3, 4, 5] rfl (I1 := [(jFs, jDY dC dI ca G0 none (jUn sn r1 qs_4)), (jF9, jVl dC dI G0 9 ck_21), ([(201, 0)], jQc dC dI (ca 4) dd 3 fd), ([(208, 0)], jQc dC dI (ca 4) co 2 fq_39)]) [1, 2, 3, 0] rfl) (by refine ⟨?_, by omega, by omega⟩; first | exact hi_22_0.null (w := v3_22.toInt.toNat) hv_37 ho_37 (by omega) (by omega) | exact hi_22_0.keep (w := v3_22.toInt.toNat) (Or.inr (by have h9 := hqz_34; unfold jSo at h9; omega)) (by omega) (by omega) | exact hi_22_0.keep (w := v3_22.toInt.toNat) (Or.inl (by rw [← heo_28]; first | assumption | exact (fun q => nomatch q))) (by omega) (by omega)) (by omega) _ (lv_sub hl [1, 2, 3, 0] rfl)
    exact L19 (2 - (0 : Int32).toInt : Int).toNat.succ 0 fo _ _ hh_21 (by refine ⟨?_, by omega, by omega⟩; rw [hk0]; exact hi_21) (by omega) _ (lv_sub hl [1, 2, 3, 0] rfl)
  refine lv_icmp_le (tgt := 17) hx hb dX14_settleChecks_9 (by decide) (fun c_43 => ?_) (fun c_43 => ?_)
  · skip
    have c_43' : (ck r1).toInt ≤ a2.toInt := jb_le (rfl) (rfl) c_43
    exact C17 ck _ _ (hh_19.sub (L1 := [(r1, 14, 6, .ref yb_17), (r1, 14, 7, .ref ye_17), (r1, 14, 5, .int ((jUn sn r1 qs_4) r1)), (r1, 14, 3, .ref yt), (r1, 14, 4, .int pz), (r0, 16, 41, .ref dd), (r0, 16, 42, .int dc), (r0, 16, 60, .ref co), (r0, 16, 61, .ref cs), (r0, 16, 46, .ref ol), (r0, 16, 47, .ref nw), (r0, 16, 71, .ref td)]) [1, 2, 3, 7, 8, 9, 10, 11, 12, 13, 14, 15] rfl (M1 := [(yb_17, 190, 40, ca 1, fb_17), (ye_17, 191, 40, ca 1, fe_17), (begin_8, 190, 40, ca 1, gb_4), (end_11, 191, 40, ca 1, ge_4), (yt, 101, 1500, ca 1, ft), (cs, 207, 2, ca 1, fs)]) [0, 1, 2, 3, 4, 5] rfl (I1 := [(jFs, jDY dC dI ca G0 none (jUn sn r1 qs_4)), (jF9, jVl dC dI G0 9 ck), ([(201, 0)], jQc dC dI (ca 4) dd 3 fd), ([(208, 0)], jQc dC dI (ca 4) co 2 fo)]) [0, 1, 2, 3] rfl) (by first | assumption | exact hp0.set (by omega) (by rw [jUn_e]; omega) (fun a h => jUn_n _ _ h) | exact hp0.set (by omega) (by omega) (fun a h => rfl) | omega) _ (lv_sub hl [0, 1, 2] rfl)
  · skip
    have c_43' : (ck r1).toInt > a2.toInt := jb_le_n (rfl) (rfl) c_43
    refine lv_aload_n hx hb dX14_settleChecks_12 rfl (lv_at hl 1 rfl) ?_
    refine lv_iload_n hx hb dX14_settleChecks_13 rfl (lv_at hl 2 rfl) ?_
    have hd_45 := hh_19.iv 1 rfl
    have hh_46 := hh_19.sub (L1 := [(r1, 14, 9, .int (ck r1)), (r1, 14, 6, .ref yb_17), (r1, 14, 7, .ref ye_17), (r1, 14, 5, .int ((jUn sn r1 qs_4) r1)), (r1, 14, 5, .int qs_4), (r1, 14, 7, .ref end_11), (r1, 14, 6, .ref begin_8), (r1, 14, 3, .ref yt), (r1, 14, 4, .int pz), (r0, 16, 41, .ref dd), (r0, 16, 42, .int dc), (r0, 16, 60, .ref co), (r0, 16, 61, .ref cs), (r0, 16, 46, .ref ol), (r0, 16, 47, .ref nw), (r0, 16, 71, .ref td)]) [0, 1, 2, 3, 4, 5, 6, 7, 8, 9, 10, 11, 12, 13, 14, 15] rfl (M1 := [(yb_17, 190, 40, ca 1, fb_17), (ye_17, 191, 40, ca 1, fe_17), (begin_8, 190, 40, ca 1, gb_4), (end_11, 191, 40, ca 1, ge_4), (yt, 101, 1500, ca 1, ft), (cs, 207, 2, ca 1, fs)]) [0, 1, 2, 3, 4, 5] rfl (I1 := [(jFs, jDY dC dI ca G0 none (jUn sn r1 qs_4)), ([(201, 0)], jQc dC dI (ca 4) dd 3 fd), ([(208, 0)], jQc dC dI (ca 4) co 2 fo)]) [0, 2, 3] rfl
    clear hh_19
    refine j7_putNX hx hb hown hK hh_46 hB hAp hB14 (C := RX12) (T := TX12) (N := 11) rfl (by decide) hg_r1 (i := 9) (by decide) hly_14_9 rfl hlk_531 rfl (ty := .int) (v := .int a2) (by decide +kernel) rfl rfl (⟨_, rfl, by omega, by omega⟩) rfl (L1 := [(r1, 14, 6, .ref yb_17), (r1, 14, 7, .ref ye_17), (r1, 14, 5, .int ((jUn sn r1 qs_4) r1)), (r1, 14, 5, .int qs_4), (r1, 14, 7, .ref end_11), (r1, 14, 6, .ref begin_8), (r1, 14, 3, .ref yt), (r1, 14, 4, .int pz), (r0, 16, 41, .ref dd), (r0, 16, 42, .int dc), (r0, 16, 60, .ref co), (r0, 16, 61, .ref cs), (r0, 16, 46, .ref ol), (r0, 16, 47, .ref nw), (r0, 16, 71, .ref td)]) [1, 2, 3, 4, 5, 6, 7, 8, 9, 10, 11, 12, 13, 14, 15] rfl rfl rfl dX14_settleChecks_14 (fun H_44 locs_44 hr_44 hf_44 hh_44 => ?_)
    clear hh_46
    have hd_45n := jVl.put hd_45 hr_44 (hh_44.at 0 rfl)
    have hh_47 := hh_44.addI (jVl.ie hd_45n)
    clear hh_44
    clear hd_45 hd_45n hr_44 hf_44
    exact C17 (jUn ck r1 a2) _ _ (hh_47.sub (L1 := [(r1, 14, 6, .ref yb_17), (r1, 14, 7, .ref ye_17), (r1, 14, 5, .int ((jUn sn r1 qs_4) r1)), (r1, 14, 3, .ref yt), (r1, 14, 4, .int pz), (r0, 16, 41, .ref dd), (r0, 16, 42, .int dc), (r0, 16, 60, .ref co), (r0, 16, 61, .ref cs), (r0, 16, 46, .ref ol), (r0, 16, 47, .ref nw), (r0, 16, 71, .ref td)]) [1, 2, 3, 7, 8, 9, 10, 11, 12, 13, 14, 15] rfl (M1 := [(yb_17, 190, 40, ca 1, fb_17), (ye_17, 191, 40, ca 1, fe_17), (begin_8, 190, 40, ca 1, gb_4), (end_11, 191, 40, ca 1, ge_4), (yt, 101, 1500, ca 1, ft), (cs, 207, 2, ca 1, fs)]) [0, 1, 2, 3, 4, 5] rfl (I1 := [(jFs, jDY dC dI ca G0 none (jUn sn r1 qs_4)), (jF9, jVl dC dI G0 9 (jUn ck r1 a2)), ([(201, 0)], jQc dC dI (ca 4) dd 3 fd), ([(208, 0)], jQc dC dI (ca 4) co 2 fo)]) [1, 0, 2, 3] rfl) (by first | assumption | exact hp0.set (by omega) (by rw [jUn_e]; omega) (fun a h => jUn_n _ _ h) | exact hp0.set (by omega) (by omega) (fun a h => rfl) | omega) _ (lv_sub hl [0, 1, 2] rfl)
end
section
-- how a text is parted rests on its units alone
theorem jEqU.snoc {f f1 g : Nat → Int32} {m m1 k : Int} (h : jEqU f g m) (h0 : 0 ≤ m) (hm : m < k) (hv : jSo f1 m = jSo g m) (ho : ∀ j : Nat, (j : Int) < k → j ≠ m.toNat → f1 j = f j) (e : m1 = m + 1) : jEqU f1 g m1 := fun i q0 q1 => by
  by_cases q : i = m
  · rw [q]; exact hv
  · have := h i q0 (by omega)
    rw [← this]
    unfold jSo
    rw [ho i.toNat (by omega) (by omega)]
end
section
-- a document is closed: it goes behind the open ones
theorem jNo.keep {fo : Nat → Option Nat} {x w : Nat} {k k1 : Int} (h : jNo fo x k) (hv : fo w ≠ some x) (hw : (w : Int) = k) (hk : k1 = k + 1) : jNo fo x k1 := fun j hj => by
  by_cases e : j = w
  · subst e; exact hv
  · exact h j (by omega)
end
