-- texts whose bytes are known: charAt, isText and member as functions
def jStrF (base a n : Nat) (f : Nat → Int32) (U : State) (H : Heap) : Prop := va_O "java/lang/String" a (jA base) U H ∧ va_OF "java/lang/String" "coder" "B" (.int 0) a (jA base) U H ∧ ∃ v : Nat, va_OF "java/lang/String" "value" "[B" (.ref v) a (jA base) U H ∧ va_T .byte v n (fun j => .int (f j)) (jA base) U H
theorem jStrF.moved {base a n : Nat} {f : Nat → Int32} {u U : State} {H : Heap} (hvm : u.vm.Alike U.vm) (h : jStrF base a n f u H) : jStrF base a n f U H := by
  obtain ⟨h1, h2, v, h3, h4⟩ := h
  exact ⟨h1.moved hvm, h2.moved hvm, v, h3.moved hvm, h4.moved hvm⟩
theorem jStrF.kept {base a n : Nat} {f : Nat → Int32} {U : State} {H H1 : Heap} (h : jStrF base a n f U H) (hq : ∀ a : Nat, a < H.size → ¬ jA base a → H1[a]? = H[a]?) : jStrF base a n f U H1 := by
  obtain ⟨h1, h2, v, h3, h4⟩ := h
  exact ⟨h1.kept hq, h2.kept hq, v, h3.kept hq, h4.kept hq⟩
theorem jStrF.str {base a n : Nat} {f : Nat → Int32} {U : State} {H : Heap} (h : jStrF base a n f U H) : jStr base a n U H := by
  obtain ⟨h1, h2, v, h3, h4⟩ := h
  exact ⟨h1, h2, v, _, h3, h4⟩
theorem jStrT.F {base a n : Nat} {tx : String} {U : State} {H : Heap} (h : jStrT base a tx U H) (hn : tx.length = n) : jStrF base a n (jChT tx) U H := by
  subst hn
  obtain ⟨h1, h2, v, h3, h4⟩ := h
  exact ⟨h1, h2, v, h3, h4⟩
def jCv (x : Int32) : Int32 := ((x &&& 255).toUInt32 % 65536).toInt32
def jTx (fp f : Nat → Int32) (a : Int) : Nat → Int
  | 0 => 1
  | n + 1 => if jSo fp (a + n) = (jCv (f n)).toInt then jTx fp f a n else 0
theorem jTx_0 {fp f : Nat → Int32} {a : Int} {m n : Nat} (h : m < n) (he : jSo fp (a + m) ≠ (jCv (f m)).toInt) : jTx fp f a n = 0 := by
  induction n with
  | zero => omega
  | succ n ih =>
    have e : jTx fp f a (n + 1) = if jSo fp (a + n) = (jCv (f n)).toInt then jTx fp f a n else 0 := rfl
    rw [e]
    by_cases q : m = n
    · subst q; rw [if_neg he]
    · split
      · exact ih (by omega)
      · rfl
theorem jTx_1 {fp f : Nat → Int32} {a : Int} {m : Nat} (h : jTx fp f a m = 1) (he : jSo fp (a + m) = (jCv (f m)).toInt) : jTx fp f a (m + 1) = 1 := by
  have e : jTx fp f a (m + 1) = if jSo fp (a + m) = (jCv (f m)).toInt then jTx fp f a m else 0 := rfl
  rw [e, if_pos he]; exact h
theorem jTx_le (fp f : Nat → Int32) (a : Int) (n : Nat) : 0 ≤ jTx fp f a n ∧ jTx fp f a n ≤ 1 := by
  induction n with
  | zero => exact ⟨by show (0 : Int) ≤ 1; omega, by show (1 : Int) ≤ 1; omega⟩
  | succ n ih =>
    have e : jTx fp f a (n + 1) = if jSo fp (a + n) = (jCv (f n)).toInt then jTx fp f a n else 0 := rfl
    rw [e]; split
    · exact ih
    · omega
def jIT (fp f : Nat → Int32) (n : Nat) (a b : Int) : Int := if b - a = n then jTx fp f a n else 0
def jMn (nf nt nx fp f : Nat → Int32) (n : Nat) : Nat → Int → Int → Int
  | 0, _, c => c
  | k + 1, m, c => if m < 0 then c else jMn nf nt nx fp f n k (jSo nx m) (if jIT fp f n (jSo nf m) (jSo nt m) = 0 then c else m)
theorem jMn_s {nf nt nx fp f : Nat → Int32} {n k : Nat} {m c m1 c1 : Int} (hk : 0 < k) (hm : 0 ≤ m) (e1 : m1 = jSo nx m) (e2 : (jIT fp f n (jSo nf m) (jSo nt m) = 0 ∧ c1 = c) ∨ (jIT fp f n (jSo nf m) (jSo nt m) ≠ 0 ∧ c1 = m)) : jMn nf nt nx fp f n (k - 1) m1 c1 = jMn nf nt nx fp f n k m c := by
  cases k with
  | zero => omega
  | succ k =>
    have e : jMn nf nt nx fp f n (k + 1) m c = if m < 0 then c else jMn nf nt nx fp f n k (jSo nx m) (if jIT fp f n (jSo nf m) (jSo nt m) = 0 then c else m) := rfl
    rw [e, if_neg (by omega), ← e1]
    rcases e2 with ⟨q, rfl⟩ | ⟨q, rfl⟩
    · rw [if_pos q]; rfl
    · rw [if_neg q]; rfl
theorem jMn_e {nf nt nx fp f : Nat → Int32} {n k : Nat} {m c r : Int} (hk : 0 < k) (hm : m < 0) (e : r = c) : r = jMn nf nt nx fp f n k m c := by
  cases k with
  | zero => omega
  | succ k =>
    have e1 : jMn nf nt nx fp f n (k + 1) m c = if m < 0 then c else jMn nf nt nx fp f n k (jSo nx m) (if jIT fp f n (jSo nf m) (jSo nt m) = 0 then c else m) := rfl
    rw [e1, if_pos hm, e]
/-- the member of node a that the text f of length n names; -1 when there is none -/
def jMb (so hr nf nt nx fp f : Nat → Int32) (n : Nat) (a : Int) : Int := if a < 0 ∨ jSo so a ≠ 6 then -1 else jMn nf nt nx fp f n 3102 (jSo hr a) (-1)
set_option maxHeartbeats 4000000 in
set_option maxRecDepth 20000 in
theorem eJ1_charAt_3b067 (l : Launch) (dC : Nat → ClassId) (dI : Nat → Nat → Nat) (ca : Nat → ClassId) (base : Nat) (H0 : Heap) (h0 n : Nat) (f : Nat → Int32) (a1 : Int32) : Met l yJ1_charAt_3b067 (jw yJ1_charAt_3b067 cJ1_charAt_3b067 2 (some .char)) ({ frames := 2, cells := 0, slots := 0, locals := 80 }) (va_Pc [.ref h0, .int a1] (fun U => U.heap = H0 ∧ va_T .byte h0 n (fun j => .int (f j)) (jA base) U H0 ∧ jG dC dI ca base U ∧ (n < 2147483648 ∧ 0 ≤ a1.toInt ∧ a1.toInt < n))) (vp_Si (fun r => r = jCv (f a1.toInt.toNat))) 0 0 (fun _ => False) := by
  refine Met.ofW (cc := cJ1_charAt_3b067) (maxL := 2) (ret := (some .char)) (by decide) rfl ?_
  intro p e s m args below meth c s₁ B hml hv
  obtain ⟨rfl, hH0, hsa_h0, hG, hp1, hp2, hp3⟩ := hv
  have hK := hG.1
  have hx := B.exec
  have hb := B.bytes
  have hr := B.returns
  have hts := atoms_spec (ws := (jw yJ1_charAt_3b067 cJ1_charAt_3b067 2 (some .char))) B.pre
  have htw : ∀ w ∈ jWl, w.before _ s = true := fun w h => hts w (List.mem_cons_of_mem _ h)
  have hown : s.vm.findClass RJ1 = some m.cls := findClass_of_methodNamed B.named
  have hlocks := B.notSynchronized
  obtain ⟨Q, hQ⟩ : ∃ Q, Q = MQ below (vp_Si (fun r => r = jCv (f a1.toInt.toNat))) ([.ref h0, .int a1] : List Value).toArray s 0 0 (fun _ => False) := ⟨_, rfl⟩
  rw [← hQ]
  have hl := lv_entry ([.ref h0, .int a1]) (n := 2) (Nat.le_of_ble_eq_true rfl)
  rw [lg_entry_eq]
  generalize (lg_sl ([.ref h0, .int a1]) ++ List.replicate (2 - (lg_sl ([.ref h0, .int a1])).length) Slot.unset).toArray = ls at hl ⊢
  have hl : lv_has ls 2 [(0, .ref h0), (1, .int a1)] := hl
  generalize hR : (headSpec (jw yJ1_charAt_3b067 cJ1_charAt_3b067 2 (some .char)) ({ frames := 2, cells := 0, slots := 0, locals := 80 })).room = R
  subst hH0
  have hS : va_S (jA base) s.heap s.heap [] := va_S.rf
  have hk0 : (0 : Int32).toInt = 0 := by decide
  have hk1 : (1 : Int32).toInt = 1 := by decide
  have hk255 : (255 : Int32).toInt = 255 := by decide
  refine lv_iload_n hx hb dJ1_charAt_3b067_0 rfl (lv_at hl 1 rfl) ?_
  refine lv_aload_n hx hb dJ1_charAt_3b067_1 rfl (lv_at hl 0 rfl) ?_
  refine va_tlen hx hb hsa_h0 hS (v := Int32.ofNat n) rfl dJ1_charAt_3b067_2 ?_
  refine lv_topi (fun z_1 ez_1 => ?_)
  have hz_1 : z_1.toInt = n := by rw [ez_1]; exact jb_nat (by omega)
  refine va_csv (W.runS (As := [.int a1, .int z_1]) (rest := []) ⟨hx, hb, hml, hown, hts⟩ (wJ0_checkIndex_df160 l dC dI ca base s.heap a1 z_1) (va_cwS 2 hts (jgS (jWr_6 _ (List.mem_of_getElem? (i := 12) rfl)) (jWr_6 _ (List.mem_of_getElem? (i := 13) rfl)) (jWr_5 _ (List.mem_of_getElem? (i := 15) rfl)) (jWr_6 _ (List.mem_of_getElem? (i := 14) rfl))) rfl rfl rfl (by decide +kernel) ⟨by rw [← hR]; exact Nat.le_of_ble_eq_true rfl, by rw [← hR]; exact Nat.le_of_ble_eq_true rfl⟩) ⟨fun a U g mk q => by obtain ⟨q0, q1, qK, q9⟩ := q; exact ⟨q0, q1, jG.calling g mk a qK, q9⟩, fun U hU hW => ⟨rfl, hU, hG.step hW hU hS, by first | trivial | omega | (constructor <;> omega)⟩⟩ rfl rfl hl.1 rfl (lv_room (Nat.le_of_ble_eq_true rfl)) dJ1_charAt_3b067_3 ⟨Nat.zero_le _, Nat.zero_le _⟩) (fun _ => ?_)
  refine lv_aload_n hx hb dJ1_charAt_3b067_6 rfl (lv_at hl 0 rfl) ?_
  refine lv_iload_n hx hb dJ1_charAt_3b067_7 rfl (lv_at hl 1 rfl) ?_
  refine va_tb hx hb hsa_h0 hS (jb_in (rfl) (by omega) (by omega)) rfl dJ1_charAt_3b067_8 ?_
  refine lv_topi (fun z_3 ez_3 => ?_)
  refine lv_sipush (v := 255) hx hb dJ1_charAt_3b067_9 (by decide) ?_
  refine lv_iand hx hb dJ1_charAt_3b067_12 ?_
  refine lv_topi (fun z_4 ez_4 => ?_)
  have hz_4 : 0 ≤ z_4.toInt ∧ z_4.toInt ≤ 255 := by rw [ez_4]; exact jb_and z_3 (m := 255) (k := 8) (by decide) (by decide)
  refine lv_i2c hx hb dJ1_charAt_3b067_13 rfl ?_
  refine lv_topi (fun z_5 ez_5 => ?_)
  rw [hQ]
  exact W.zret (v := z_5) hx hb hr (by rw [ez_5]; exact pk_nc _) (fun t ht hW => ⟨z_5, rfl, by show z_5 = jCv (f a1.toInt.toNat); rw [← jb_cl (x := a1) rfl (by omega), ez_5, ez_4, ez_3]; rfl, ht⟩) (fun _ h => nomatch h) dJ1_charAt_3b067_14
set_option maxHeartbeats 4000000 in
set_option maxRecDepth 20000 in
theorem eJ0_charAt_5068e (l : Launch) (dC : Nat → ClassId) (dI : Nat → Nat → Nat) (ca : Nat → ClassId) (base : Nat) (H0 : Heap) (h0 n : Nat) (f : Nat → Int32) (a1 : Int32) : Met l yJ0_charAt_5068e (jw yJ0_charAt_5068e cJ0_charAt_5068e 2 (some .char)) ({ frames := 3, cells := 0, slots := 0, locals := 120 }) (va_Pc [.ref h0, .int a1] (fun U => U.heap = H0 ∧ jStrF base h0 n f U H0 ∧ jG dC dI ca base U ∧ (n < 2147483648 ∧ 0 ≤ a1.toInt ∧ a1.toInt < n))) (vp_Si (fun r => r = jCv (f a1.toInt.toNat))) 0 0 (fun _ => False) := by
  refine Met.ofW (cc := cJ0_charAt_5068e) (maxL := 2) (ret := (some .char)) (by decide) rfl ?_
  intro p e s m args below meth c s₁ B hml hv
  obtain ⟨rfl, hH0, hsF, hG, hp1, hp2, hp3⟩ := hv
  have hstr_h0 := hsF.str
  have hK := hG.1
  have hx := B.exec
  have hb := B.bytes
  have hr := B.returns
  have hts := atoms_spec (ws := (jw yJ0_charAt_5068e cJ0_charAt_5068e 2 (some .char))) B.pre
  have htw : ∀ w ∈ jWl, w.before _ s = true := fun w h => hts w (List.mem_cons_of_mem _ h)
  have hown : s.vm.findClass RJ0 = some m.cls := findClass_of_methodNamed B.named
  have hlocks := B.notSynchronized
  obtain ⟨Q, hQ⟩ : ∃ Q, Q = MQ below (vp_Si (fun r => r = jCv (f a1.toInt.toNat))) ([.ref h0, .int a1] : List Value).toArray s 0 0 (fun _ => False) := ⟨_, rfl⟩
  rw [← hQ]
  have hl := lv_entry ([.ref h0, .int a1]) (n := 2) (Nat.le_of_ble_eq_true rfl)
  rw [lg_entry_eq]
  generalize (lg_sl ([.ref h0, .int a1]) ++ List.replicate (2 - (lg_sl ([.ref h0, .int a1])).length) Slot.unset).toArray = ls at hl ⊢
  have hl : lv_has ls 2 [(0, .ref h0), (1, .int a1)] := hl
  generalize hR : (headSpec (jw yJ0_charAt_5068e cJ0_charAt_5068e 2 (some .char)) ({ frames := 3, cells := 0, slots := 0, locals := 120 })).room = R
  subst hH0
  have hS : va_S (jA base) s.heap s.heap [] := va_S.rf
  have hk0 : (0 : Int32).toInt = 0 := by decide
  have hk1 : (1 : Int32).toInt = 1 := by decide
  refine lv_aload_n hx hb dJ0_charAt_5068e_0 rfl (lv_at hl 0 rfl) ?_
  refine vp_callSi (W.runV (As := []) (rest := []) ⟨hx, hb, hml, hown, hts⟩ (wJ0_isLatin1_aae02 l dC dI ca base s.heap h0 n) (cwV 0 hts (jgV (jWr_6 _ (List.mem_of_getElem? (i := 4) rfl)) (jWr_6 _ (List.mem_of_getElem? (i := 5) rfl)) (jWr_6 _ (List.mem_of_getElem? (i := 6) rfl)) (jWr_5 _ (List.mem_of_getElem? (i := 15) rfl)) (jWr_6 _ (List.mem_of_getElem? (i := 7) rfl))) rfl rfl rfl (by decide +kernel) ⟨by rw [← hR]; exact Nat.le_of_ble_eq_true rfl, by rw [← hR]; exact Nat.le_of_ble_eq_true rfl⟩) ⟨fun a U g mk q => by obtain ⟨q0, q1, q2, qK, q9⟩ := q; exact ⟨q0, q1, (q2.moved (Vm.Alike.refl U.vm)), jG.calling g mk a qK, q9⟩, jStr_recv hstr_h0 hS, fun U hU hW => ⟨rfl, hU, (hstr_h0.moved hW.alike).kept hS.2.1, hG.step hW hU hS, by omega⟩⟩ rfl rfl hl.1 rfl (lv_room (Nat.le_of_ble_eq_true rfl)) dJ0_charAt_5068e_1 ⟨Nat.zero_le _, Nat.zero_le _⟩) (fun r_1 hr_1 => ?_)
  subst hr_1
  refine lv_if_eq (tgt := 16) hx hb dJ0_charAt_5068e_4 (by decide) (fun c_2 => ?_) (fun c_2 => ?_)
  · skip
    exact absurd c_2 (by decide)
  · skip
    refine lv_aload_n hx hb dJ0_charAt_5068e_7 rfl (lv_at hl 0 rfl) ?_
    obtain ⟨sv_3, gsv_3, hsv_3⟩ := hsF.2.2
    refine vk_getf hx hb gsv_3 hS hown (htw (.fieldLink RJ0 9 "java/lang/String" "value" "[B") (jWr_5 _ (List.mem_of_getElem? (i := 17) rfl))) (fun _ h9 => h9) dJ0_charAt_5068e_8 ?_
    refine lv_iload_n hx hb dJ0_charAt_5068e_11 rfl (lv_at hl 1 rfl) ?_
    refine vp_callSi (W.runS (As := [.ref sv_3, .int a1]) (rest := []) ⟨hx, hb, hml, hown, hts⟩ (eJ1_charAt_3b067 l dC dI ca base s.heap sv_3 n f a1) (va_cwS 2 hts (jgS (jWr_6 _ (List.mem_of_getElem? (i := 8) rfl)) (jWr_6 _ (List.mem_of_getElem? (i := 9) rfl)) (jWr_6 _ (List.mem_of_getElem? (i := 10) rfl)) (jWr_6 _ (List.mem_of_getElem? (i := 11) rfl))) rfl rfl rfl (by decide +kernel) ⟨by rw [← hR]; exact Nat.le_of_ble_eq_true rfl, by rw [← hR]; exact Nat.le_of_ble_eq_true rfl⟩) ⟨fun a U g mk q => by obtain ⟨q0, q1, q2, qK, q9⟩ := q; exact ⟨q0, q1, (q2.moved (Vm.Alike.refl U.vm)), jG.calling g mk a qK, q9⟩, fun U hU hW => ⟨rfl, hU, (hsv_3.moved hW.alike).kept hS.2.1, hG.step hW hU hS, ⟨by omega, by omega, by omega⟩⟩⟩ rfl rfl hl.1 rfl (lv_room (Nat.le_of_ble_eq_true rfl)) dJ0_charAt_5068e_12 ⟨Nat.zero_le _, Nat.zero_le _⟩) (fun r_4 hr_4 => ?_)
    rw [hQ]
    exact W.zret (v := r_4) hx hb hr (by rw [hr_4]; exact jb_nch (jb_char _).1 (jb_char _).2) (fun t ht hW => ⟨r_4, rfl, hr_4, ht⟩) (fun _ h => nomatch h) dJ0_charAt_5068e_15
