-- copyOf of bytes, over the one list of words
set_option maxHeartbeats 4000000 in
set_option maxRecDepth 20000 in
/-- Arrays.copyOf to a greater length: a new row -/
theorem wJ7_copyOf_9075b (l : Launch) (dC : Nat → ClassId) (dI : Nat → Nat → Nat) (ca : Nat → ClassId) (base LC LS : Nat) (H0 : Heap) (v n n1 : Nat) (f : Nat → Int32) (a1 : Int32) : Met l yJ7_copyOf_9075b (jw yJ7_copyOf_9075b cJ7_copyOf_9075b 3 (some (.array .byte))) ({ frames := 1, cells := LC - H0.size, slots := LS - jTot H0, locals := 40 }) (va_Pc [.ref v, .int a1] (fun U => U.heap = H0 ∧ va_at (dC, dI) vwCl (v, .inl (ca 0, n, .inl f)) H0 ∧ jG dC dI ca base U ∧ (sb_Fit f ∧ a1.toInt = n1 ∧ n < n1 ∧ n1 ≤ 2000000 ∧ H0.size + 1 ≤ LC ∧ jTot H0 + n1 ≤ LS))) (va_Qr (S := Nat → Int32) (fun f1 => sb_Fit f1) (fun f1 a t => a = H0.size ∧ va_at (dC, dI) vwCl (a, .inl (ca 0, n1, .inl f1)) t.heap ∧ t.heap.size = H0.size + 1 ∧ (∀ q, q < H0.size → t.heap[q]? = H0[q]?) ∧ jTot t.heap ≤ jTot H0 + n1) (fun q => H0.size ≤ q)) (LC - H0.size) (LS - jTot H0) (fun q => q = v ∨ H0.size ≤ q) := by
  refine Met.ofW (cc := cJ7_copyOf_9075b) (maxL := 3) (ret := (some (.array .byte))) (by decide) rfl ?_
  intro p e s m args below meth c s₁ B hml hv
  obtain ⟨rfl, hH0, hat, hG, hfit, h1, h2, h3, h4, h5⟩ := hv
  have hK := hG.1
  have hx := B.exec
  have hb := B.bytes
  have hr := B.returns
  have hts := atoms_spec (ws := (jw yJ7_copyOf_9075b cJ7_copyOf_9075b 3 (some (.array .byte)))) B.pre
  have htw : ∀ w ∈ jWl, w.before _ s = true := fun w h => hts w (List.mem_cons_of_mem _ h)
  have hown : s.vm.findClass RJ7 = some m.cls := findClass_of_methodNamed B.named
  have hlocks := B.notSynchronized
  subst hH0
  have hvl : v < s.heap.size := (Array.getElem?_eq_some_iff.mp hat).1
  have hl := lv_entry ([.ref v, .int a1]) (n := 3) (Nat.le_of_ble_eq_true rfl)
  rw [lg_entry_eq]
  generalize (lg_sl ([.ref v, .int a1]) ++ List.replicate (3 - (lg_sl ([.ref v, .int a1])).length) Slot.unset).toArray = ls at hl ⊢
  have hl : lv_has ls 3 [(0, .ref v), (1, .int a1)] := hl
  refine lv_iload_n hx hb dJ7_copyOf_9075b_0 rfl (lv_at hl 1 rfl) ?_
  refine lv_aload_n hx hb dJ7_copyOf_9075b_1 rfl (lv_at hl 0 rfl) ?_
  refine va_alen (v := Int32.ofNat n) hx hb hK (jp_one hat) 0 0 rfl rfl rfl dJ7_copyOf_9075b_2 ?_
  refine lv_icmp_ne (tgt := 14) hx hb dJ7_copyOf_9075b_3 (by decide) (fun c1 => ?_) (fun c1 => ?_)
  · refine lv_iload_n hx hb dJ7_copyOf_9075b_14 rfl (lv_at hl 1 rfl) ?_
    refine j_newi (ty := .byte) hx hb (htw (.arrayClass .byte) (jWr_3 _ (List.mem_of_getElem? (i := 9) rfl))) rfl rfl (fun _ h => h) hK 0 rfl (jb_n0 h1 (by omega)) (N' := n1) (by rw [jb_cl h1 (by omega)]; omega) (by simp [componentBytes]; omega) (by show 0 + 1 ≤ LC - s.heap.size; omega) (by show 0 + n1 ≤ LS - jTot s.heap; omega) dJ7_copyOf_9075b_15 (fun H1 hat1 hz1 ho1 hT1 => ?_)
    have hat2 := hat.kept (ho1 _ hvl)
    have hP : va_P (dC, dI) vwCl [(v, .inl (ca 0, n, .inl f)), (s.heap.size, .inl (ca 0, n1, .inl (fun _ => 0)))] H1 := by
      intro k r hr
      match k, hr with
      | 0, hr => cases hr; exact hat2
      | 1, hr => cases hr; exact hat1
      | k + 2, hr => simp at hr
    have hD : va_D (fun q => q = v ∨ s.heap.size ≤ q) [(v, .inl (ca 0, n, .inl f)), (s.heap.size, .inl (ca 0, n1, .inl (fun _ => 0)))] := by
      refine ⟨fun i j p q hi hj e => ?_, fun k q hq => ?_⟩
      · match i, j, hi, hj with
        | 0, 0, _, _ => rfl
        | 0, 1, hi, hj => cases hi; cases hj; simp at e; omega
        | 1, 0, hi, hj => cases hi; cases hj; simp at e; omega
        | 1, 1, _, _ => rfl
        | i + 2, _, hi, _ => simp at hi
        | _, j + 2, _, hj => simp at hj
      · match k, hq with
        | 0, hq => cases hq; exact Or.inl rfl
        | 1, hq => cases hq; exact Or.inr (Nat.le_refl _)
        | k + 2, hq => simp at hq
    have hS : va_S (fun q => q = v ∨ s.heap.size ≤ q) s.heap H1 [] := ⟨by omega, fun q h _ => ho1 q h, fun _ h => nomatch h⟩
    refine lv_astore_n (lv' := [(2, .ref s.heap.size), (0, .ref v), (1, .int a1)]) hx hb dJ7_copyOf_9075b_17 rfl hl (by decide) rfl (fun ls hl => ?_)
    refine lv_aload_n hx hb dJ7_copyOf_9075b_18 rfl (lv_at hl 1 rfl) ?_
    refine lv_iconst (v := 0) hx hb dJ7_copyOf_9075b_19 (by decide) ?_
    refine lv_aload_n hx hb dJ7_copyOf_9075b_20 rfl (lv_at hl 0 rfl) ?_
    refine lv_iconst (v := 0) hx hb dJ7_copyOf_9075b_21 (by decide) ?_
    refine lv_aload_n hx hb dJ7_copyOf_9075b_22 rfl (lv_at hl 1 rfl) ?_
    refine va_alen (v := Int32.ofNat n) hx hb hK (jp_one hat2) 0 0 rfl rfl rfl dJ7_copyOf_9075b_23 ?_
    refine lv_iload_n hx hb dJ7_copyOf_9075b_24 rfl (lv_at hl 2 rfl) ?_
    refine va_mmin hx hb (by rw [hml]; exact hl.1.symm) hown (htw (.methodLink RJ7 304 Lib.Math.min.name) (jWr_16 _ (List.mem_of_getElem? (i := 15) rfl))) (htw (.static Lib.Math.min.name) (jWr_16 _ (List.mem_of_getElem? (i := 16) rfl))) (htw (.initialized "java/lang/Math") (jWr_3 _ (List.mem_of_getElem? (i := 7) rfl))) (htw (.code Lib.Math.min.name Lib.Math.min.code 2 (some .int)) (jWr_16 _ (List.mem_of_getElem? (i := 17) rfl))) (Nat.le_of_ble_eq_true rfl) (Nat.le_of_ble_eq_true rfl) (by show 0 + 1 ≤ LC - s.heap.size; omega) (by show 0 + n1 ≤ LS - jTot s.heap; omega) dJ7_copyOf_9075b_25 ?_
    have hn : (Int32.ofNat n).toInt = n := jb_nat (by omega)
    rw [if_neg (fun q => by have h6 := jb_lt h1 hn q; omega)]
    refine va_copyi (H0 := s.heap) hx hb (by rw [hml]; exact hl.1.symm) hown (htw (.methodLink RJ7 150 arraycopyName) (jWr_16 _ (List.mem_of_getElem? (i := 18) rfl))) (htw (.native arraycopyName) (jWr_16 _ (List.mem_of_getElem? (i := 19) rfl))) (htw (.static arraycopyName) (jWr_16 _ (List.mem_of_getElem? (i := 20) rfl))) (htw (.initialized "java/lang/System") (jWr_16 _ (List.mem_of_getElem? (i := 21) rfl))) hK hP hD hS 0 1 0 0 rfl rfl rfl rfl rfl (by decide) (by decide) (jb_n0 hn (by omega)) (by rw [jb_cl hn (by omega), sb_cl0]; omega) (by rw [jb_cl hn (by omega), sb_cl0]; omega) (fun i hi => hfit _) (Nat.le_of_ble_eq_true rfl) (Nat.le_of_ble_eq_true rfl) dJ7_copyOf_9075b_28 (fun H2 locs2 hP2 hD2 hS2 => ?_)
    refine W.known (fun hsz2 hT2 => ?_)
    refine lv_aload_n hx hb dJ7_copyOf_9075b_31 rfl (lv_at hl 0 rfl) ?_
    have hat3 := hP2 1 _ rfl
    have hat4 := hP2 0 _ rfl
    have hl3 : s.heap.size < H2.size := hat3.lt
    refine W.widen (k := LC - s.heap.size) (n := LS - jTot s.heap) (by omega) (by omega) ?_
    refine W.aret hx hb hr (Or.inr ⟨_, rfl⟩) (Or.inr ⟨_, rfl⟩) (fun t ht hW => ⟨⟨_, _, rfl, ?_, rfl, by rw [ht]; exact hat3, by rw [ht]; omega, fun q hq => ?_, by rw [ht]; omega⟩, by rw [ht]; exact hS2.1, fun q hq hn => ?_⟩) ?_ dJ7_copyOf_9075b_32
    · exact hS2.2.2
    · exact sb_fitC hfit sb_fit0
    · rw [ht]
      by_cases e : q = v
      · subst e
        exact (show H2[q]? = some _ from hat4).trans (show s.heap[q]? = some _ from hat).symm
      · exact hS2.2.1 q hq (fun h => h.elim e (fun h => by omega))
    · rw [ht]
      by_cases e : q = v
      · subst e
        exact (show H2[q]? = some _ from hat4).trans (show s.heap[q]? = some _ from hat).symm
      · exact hS2.2.1 q hq (fun h => h.elim e (fun h => by omega))
  · exact absurd (jb_eq h1 (jb_nat (by omega)) c1) (by omega)
