section
-- how long a message is at least that opens or changes a document
theorem jEs.mem : ∀ (is : List Nat) (e : Nat), e ∈ jEs is → e / 2 ∈ is
  | [], _, h => by cases h
  | i :: is, e, h => by
    rcases List.mem_cons.mp h with h | h
    · subst h
      rw [show 2 * i / 2 = i by omega]
      exact List.mem_cons_self
    · rcases List.mem_cons.mp h with h | h
      · subst h
        rw [show (2 * i + 1) / 2 = i by omega]
        exact List.mem_cons_self
      · exact List.mem_cons_of_mem _ (jEs.mem is e h)
theorem jEs.apart : ∀ (is : List Nat), is.Pairwise (· ≠ ·) → (jEs is).Pairwise (· ≠ ·)
  | [], _ => List.Pairwise.nil
  | i :: is, h => by
    obtain ⟨h1, h2⟩ := List.pairwise_cons.mp h
    have g := jEs.apart is h2
    refine List.pairwise_cons.mpr ⟨fun e he q => ?_, List.pairwise_cons.mpr ⟨fun e he q => ?_, g⟩⟩
    · rcases List.mem_cons.mp he with he | he
      · omega
      · exact h1 _ (jEs.mem is e he) (by omega)
    · exact h1 _ (jEs.mem is e he) (by omega)
theorem jSb.one : ∀ n : Nat, jSb (fun _ => 1) n = 5 * (n : Int)
  | 0 => rfl
  | n + 1 => by
    have h := jSb.one n
    show jSb (fun _ => 1) n + (if 1 ≤ ((1 : Int32)).toInt then 5 else 2) = 5 * ((n + 1 : Nat) : Int)
    rw [if_pos (by decide), h]
    omega
theorem jCi.all {n : Nat} : ∀ is : List Nat, (∀ i ∈ is, i < n) → jCi n is = 3 * (is.length : Int)
  | [], _ => rfl
  | i :: is, h => by
    have h1 := jCi.all is (fun x hx => h x (List.mem_cons_of_mem _ hx))
    have h2 := h i List.mem_cons_self
    show (if i < n then (3 : Int) else 0) + jCi n is = 3 * ((is.length + 1 : Nat) : Int)
    rw [if_pos h2, h1]
    omega
theorem jCi.len {n : Nat} {is : List Nat} (hp : is.Pairwise (· ≠ ·)) (h : ∀ i ∈ is, i < n) : (is.length : Int) ≤ n := by
  have h1 := jSb.many (f := fun _ => 1) hp (fun _ _ => by decide) n
  rw [jSb.one, jCi.all is h] at h1
  omega
theorem jByt {C D : jC} {qv qu n : Int} (h : jJr C 0 0 D qv qu) (hu : qu + jSb D.2.2.2.2 qv.toNat ≤ n + 1) (is : List Int) (hp : is.Pairwise (· ≠ ·)) (hr : ∀ i ∈ is, 0 ≤ i ∧ i < qv ∧ 1 ≤ jSo D.2.2.2.2 i) : jWs D is + 5 * (is.length : Int) ≤ n + 1 := by
  have hq : (is.map Int.toNat).Pairwise (· ≠ ·) := List.pairwise_map.mpr (hp.imp_of_mem (fun ha hb ne q => ne (by
    have := (hr _ ha).1
    have := (hr _ hb).1
    omega)))
  have hm : ∀ x ∈ is.map Int.toNat, (x : Int) < qv ∧ 1 ≤ (D.2.2.2.2 x).toInt := fun x hx => by
    obtain ⟨i, hi, e⟩ := List.mem_map.mp hx
    have g := hr i hi
    have g3 := g.2.2
    unfold jSo at g3
    rw [← e]
    exact ⟨by omega, g3⟩
  have s1 := h.sum (jEs (is.map Int.toNat)) (fun e he => by
    have := (hm _ (jEs.mem _ _ he)).1
    omega) (jEs.apart _ hq)
  rw [jWs.eq is (fun i hi => (hr i hi).1)] at s1
  have s2 := jSb.many hq (fun i hi => (hm i hi).2) qv.toNat
  have s3 : jCi qv.toNat (is.map Int.toNat) = 3 * ((is.map Int.toNat).length : Int) := jCi.all _ (fun i hi => by
    have := (hm i hi).1
    omega)
  have s4 := jCi.len (n := qv.toNat) hq (fun i hi => by
    have := (hm i hi).1
    omega)
  have s5 := h.1
  rw [s3] at s2
  rw [List.length_map] at s2 s4
  omega
/-- a message that was understood, its method of z units -/
def jMg (D : jC) (pv pu n z : Int) : Prop := (∃ C : jC, jJr C 0 0 D pv pu) ∧ jUd D pv pu n ∧ ∃ m : Int, 0 ≤ m ∧ m < pv ∧ jSo D.2.2.2.2 m = 6 ∧ jSo D.1 m = 3 ∧ jSo D.2.2.1 m = z
theorem jNde.ne {D : jC} {pv i j k z k1 z1 : Int} (h : jNde D pv i k z) (g : jNde D pv j k1 z1) (hd : k ≠ k1 ∨ z ≠ z1) : i ≠ j := fun e => by
  subst e
  obtain ⟨-, -, h3, h4⟩ := h
  obtain ⟨-, -, g3, g4⟩ := g
  omega
theorem jNde.w {D : jC} {pv i k z : Int} (h : jNde D pv i k z) (hk : k ≠ 3) (is : List Int) : jWs D (i :: is) = z + jWs D is := by
  obtain ⟨h1, h2, h3, h4⟩ := h
  show (if jSo D.1 i = 3 then jSo D.2.2.1 i else 0) + jSo D.2.2.2.2 i + jWs D is = _
  rw [if_neg (by omega), h4]
  omega
theorem jNde.s {D : jC} {pv i z : Int} (h : jNde D pv i 3 z) (is : List Int) : jWs D (i :: is) = jSo D.2.2.1 i + z + jWs D is := by
  obtain ⟨h1, h2, h3, h4⟩ := h
  show (if jSo D.1 i = 3 then jSo D.2.2.1 i else 0) + jSo D.2.2.2.2 i + jWs D is = _
  rw [if_pos h3, h4]
theorem jNde.r {D : jC} {pv i k z : Int} (h : jNde D pv i k z) (hz : 1 ≤ z) : 0 ≤ i ∧ i < pv ∧ 1 ≤ jSo D.2.2.2.2 i := by
  obtain ⟨h1, h2, h3, h4⟩ := h
  omega
theorem jMg.opn {D : jC} {pv pu n p d u v t : Int} (h : jMg D pv pu n 20) (hp : jNde D pv p 1 6) (hd : jNde D pv d 1 12) (hu : jNde D pv u 3 3) (hv : jNde D pv v 4 7) (ht : jNde D pv t 3 4) : 102 + jSo D.2.2.1 u + jSo D.2.2.1 t ≤ n := by
  obtain ⟨⟨C, h1⟩, ⟨h2, j, j0, j1, j2, j3, j4⟩, m, m0, m1, m2, m3, m4⟩ := h
  have hj : jNde D pv j 3 7 := ⟨j0, j1, j3, j2⟩
  have hm : jNde D pv m 3 6 := ⟨m0, m1, m3, m2⟩
  have nil : ∀ a ∈ ([] : List Int), False := fun a ha => by cases ha
  have b := jByt h1 h2 [j, m, p, d, u, v, t]
    (List.pairwise_cons.mpr ⟨List.forall_mem_cons.mpr ⟨hj.ne hm (by omega), List.forall_mem_cons.mpr ⟨hj.ne hp (by omega), List.forall_mem_cons.mpr ⟨hj.ne hd (by omega), List.forall_mem_cons.mpr ⟨hj.ne hu (by omega), List.forall_mem_cons.mpr ⟨hj.ne hv (by omega), List.forall_mem_cons.mpr ⟨hj.ne ht (by omega), fun a ha => (nil a ha).elim⟩⟩⟩⟩⟩⟩,
    List.pairwise_cons.mpr ⟨List.forall_mem_cons.mpr ⟨hm.ne hp (by omega), List.forall_mem_cons.mpr ⟨hm.ne hd (by omega), List.forall_mem_cons.mpr ⟨hm.ne hu (by omega), List.forall_mem_cons.mpr ⟨hm.ne hv (by omega), List.forall_mem_cons.mpr ⟨hm.ne ht (by omega), fun a ha => (nil a ha).elim⟩⟩⟩⟩⟩,
    List.pairwise_cons.mpr ⟨List.forall_mem_cons.mpr ⟨hp.ne hd (by omega), List.forall_mem_cons.mpr ⟨hp.ne hu (by omega), List.forall_mem_cons.mpr ⟨hp.ne hv (by omega), List.forall_mem_cons.mpr ⟨hp.ne ht (by omega), fun a ha => (nil a ha).elim⟩⟩⟩⟩,
    List.pairwise_cons.mpr ⟨List.forall_mem_cons.mpr ⟨hd.ne hu (by omega), List.forall_mem_cons.mpr ⟨hd.ne hv (by omega), List.forall_mem_cons.mpr ⟨hd.ne ht (by omega), fun a ha => (nil a ha).elim⟩⟩⟩,
    List.pairwise_cons.mpr ⟨List.forall_mem_cons.mpr ⟨hu.ne hv (by omega), List.forall_mem_cons.mpr ⟨hu.ne ht (by omega), fun a ha => (nil a ha).elim⟩⟩,
    List.pairwise_cons.mpr ⟨List.forall_mem_cons.mpr ⟨hv.ne ht (by omega), fun a ha => (nil a ha).elim⟩,
    List.pairwise_cons.mpr ⟨fun a ha => (nil a ha).elim, List.Pairwise.nil⟩⟩⟩⟩⟩⟩⟩)
    (List.forall_mem_cons.mpr ⟨hj.r (by omega), List.forall_mem_cons.mpr ⟨hm.r (by omega), List.forall_mem_cons.mpr ⟨hp.r (by omega), List.forall_mem_cons.mpr ⟨hd.r (by omega), List.forall_mem_cons.mpr ⟨hu.r (by omega), List.forall_mem_cons.mpr ⟨hv.r (by omega), List.forall_mem_cons.mpr ⟨ht.r (by omega), fun a ha => (nil a ha).elim⟩⟩⟩⟩⟩⟩⟩)
  rw [hj.s, hm.s, hp.w (by omega), hd.w (by omega), hu.s, hv.w (by omega), ht.s, show jWs D [] = 0 from rfl, j4, m4, show (([j, m, p, d, u, v, t].length : Nat) : Int) = 7 from rfl] at b
  omega
/-- a message that was understood has some bytes -/
theorem jMh.one {D : jC} {pv pu n : Int} (h : jMh D pv pu n) : 14 ≤ n := by
  obtain ⟨⟨C, h1⟩, h2, j, j0, j1, j2, j3, j4⟩ := h
  have hj : jNde D pv j 3 7 := ⟨j0, j1, j3, j2⟩
  have nil : ∀ a ∈ ([] : List Int), False := fun a ha => by cases ha
  have b := jByt h1 h2 [j] (List.pairwise_cons.mpr ⟨fun a ha => (nil a ha).elim, List.Pairwise.nil⟩) (List.forall_mem_cons.mpr ⟨hj.r (by omega), fun a ha => (nil a ha).elim⟩)
  rw [hj.s, show jWs D [] = 0 from rfl, j4, show (([j].length : Nat) : Int) = 1 from rfl] at b
  omega
theorem jOr.resolve_left {p q : Prop} (h : jOr p q) (n : ¬p) : q := Or.resolve_left h n
theorem jOr.resolve_right {p q : Prop} (h : jOr p q) (n : ¬q) : p := Or.resolve_right h n
end
section
-- the row 'next' of the reference's JSON: once a value was made, the first one has none behind it
theorem jNx0 {f g : Nat → Int32} {x : Int} (hv : jSo g x = -1) (ho : ∀ j, j < 3100 → j ≠ x.toNat → g j = f j) (h0 : 0 ≤ x) (h : x = 0 ∨ jSo f 0 = -1) : jSo g 0 = -1 := by
  rcases h with h | h
  · rw [h] at hv
    exact hv
  · by_cases q : x = 0
    · rw [q] at hv
      exact hv
    · have := ho 0 (by decide) (by omega)
      unfold jSo at h ⊢
      show (g 0).toInt = -1
      rw [this]
      exact h
end
section
def EX14_nodeN : List (Nat × Nat) := [(16, 26), (117, 0), (118, 0), (119, 0), (124, 0)]
def EX14_readNumberN : List (Nat × Nat) := [(16, 26), (16, 29), (16, 31), (117, 0), (118, 0), (119, 0), (124, 0), (125, 0)]
set_option maxHeartbeats 4000000 in
set_option maxRecDepth 20000 in
theorem uX14_nodeN (l : Launch) (dC : Nat → ClassId) (dI : Nat → Nat → Nat) (ca : Nat → ClassId) (base : Nat) (B : jF) (hB : jBok B) (hAp : jAp (dC, dI)) (hB16 : ∀ n G a H, B 16 n G a H ↔ jOb (dC, dI) 16 74 (F16 n G) a H) (hB117 : ∀ n G a H, B 117 n G a H ↔ jAr (dC, dI) (ca 1) (fun j z => True) n a H) (hB118 : ∀ n G a H, B 118 n G a H ↔ jAr (dC, dI) (ca 1) (fun j z => -1 ≤ z.toInt ∧ z.toInt ≤ 3099) n a H) (hB119 : ∀ n G a H, B 119 n G a H ↔ jAr (dC, dI) (ca 1) (fun j z => z.toInt = -1 ∨ z.toInt = 0 ∨ ((j : Nat) < z.toInt ∧ z.toInt ≤ 3099)) n a H) (hB124 : ∀ n G a H, B 124 n G a H ↔ jAr (dC, dI) (ca 3) (fun j z => (z = 0 ∨ z = 1)) n a H) (G0 : jT) (H0 : Heap) (r0 : Nat) (a1 : Int32) (pn : Int32) (xn : Nat) (mx : Nat → Int32) : Met l yX14_node (jw yX14_node cX14_node 2 (some .int)) ({ frames := 0, cells := 0, slots := 0, locals := 0 }) (va_Pc [.ref r0, .int a1] (fun U => U.heap = H0 ∧ jX B base G0 [] H0 ∧ jG dC dI ca base U ∧ G0 r0 = some (16, 0) ∧ G0 xn = some (119, 3100) ∧ jP (dC, dI) G0 H0 [(r0, 16, 26, .int pn), (r0, 16, 19, .ref xn)] ∧ jMc (dC, dI) G0 H0 [(xn, 119, 3100, ca 1, mx)] ∧ 0 ≤ pn.toInt ∧ pn.toInt ≤ 3099 ∧ (pn.toInt = 0 ∨ jSo mx 0 = -1))) (va_Qi (S := Int32 × (Nat → Int32)) (fun r u => (r.toInt = pn.toInt ∧ u.1.toInt = pn.toInt + 1 ∧ jSo u.2 0 = -1)) (fun u t => jRt (dC, dI) B base G0 EX14_nodeN H0 [(r0, 16, 26, .int u.1)] t.heap ∧ jMc (dC, dI) G0 t.heap [(xn, 119, 3100, ca 1, u.2)]) (jA base)) 0 0 (jA base) := by
  refine Met.ofW (cc := cX14_node) (maxL := 2) (ret := (some .int)) (by decide) rfl ?_
  intro p e s m args below meth c s₁ Bd hml hv
  obtain ⟨rfl, hH0, hX, hG, hg_r0, hg_xn, hP0, hM0, hp0, hp1, hp2⟩ := hv
  have hK := hG.1
  have hx := Bd.exec
  have hb := Bd.bytes
  have hr := Bd.returns
  have hts := atoms_spec (ws := (jw yX14_node cX14_node 2 (some .int))) Bd.pre
  have htw : ∀ w ∈ jWl, w.before _ s = true := fun w h => hts w (List.mem_cons_of_mem _ h)
  have hown : s.vm.findClass RX14 = some m.cls := findClass_of_methodNamed Bd.named
  have hlocks := Bd.notSynchronized
  obtain ⟨Q, hQ⟩ : ∃ Q, Q = MQ below (va_Qi (S := Int32 × (Nat → Int32)) (fun r u => (r.toInt = pn.toInt ∧ u.1.toInt = pn.toInt + 1 ∧ jSo u.2 0 = -1)) (fun u t => jRt (dC, dI) B base G0 EX14_nodeN H0 [(r0, 16, 26, .int u.1)] t.heap ∧ jMc (dC, dI) G0 t.heap [(xn, 119, 3100, ca 1, u.2)]) (jA base)) ([.ref r0, .int a1] : List Value).toArray s 0 0 (jA base) := ⟨_, rfl⟩
  rw [← hQ]
  have hl := lv_entry ([.ref r0, .int a1]) (n := 2) (Nat.le_of_ble_eq_true rfl)
  rw [lg_entry_eq]
  generalize (lg_sl ([.ref r0, .int a1]) ++ List.replicate (2 - (lg_sl ([.ref r0, .int a1])).length) Slot.unset).toArray = ls at hl ⊢
  have hl : lv_has ls 2 [(0, .ref r0), (1, .int a1)] := hl
  generalize hR : (headSpec (jw yX14_node cX14_node 2 (some .int)) ({ frames := 0, cells := 0, slots := 0, locals := 0 })).room = R
  subst hH0
  have hh : jSt (dC, dI) B base G0 G0 EX14_nodeN s.heap 0 0 [(r0, 16, 26, .int pn), (r0, 16, 19, .ref xn)] [(xn, 119, 3100, ca 1, mx)] [] s.heap [] := jSt.start hX hP0 hM0 jIs.nil
  clear hX hP0
  have hkm1 : ((-1) : Int32).toInt = (-1) := by decide
  have hk0 : (0 : Int32).toInt = 0 := by decide
  have hk1 : (1 : Int32).toInt = 1 := by decide
  have hly_16_17 := htw (u_lay RX14 TX14 17) (jWc_wsX140 _ (u_in_lay (by decide)))
  have hly_16_18 := htw (u_lay RX14 TX14 18) (jWc_wsX140 _ (u_in_lay (by decide)))
  have hly_16_19 := htw (u_lay RX14 TX14 19) (jWc_wsX140 _ (u_in_lay (by decide)))
  have hly_16_24 := htw (u_lay RX14 TX14 24) (jWc_wsX140 _ (u_in_lay (by decide)))
  have hly_16_26 := htw (u_lay RX14 TX14 26) (jWc_wsX140 _ (u_in_lay (by decide)))
  have hlk_37 := (htw (.fieldLink RX14 37 "ProofServerModel" "sort" "[I") (jWr_11 _ (List.mem_of_getElem? (i := 4) rfl)))
  have hlk_282 := (htw (.fieldLink RX14 282 "ProofServerModel" "nodes" "I") (jWr_50 _ (List.mem_of_getElem? (i := 7) rfl)))
  have hlk_40 := (htw (.fieldLink RX14 40 "ProofServerModel" "heir" "[I") (jWr_11 _ (List.mem_of_getElem? (i := 5) rfl)))
  have hlk_43 := (htw (.fieldLink RX14 43 "ProofServerModel" "next" "[I") (jWr_11 _ (List.mem_of_getElem? (i := 6) rfl)))
  have hlk_58 := (htw (.fieldLink RX14 58 "ProofServerModel" "isInt" "[Z") (jWr_11 _ (List.mem_of_getElem? (i := 12) rfl)))
  have hrg_a1 := jb_rng a1
  refine lv_aload_n hx hb dX14_node_0 rfl (lv_at hl 0 rfl) ?_
  obtain ⟨v_1, hv_1, hh_2⟩ := hh.pin (C := RX14) (T := TX14) (N := 74) hB16 rfl (by decide) hg_r0 (i := 17) (by decide) rfl
  clear hh
  obtain ⟨sort_3, rfl, hg_sort_3⟩ := hv_1
  refine j7_read hx hb hown hK (C := RX14) (T := TX14) (N := 74) rfl hly_16_17 hlk_37 (hh_2.at 0 rfl) dX14_node_1 ?_
  refine lv_aload_n hx hb dX14_node_4 rfl (lv_at hl 0 rfl) ?_
  refine j7_read hx hb hown hK (C := RX14) (T := TX14) (N := 74) rfl hly_16_26 hlk_282 (hh_2.at 1 rfl) dX14_node_5 ?_
  refine lv_iload_n hx hb dX14_node_8 rfl (lv_at hl 1 rfl) ?_
  refine j7_iast hx hb hK hh_2 hB hB117 1 rfl (by decide) (by decide) rfl rfl rfl hg_sort_3 (x := pn.toInt) (rfl) (by omega) (trivial) dX14_node_9 (fun H_4 locs_4 hh_4 => ?_)
  clear hh_2
  refine lv_aload_n hx hb dX14_node_10 rfl (lv_at hl 0 rfl) ?_
  obtain ⟨v_5, hv_5, hh_6⟩ := hh_4.pin (C := RX14) (T := TX14) (N := 74) hB16 rfl (by decide) hg_r0 (i := 18) (by decide) rfl
  clear hh_4
  obtain ⟨heir_7, rfl, hg_heir_7⟩ := hv_5
  refine j7_read hx hb hown hK (C := RX14) (T := TX14) (N := 74) rfl hly_16_18 hlk_40 (hh_6.at 0 rfl) dX14_node_11 ?_
  refine lv_aload_n hx hb dX14_node_14 rfl (lv_at hl 0 rfl) ?_
  refine j7_read hx hb hown hK (C := RX14) (T := TX14) (N := 74) rfl hly_16_26 hlk_282 (hh_6.at 2 rfl) dX14_node_15 ?_
  refine lv_iconst (v := (-1)) hx hb dX14_node_18 (by decide) ?_
  refine j7_iast hx hb hK hh_6 hB hB118 1 rfl (by decide) (by decide) rfl rfl rfl hg_heir_7 (x := pn.toInt) (rfl) (by omega) (by first | omega | (refine ⟨?_, ?_⟩ <;> (first | omega | rfl | assumption | decide | exact Or.inl rfl | exact Or.inr rfl | (simp only; omega)))) dX14_node_19 (fun H_8 locs_8 hh_8 => ?_)
  clear hh_6
  refine lv_aload_n hx hb dX14_node_20 rfl (lv_at hl 0 rfl) ?_
  refine j7_read hx hb hown hK (C := RX14) (T := TX14) (N := 74) rfl hly_16_19 hlk_43 (hh_8.at 3 rfl) dX14_node_21 ?_
  refine lv_aload_n hx hb dX14_node_24 rfl (lv_at hl 0 rfl) ?_
  refine j7_read hx hb hown hK (C := RX14) (T := TX14) (N := 74) rfl hly_16_26 hlk_282 (hh_8.at 2 rfl) dX14_node_25 ?_
  refine lv_iconst (v := (-1)) hx hb dX14_node_28 (by decide) ?_
  refine j7_iastU hx hb hK hh_8 hB hB119 1 rfl (by decide) (by decide) rfl 0 rfl (M1 := []) [] rfl rfl rfl hg_xn (x := pn.toInt) (rfl) (by omega) (by first | omega | rfl | assumption | decide | exact Or.inl rfl | exact Or.inr rfl | (simp only; omega)) dX14_node_29 (fun H_9 locs_9 fs_10 hv_9 ho_9 hh_9 => ?_)
  have hv_9 : jSo fs_10 (pn.toInt) = (-1) := by unfold jSo; rw [hv_9]; try exact (by decide)
  clear hh_8
  refine lv_aload_n hx hb dX14_node_30 rfl (lv_at hl 0 rfl) ?_
  obtain ⟨v_11, hv_11, hh_12⟩ := hh_9.pin (C := RX14) (T := TX14) (N := 74) hB16 rfl (by decide) hg_r0 (i := 24) (by decide) rfl
  clear hh_9
  obtain ⟨isInt_13, rfl, hg_isInt_13⟩ := hv_11
  refine j7_read hx hb hown hK (C := RX14) (T := TX14) (N := 74) rfl hly_16_24 hlk_58 (hh_12.at 0 rfl) dX14_node_31 ?_
  refine lv_aload_n hx hb dX14_node_34 rfl (lv_at hl 0 rfl) ?_
  refine j7_read hx hb hown hK (C := RX14) (T := TX14) (N := 74) rfl hly_16_26 hlk_282 (hh_12.at 3 rfl) dX14_node_35 ?_
  refine lv_iconst (v := 0) hx hb dX14_node_38 (by decide) ?_
  refine j7_zast hx hb hK hh_12 hB hB124 3 rfl (by decide) (by decide) rfl rfl rfl hg_isInt_13 (x := pn.toInt) (rfl) (by omega) (Or.inl rfl) (Or.inl rfl) dX14_node_39 (fun H_14 locs_14 hh_14 => ?_)
  clear hh_12
  refine lv_aload_n hx hb dX14_node_40 rfl (lv_at hl 0 rfl) ?_
  refine lv_dup hx hb dX14_node_41 rfl ?_
  refine j7_read hx hb hown hK (C := RX14) (T := TX14) (N := 74) rfl hly_16_26 hlk_282 (hh_14.at 3 rfl) dX14_node_42 ?_
  refine lv_iconst (v := 1) hx hb dX14_node_45 (by decide) ?_
  refine lv_iadd hx hb dX14_node_46 ?_
  refine lv_topi (fun z_15 ez_15 => ?_)
  have hz_15 : z_15.toInt = pn.toInt + 1 := by rw [ez_15]; exact jb_iadd2 (rfl) ((by decide)) (by omega)
  refine j7_put hx hb hown hK hh_14 hB hAp hB16 (C := RX14) (T := TX14) (N := 74) rfl (by decide) hg_r0 (i := 26) (by decide) hly_16_26 rfl hlk_282 rfl (ty := .int) (v := .int z_15) (by decide +kernel) rfl rfl (⟨_, rfl, by omega, by omega⟩) rfl (L1 := [(r0, 16, 24, .ref isInt_13), (r0, 16, 18, .ref heir_7), (r0, 16, 17, .ref sort_3), (r0, 16, 19, .ref xn)]) [0, 1, 2, 4] rfl rfl rfl dX14_node_47 (fun H_16 locs_16 hh_16 => ?_)
  clear hh_14
  refine lv_aload_n hx hb dX14_node_50 rfl (lv_at hl 0 rfl) ?_
  refine j7_read hx hb hown hK (C := RX14) (T := TX14) (N := 74) rfl hly_16_26 hlk_282 (hh_16.at 0 rfl) dX14_node_51 ?_
  refine lv_iconst (v := 1) hx hb dX14_node_54 (by decide) ?_
  refine lv_isub hx hb dX14_node_55 ?_
  refine lv_topi (fun z_17 ez_17 => ?_)
  have hz_17 : z_17.toInt = z_15.toInt - 1 := by rw [ez_17]; exact jb_isub2 (rfl) ((by decide)) (by omega)
  rw [hQ]
  exact W.iret (v := z_17) hx hb hr (fun t ht hW => ⟨⟨z_17, (z_15, fs_10), rfl, by (try dsimp only); refine ⟨by omega, by omega, ?_⟩; exact jNx0 hv_9 ho_9 (by omega) (by omega), ⟨hh_16.rt (M1 := [(r0, 16, 26, .int z_15)]) [0] rfl ht, by rw [ht]; exact hh_16.2.2.2.2.2.2.2.1.sub [0] rfl⟩⟩, by rw [ht]; try exact hh_16.1.1, fun q h9 hq => by rw [ht]; try exact hh_16.1.2.1 q h9 hq⟩) hh_16.1.2.2 dX14_node_56
set_option maxHeartbeats 4000000 in
set_option maxRecDepth 20000 in
theorem uX14_readNumberN (l : Launch) (dC : Nat → ClassId) (dI : Nat → Nat → Nat) (ca : Nat → ClassId) (base : Nat) (B : jF) (hB : jBok B) (hAp : jAp (dC, dI)) (hB16 : ∀ n G a H, B 16 n G a H ↔ jOb (dC, dI) 16 74 (F16 n G) a H) (hB110 : ∀ n G a H, B 110 n G a H ↔ jAr (dC, dI) (ca 1) (fun j z => 0 ≤ z.toInt ∧ z.toInt ≤ 255) n a H) (hB117 : ∀ n G a H, B 117 n G a H ↔ jAr (dC, dI) (ca 1) (fun j z => True) n a H) (hB118 : ∀ n G a H, B 118 n G a H ↔ jAr (dC, dI) (ca 1) (fun j z => -1 ≤ z.toInt ∧ z.toInt ≤ 3099) n a H) (hB119 : ∀ n G a H, B 119 n G a H ↔ jAr (dC, dI) (ca 1) (fun j z => z.toInt = -1 ∨ z.toInt = 0 ∨ ((j : Nat) < z.toInt ∧ z.toInt ≤ 3099)) n a H) (hB124 : ∀ n G a H, B 124 n G a H ↔ jAr (dC, dI) (ca 3) (fun j z => (z = 0 ∨ z = 1)) n a H) (hB125 : ∀ n G a H, B 125 n G a H ↔ jAr (dC, dI) (ca 1) (fun j z => True) n a H) (G0 : jT) (H0 : Heap) (r0 : Nat) (pt : Int32) (pe : Int32) (pn : Int32) (xn : Nat) (mx : Nat → Int32) : Met l yX14_readNumber (jw yX14_readNumber cX14_readNumber 9 (some .int)) ({ frames := 3, cells := 0, slots := 0, locals := 62 }) (va_Pc [.ref r0] (fun U => U.heap = H0 ∧ jX B base G0 [] H0 ∧ jG dC dI ca base U ∧ G0 r0 = some (16, 0) ∧ G0 xn = some (119, 3100) ∧ jP (dC, dI) G0 H0 [(r0, 16, 29, .int pt), (r0, 16, 30, .int pe), (r0, 16, 26, .int pn), (r0, 16, 19, .ref xn)] ∧ jMc (dC, dI) G0 H0 [(xn, 119, 3100, ca 1, mx)] ∧ 0 ≤ pt.toInt ∧ pt.toInt ≤ 90000 ∧ 0 ≤ pe.toInt ∧ pe.toInt ≤ 3000 ∧ 0 ≤ pn.toInt ∧ pn.toInt ≤ 3099 ∧ pt.toInt ≤ pe.toInt ∧ (pn.toInt = 0 ∨ jSo mx 0 = -1))) (va_Qi (S := Int32 × Int32 × Int32 × (Nat → Int32)) (fun r u => (r.toInt = pn.toInt ∧ u.2.1.toInt = pn.toInt + 1 ∧ pt.toInt ≤ u.1.toInt ∧ u.1.toInt ≤ pe.toInt ∧ (u.2.2.1.toInt = 1 ∨ pt.toInt + 1 ≤ u.1.toInt) ∧ 0 ≤ u.2.2.1.toInt ∧ u.2.2.1.toInt ≤ 1 ∧ jSo u.2.2.2 0 = -1)) (fun u t => jRt (dC, dI) B base G0 EX14_readNumberN H0 [(r0, 16, 29, .int u.1), (r0, 16, 26, .int u.2.1), (r0, 16, 31, .int u.2.2.1)] t.heap ∧ jMc (dC, dI) G0 t.heap [(xn, 119, 3100, ca 1, u.2.2.2)]) (jA base)) 0 0 (jA base) := by
  refine Met.ofW (cc := cX14_readNumber) (maxL := 9) (ret := (some .int)) (by decide) rfl ?_
  intro p e s m args below meth c s₁ Bd hml hv
  obtain ⟨rfl, hH0, hX, hG, hg_r0, hg_xn, hP0, hM0, hp0, hp1, hp2, hp3, hp4, hp5, hp6, hp7⟩ := hv
  have hK := hG.1
  have hx := Bd.exec
  have hb := Bd.bytes
  have hr := Bd.returns
  have hts := atoms_spec (ws := (jw yX14_readNumber cX14_readNumber 9 (some .int))) Bd.pre
  have htw : ∀ w ∈ jWl, w.before _ s = true := fun w h => hts w (List.mem_cons_of_mem _ h)
  have hown : s.vm.findClass RX14 = some m.cls := findClass_of_methodNamed Bd.named
  have hlocks := Bd.notSynchronized
  obtain ⟨Q, hQ⟩ : ∃ Q, Q = MQ below (va_Qi (S := Int32 × Int32 × Int32 × (Nat → Int32)) (fun r u => (r.toInt = pn.toInt ∧ u.2.1.toInt = pn.toInt + 1 ∧ pt.toInt ≤ u.1.toInt ∧ u.1.toInt ≤ pe.toInt ∧ (u.2.2.1.toInt = 1 ∨ pt.toInt + 1 ≤ u.1.toInt) ∧ 0 ≤ u.2.2.1.toInt ∧ u.2.2.1.toInt ≤ 1 ∧ jSo u.2.2.2 0 = -1)) (fun u t => jRt (dC, dI) B base G0 EX14_readNumberN H0 [(r0, 16, 29, .int u.1), (r0, 16, 26, .int u.2.1), (r0, 16, 31, .int u.2.2.1)] t.heap ∧ jMc (dC, dI) G0 t.heap [(xn, 119, 3100, ca 1, u.2.2.2)]) (jA base)) ([.ref r0] : List Value).toArray s 0 0 (jA base) := ⟨_, rfl⟩
  rw [← hQ]
  have hl := lv_entry ([.ref r0]) (n := 9) (Nat.le_of_ble_eq_true rfl)
  rw [lg_entry_eq]
  generalize (lg_sl ([.ref r0]) ++ List.replicate (9 - (lg_sl ([.ref r0])).length) Slot.unset).toArray = ls at hl ⊢
  have hl : lv_has ls 9 [(0, .ref r0)] := hl
  generalize hR : (headSpec (jw yX14_readNumber cX14_readNumber 9 (some .int)) ({ frames := 3, cells := 0, slots := 0, locals := 62 })).room = R
  subst hH0
  have hh : jSt (dC, dI) B base G0 G0 EX14_readNumberN s.heap 0 0 [(r0, 16, 29, .int pt), (r0, 16, 30, .int pe), (r0, 16, 26, .int pn), (r0, 16, 19, .ref xn)] [(xn, 119, 3100, ca 1, mx)] [] s.heap [] := jSt.start hX hP0 hM0 jIs.nil
  clear hX hP0
  have hk0 : (0 : Int32).toInt = 0 := by decide
  have hk1 : (1 : Int32).toInt = 1 := by decide
  have hk3 : (3 : Int32).toInt = 3 := by decide
  have hk43 : (43 : Int32).toInt = 43 := by decide
  have hk45 : (45 : Int32).toInt = 45 := by decide
  have hk46 : (46 : Int32).toInt = 46 := by decide
  have hk48 : (48 : Int32).toInt = 48 := by decide
  have hk69 : (69 : Int32).toInt = 69 := by decide
  have hk101 : (101 : Int32).toInt = 101 := by decide
  have hly_16_9 := htw (u_lay RX14 TX14 9) (jWc_wsX140 _ (u_in_lay (by decide)))
  have hly_16_24 := htw (u_lay RX14 TX14 24) (jWc_wsX140 _ (u_in_lay (by decide)))
  have hly_16_25 := htw (u_lay RX14 TX14 25) (jWc_wsX140 _ (u_in_lay (by decide)))
  have hly_16_29 := htw (u_lay RX14 TX14 29) (jWc_wsX140 _ (u_in_lay (by decide)))
  have hly_16_31 := htw (u_lay RX14 TX14 31) (jWc_wsX140 _ (u_in_lay (by decide)))
  have hlk_273 := (htw (.fieldLink RX14 273 "ProofServerModel" "at" "I") (jWr_50 _ (List.mem_of_getElem? (i := 5) rfl)))
  have hlk_20 := (htw (.fieldLink RX14 20 "ProofServerModel" "kept" "[I") (jWr_10 _ (List.mem_of_getElem? (i := 21) rfl)))
  have hlk_288 := (htw (.fieldLink RX14 288 "ProofServerModel" "bad" "Z") (jWr_50 _ (List.mem_of_getElem? (i := 9) rfl)))
  have hlk_58 := (htw (.fieldLink RX14 58 "ProofServerModel" "isInt" "[Z") (jWr_11 _ (List.mem_of_getElem? (i := 12) rfl)))
  have hlk_62 := (htw (.fieldLink RX14 62 "ProofServerModel" "ints" "[I") (jWr_11 _ (List.mem_of_getElem? (i := 13) rfl)))
  refine lv_aload_n hx hb dX14_readNumber_0 rfl (lv_at hl 0 rfl) ?_
  refine lv_iconst (v := 3) hx hb dX14_readNumber_1 (by decide) ?_
  refine va_calli (A0 := jA base) (H0 := s.heap) (va_runV (As := [.int 3]) (rest := []) ⟨hx, hb, hml, hown, hts⟩ (uX14_nodeN l dC dI ca base B hB hAp hB16 hB117 hB118 hB119 hB124 G0 s.heap r0 3 pn xn mx) (cwV 1 hts (jgV (jWr_51 _ (List.mem_of_getElem? (i := 3) rfl)) (jWr_51 _ (List.mem_of_getElem? (i := 4) rfl)) (jWr_51 _ (List.mem_of_getElem? (i := 5) rfl)) (jWr_1 _ (List.mem_of_getElem? (i := 5) rfl)) (jWr_51 _ (List.mem_of_getElem? (i := 6) rfl))) rfl rfl rfl (by decide +kernel) ⟨by rw [← hR]; exact Nat.le_of_ble_eq_true rfl, by rw [← hR]; exact Nat.le_of_ble_eq_true rfl⟩) ⟨fun a U g mk q => by obtain ⟨q0, q1, q2, qK, q10, q11, q12, q13, q14⟩ := q; exact ⟨q0, q1, q2, jG.calling g mk a qK, q10, q11, q12, q13, q14⟩, hh.recv (C := RX14) (T := TX14) (N := 74) hB16 rfl (by decide) hg_r0 hK, fun U hU hW => ⟨rfl, hU, hh.2.1, hG.step hW hU hh.1, hg_r0, hg_xn, (hh.2.2.1.sub (L1 := [(r0, 16, 26, .int pn), (r0, 16, 19, .ref xn)]) [2, 3] rfl), (hh.2.2.2.2.2.2.2.1.sub (L1 := [(xn, 119, 3100, ca 1, mx)]) [0] rfl), by first | omega | (refine ⟨?_, ?_, ?_⟩ <;> (first | omega | rfl | assumption | decide | exact Or.inl rfl | exact Or.inr rfl | (simp only; omega)))⟩⟩ rfl rfl hl.1 rfl (lv_room (Nat.le_of_ble_eq_true rfl)) dX14_readNumber_2 ⟨Nat.zero_le _, Nat.zero_le _⟩) hh.1 (fun q _ h => h) (fun q h => h) (fun r_2 u_1 t_1 H_1 locs_1 ht_1 hvm_1 hr_2 hb_1 hz_1 hk_1 hS_1 => ?_)
  obtain ⟨qn_1, nx_1⟩ := u_1
  rw [ht_1] at hb_1
  obtain ⟨⟨hb_11, hb_12, hb_13, hb_14, hb_15⟩, hb_16⟩ := hb_1
  have hh_1 : jSt (dC, dI) B base G0 G0 EX14_readNumberN s.heap 0 0 [(r0, 16, 26, .int qn_1), (r0, 16, 29, .int pt), (r0, 16, 30, .int pe), (r0, 16, 19, .ref xn)] [(xn, 119, 3100, ca 1, nx_1)] [] H_1 locs_1 := ((hh.call hb_11 hb_12 hb_13 hb_14 hS_1 rfl (L1 := [(r0, 16, 29, .int pt), (r0, 16, 30, .int pe), (r0, 16, 19, .ref xn)]) [0, 1, 3] rfl rfl (M1 := []) [] rfl rfl (I1 := []) [] rfl rfl).more hb_15).moreM hb_16
  clear hh ht_1 hvm_1 hz_1 hk_1 hS_1 hb_11 hb_12 hb_13 hb_14 hb_15
  clear hb_16
  try simp only at hr_2
  obtain ⟨hr_2_0, hr_2_1, hr_2_2⟩ := hr_2
  refine lv_istore_n (lv' := [(1, .int r_2), (0, .ref r0)]) hx hb dX14_readNumber_5 rfl hl (by decide) rfl (fun ls hl => ?_)
  refine lv_aload_n hx hb dX14_readNumber_6 rfl (lv_at hl 1 rfl) ?_
  refine va_calli (A0 := jA base) (H0 := s.heap) (va_runV (As := []) (rest := []) ⟨hx, hb, hml, hown, hts⟩ (uX14_here l dC dI ca base B hB hAp hB16 hB110 G0 H_1 r0 pt pe) (cwV 0 hts (jgV (jWr_50 _ (List.mem_of_getElem? (i := 20) rfl)) (jWr_50 _ (List.mem_of_getElem? (i := 21) rfl)) (jWr_50 _ (List.mem_of_getElem? (i := 22) rfl)) (jWr_1 _ (List.mem_of_getElem? (i := 5) rfl)) (jWr_50 _ (List.mem_of_getElem? (i := 23) rfl))) rfl rfl rfl (by decide +kernel) ⟨by rw [← hR]; exact Nat.le_of_ble_eq_true rfl, by rw [← hR]; exact Nat.le_of_ble_eq_true rfl⟩) ⟨fun a U g mk q => by obtain ⟨q0, q1, q2, qK, q10, q11, q12⟩ := q; exact ⟨q0, q1, q2, jG.calling g mk a qK, q10, q11, q12⟩, hh_1.recv (C := RX14) (T := TX14) (N := 74) hB16 rfl (by decide) hg_r0 hK, fun U hU hW => ⟨rfl, hU, hh_1.2.1, hG.step hW hU hh_1.1, hg_r0, (hh_1.2.2.1.sub (L1 := [(r0, 16, 29, .int pt), (r0, 16, 30, .int pe)]) [1, 2] rfl), by first | omega | (refine ⟨?_, ?_, ?_, ?_⟩ <;> (first | omega | rfl | assumption | decide | exact Or.inl rfl | exact Or.inr rfl | (simp only; omega)))⟩⟩ rfl rfl hl.1 rfl (lv_room (Nat.le_of_ble_eq_true rfl)) dX14_readNumber_7 ⟨Nat.zero_le _, Nat.zero_le _⟩) hh_1.1 (fun q _ h => h) (fun q h => h) (fun r_4 u_3 t_3 H_3 locs_3 ht_3 hvm_3 hr_4 hb_3 hz_3 hk_3 hS_3 => ?_)
  rw [ht_3] at hb_3
  obtain ⟨hb_31, hb_32, hb_33, hb_34, hb_35⟩ := hb_3
  have hh_3 : jSt (dC, dI) B base G0 G0 EX14_readNumberN s.heap 0 0 [(r0, 16, 26, .int qn_1), (r0, 16, 29, .int pt), (r0, 16, 30, .int pe), (r0, 16, 19, .ref xn)] [(xn, 119, 3100, ca 1, nx_1)] [] H_3 locs_3 := ((hh_1.call hb_31 hb_32 hb_33 hb_34 hS_3 rfl (L1 := [(r0, 16, 26, .int qn_1), (r0, 16, 29, .int pt), (r0, 16, 30, .int pe), (r0, 16, 19, .ref xn)]) [0, 1, 2, 3] rfl rfl (M1 := [(xn, 119, 3100, ca 1, nx_1)]) [0] rfl rfl (I1 := []) [] rfl rfl).more hb_35)
  clear hh_1 ht_3 hvm_3 hz_3 hk_3 hS_3 hb_31 hb_32 hb_33 hb_34 hb_35
  obtain ⟨hr_4_0, hr_4_1, hr_4_2⟩ := hr_4
  refine lv_bipush (v := 45) hx hb dX14_readNumber_10 (by decide) ?_
  refine lv_icmp_ne (tgt := 19) hx hb dX14_readNumber_12 (by decide) (fun c_5 => ?_) (fun c_5 => ?_)
  · skip
    have c_5' : r_4.toInt ≠ 45 := jb_ne (rfl) ((by decide)) c_5
    try clear hr_4_2
    refine lv_iconst (v := 0) hx hb dX14_readNumber_19 (by decide) ?_
    refine lv_istore_n (lv' := [(2, .int 0), (1, .int r_2), (0, .ref r0)]) hx hb dX14_readNumber_20 rfl hl (by decide) rfl (fun ls hl => ?_)
    refine lv_iload_n hx hb dX14_readNumber_21 rfl (lv_at hl 0 rfl) ?_
    have C35 : ∀ (wt_6 : Int32) (H_6 : Heap) (locs_6 : List Loc), jSt (dC, dI) B base G0 G0 EX14_readNumberN s.heap 0 0 [(r0, 16, 29, .int wt_6), (r0, 16, 26, .int qn_1), (r0, 16, 30, .int pe), (r0, 16, 19, .ref xn)] [(xn, 119, 3100, ca 1, nx_1)] [] H_6 locs_6 → (pt.toInt ≤ wt_6.toInt ∧ wt_6.toInt ≤ pe.toInt) → ∀ ls : Array Slot, lv_has ls 9 [(0, .ref r0), (1, .int r_2), (2, .int 0)] → W p l e R s m ([.ref r0] : List Value).toArray below meth c H_6 locs_6 0 0 Q (F0 m 35 ls []) := by
      intro wt_6 H_6 locs_6 hh_6  hi_6 ls hl
      obtain ⟨hi_6_0, hi_6_1⟩ := hi_6
      refine lv_aload_n hx hb dX14_readNumber_35 rfl (lv_at hl 0 rfl) ?_
      refine j7_read hx hb hown hK (C := RX14) (T := TX14) (N := 74) rfl hly_16_29 hlk_273 (hh_6.at 0 rfl) dX14_readNumber_36 ?_
      refine lv_istore_n (lv' := [(3, .int wt_6), (0, .ref r0), (1, .int r_2), (2, .int 0)]) hx hb dX14_readNumber_39 rfl hl (by decide) rfl (fun ls hl => ?_)
      refine lv_lconst (v := 0) hx hb dX14_readNumber_40 (by decide) ?_
      refine lv_lstore (lv' := [(4, .long 0), (3, .int wt_6), (0, .ref r0), (1, .int r_2), (2, .int 0)]) hx hb dX14_readNumber_41 hl (by decide) rfl (fun ls hl => ?_)
      have L43 : ∀ (N : Nat) (v4_7 : Int64) (wt_7 : Int32) (H_7 : Heap) (locs_7 : List Loc), jSt (dC, dI) B base G0 G0 EX14_readNumberN s.heap 0 0 [(r0, 16, 29, .int wt_7), (r0, 16, 26, .int qn_1), (r0, 16, 30, .int pe), (r0, 16, 19, .ref xn)] [(xn, 119, 3100, ca 1, nx_1)] [] H_7 locs_7 → (wt_6.toInt ≤ wt_7.toInt ∧ wt_7.toInt ≤ pe.toInt) → (pe.toInt - wt_7.toInt : Int) < N → ∀ ls : Array Slot, lv_has ls 9 [(0, .ref r0), (1, .int r_2), (2, .int 0), (3, .int wt_6), (4, .long v4_7)] → W p l e R s m ([.ref r0] : List Value).toArray below meth c H_7 locs_7 0 0 Q (F0 m 43 ls []) := by
        intro N
        induction N with
        | zero => intro v4_7 wt_7 H_7 locs_7 hh_7  hi_7 hm; exact absurd hm (by omega)
        | succ N L43 =>
          intro v4_7 wt_7 H_7 locs_7 hh_7  hi_7 hm_7 ls hl
          obtain ⟨hi_7_0, hi_7_1⟩ := hi_7
          refine lv_aload_n hx hb dX14_readNumber_43 rfl (lv_at hl 0 rfl) ?_
          refine va_calli (A0 := jA base) (H0 := s.heap) (va_runV (As := []) (rest := []) ⟨hx, hb, hml, hown, hts⟩ (uX14_here l dC dI ca base B hB hAp hB16 hB110 G0 H_7 r0 wt_7 pe) (cwV 0 hts (jgV (jWr_50 _ (List.mem_of_getElem? (i := 20) rfl)) (jWr_50 _ (List.mem_of_getElem? (i := 21) rfl)) (jWr_50 _ (List.mem_of_getElem? (i := 22) rfl)) (jWr_1 _ (List.mem_of_getElem? (i := 5) rfl)) (jWr_50 _ (List.mem_of_getElem? (i := 23) rfl))) rfl rfl rfl (by decide +kernel) ⟨by rw [← hR]; exact Nat.le_of_ble_eq_true rfl, by rw [← hR]; exact Nat.le_of_ble_eq_true rfl⟩) ⟨fun a U g mk q => by obtain ⟨q0, q1, q2, qK, q10, q11, q12⟩ := q; exact ⟨q0, q1, q2, jG.calling g mk a qK, q10, q11, q12⟩, hh_7.recv (C := RX14) (T := TX14) (N := 74) hB16 rfl (by decide) hg_r0 hK, fun U hU hW => ⟨rfl, hU, hh_7.2.1, hG.step hW hU hh_7.1, hg_r0, (hh_7.2.2.1.sub (L1 := [(r0, 16, 29, .int wt_7), (r0, 16, 30, .int pe)]) [0, 2] rfl), by first | omega | (refine ⟨?_, ?_, ?_, ?_⟩ <;> (first | omega | rfl | assumption | decide | exact Or.inl rfl | exact Or.inr rfl | (simp only; omega)))⟩⟩ rfl rfl hl.1 rfl (lv_room (Nat.le_of_ble_eq_true rfl)) dX14_readNumber_44 ⟨Nat.zero_le _, Nat.zero_le _⟩) hh_7.1 (fun q _ h => h) (fun q h => h) (fun r_9 u_8 t_8 H_8 locs_8 ht_8 hvm_8 hr_9 hb_8 hz_8 hk_8 hS_8 => ?_)
          rw [ht_8] at hb_8
          obtain ⟨hb_81, hb_82, hb_83, hb_84, hb_85⟩ := hb_8
          have hh_8 : jSt (dC, dI) B base G0 G0 EX14_readNumberN s.heap 0 0 [(r0, 16, 29, .int wt_7), (r0, 16, 26, .int qn_1), (r0, 16, 30, .int pe), (r0, 16, 19, .ref xn)] [(xn, 119, 3100, ca 1, nx_1)] [] H_8 locs_8 := ((hh_7.call hb_81 hb_82 hb_83 hb_84 hS_8 rfl (L1 := [(r0, 16, 29, .int wt_7), (r0, 16, 26, .int qn_1), (r0, 16, 30, .int pe), (r0, 16, 19, .ref xn)]) [0, 1, 2, 3] rfl rfl (M1 := [(xn, 119, 3100, ca 1, nx_1)]) [0] rfl rfl (I1 := []) [] rfl rfl).more hb_85)
          clear hh_7 ht_8 hvm_8 hz_8 hk_8 hS_8 hb_81 hb_82 hb_83 hb_84 hb_85
          obtain ⟨hr_9_0, hr_9_1, hr_9_2⟩ := hr_9
          refine va_calli (A0 := jA base) (H0 := s.heap) (va_runS (As := [.int r_9]) (rest := []) ⟨hx, hb, hml, hown, hts⟩ (uX14_isDigit l dC dI ca base B hB hAp G0 H_8 r_9) (va_cwS 1 hts (jgS (jWr_49 _ (List.mem_of_getElem? (i := 18) rfl)) (jWr_49 _ (List.mem_of_getElem? (i := 19) rfl)) (jWr_1 _ (List.mem_of_getElem? (i := 5) rfl)) (jWr_49 _ (List.mem_of_getElem? (i := 20) rfl))) rfl rfl rfl (by decide +kernel) ⟨by rw [← hR]; exact Nat.le_of_ble_eq_true rfl, by rw [← hR]; exact Nat.le_of_ble_eq_true rfl⟩) ⟨fun a U g mk q => by obtain ⟨q0, q1, q2, qK, q10, q11⟩ := q; exact ⟨q0, q1, q2, jG.calling g mk a qK, q10, q11⟩, fun U hU hW => ⟨rfl, hU, hh_8.2.1, hG.step hW hU hh_8.1, jP.nil, trivial⟩⟩ rfl rfl hl.1 rfl (lv_room (Nat.le_of_ble_eq_true rfl)) dX14_readNumber_47 ⟨Nat.zero_le _, Nat.zero_le _⟩) hh_8.1 (fun q _ h => h) (fun q h => h) (fun r_11 u_10 t_10 H_10 locs_10 ht_10 hvm_10 hr_11 hb_10 hz_10 hk_10 hS_10 => ?_)
          rw [ht_10] at hb_10
          obtain ⟨hb_101, hb_102, hb_103, hb_104, hb_105⟩ := hb_10
          have hh_10 : jSt (dC, dI) B base G0 G0 EX14_readNumberN s.heap 0 0 [(r0, 16, 29, .int wt_7), (r0, 16, 26, .int qn_1), (r0, 16, 30, .int pe), (r0, 16, 19, .ref xn)] [(xn, 119, 3100, ca 1, nx_1)] [] H_10 locs_10 := ((hh_8.call hb_101 hb_102 hb_103 hb_104 hS_10 rfl (L1 := [(r0, 16, 29, .int wt_7), (r0, 16, 26, .int qn_1), (r0, 16, 30, .int pe), (r0, 16, 19, .ref xn)]) [0, 1, 2, 3] rfl rfl (M1 := [(xn, 119, 3100, ca 1, nx_1)]) [0] rfl rfl (I1 := []) [] rfl rfl).more hb_105)
          clear hh_8 ht_10 hvm_10 hz_10 hk_10 hS_10 hb_101 hb_102 hb_103 hb_104 hb_105
          obtain ⟨hr_11b, hr_11p⟩ := hr_11
          obtain ⟨hr_11p_0, hr_11p_1⟩ := hr_11p
          have hr_11' := jb_01 hr_11b
          refine lv_if_eq (tgt := 98) hx hb dX14_readNumber_50 (by decide) (fun c_12 => ?_) (fun c_12 => ?_)
          · skip
            have c_12' : r_11.toInt = 0 := jb_eq (rfl) ((by decide)) c_12
            first | (have hr_9_2q := hr_9_2.resolve_left (by omega); clear hr_9_2) | (have hr_9_2q := hr_9_2.resolve_right (by omega); clear hr_9_2) | try clear hr_9_2
            refine lv_aload_n hx hb dX14_readNumber_98 rfl (lv_at hl 0 rfl) ?_
            refine j7_read hx hb hown hK (C := RX14) (T := TX14) (N := 74) rfl hly_16_29 hlk_273 (hh_10.at 0 rfl) dX14_readNumber_99 ?_
            refine lv_iload_n hx hb dX14_readNumber_102 rfl (lv_at hl 3 rfl) ?_
            have C132 : ∀ (wt_13 : Int32) (wb_13 : Int32) (H_13 : Heap) (locs_13 : List Loc), jSt (dC, dI) B base G0 G0 EX14_readNumberN s.heap 0 0 [(r0, 16, 29, .int wt_13), (r0, 16, 31, .int wb_13), (r0, 16, 26, .int qn_1), (r0, 16, 30, .int pe), (r0, 16, 19, .ref xn)] [(xn, 119, 3100, ca 1, nx_1)] [] H_13 locs_13 → (pt.toInt ≤ wt_13.toInt ∧ wt_13.toInt ≤ pe.toInt ∧ (wb_13.toInt = 1 ∨ pt.toInt + 1 ≤ wt_13.toInt) ∧ 0 ≤ wb_13.toInt ∧ wb_13.toInt ≤ 1) → ∀ ls : Array Slot, lv_has ls 9 [(0, .ref r0), (1, .int r_2), (2, .int 0), (3, .int wt_6), (4, .long v4_7)] → W p l e R s m ([.ref r0] : List Value).toArray below meth c H_13 locs_13 0 0 Q (F0 m 132 ls []) := by
              intro wt_13 wb_13 H_13 locs_13 hh_13  hi_13 ls hl
              obtain ⟨hi_13_0, hi_13_1, hi_13_2, hi_13_3, hi_13_4⟩ := hi_13
              refine lv_iconst (v := 1) hx hb dX14_readNumber_132 (by decide) ?_
              refine lv_istore (lv' := [(6, .int 1), (0, .ref r0), (1, .int r_2), (2, .int 0), (3, .int wt_6), (4, .long v4_7)]) hx hb dX14_readNumber_133 hl (by decide) rfl (fun ls hl => ?_)
              refine lv_aload_n hx hb dX14_readNumber_135 rfl (lv_at hl 1 rfl) ?_
              refine j7_read hx hb hown hK (C := RX14) (T := TX14) (N := 74) rfl hly_16_31 hlk_288 (hh_13.at 1 rfl) dX14_readNumber_136 ?_
              have C168 : ∀ (v6_14 : Int32) (wt_14 : Int32) (wb_14 : Int32) (H_14 : Heap) (locs_14 : List Loc), jSt (dC, dI) B base G0 G0 EX14_readNumberN s.heap 0 0 [(r0, 16, 29, .int wt_14), (r0, 16, 31, .int wb_14), (r0, 16, 26, .int qn_1), (r0, 16, 30, .int pe), (r0, 16, 19, .ref xn)] [(xn, 119, 3100, ca 1, nx_1)] [] H_14 locs_14 → (v6_14 = 0 ∨ v6_14 = 1) → (pt.toInt ≤ wt_14.toInt ∧ wt_14.toInt ≤ pe.toInt ∧ (wb_14.toInt = 1 ∨ pt.toInt + 1 ≤ wt_14.toInt) ∧ 0 ≤ wb_14.toInt ∧ wb_14.toInt ≤ 1) → ∀ ls : Array Slot, lv_has ls 9 [(0, .ref r0), (1, .int r_2), (2, .int 0), (3, .int wt_6), (4, .long v4_7), (6, .int v6_14)] → W p l e R s m ([.ref r0] : List Value).toArray below meth c H_14 locs_14 0 0 Q (F0 m 168 ls []) := by
                intro v6_14 wt_14 wb_14 H_14 locs_14 hh_14 hb_v6_14 hi_14 ls hl
                obtain ⟨hi_14_0, hi_14_1, hi_14_2, hi_14_3, hi_14_4⟩ := hi_14
                have hb_v6_14' := jb_01 hb_v6_14
                refine lv_aload_n hx hb dX14_readNumber_168 rfl (lv_at hl 0 rfl) ?_
                refine j7_read hx hb hown hK (C := RX14) (T := TX14) (N := 74) rfl hly_16_31 hlk_288 (hh_14.at 1 rfl) dX14_readNumber_169 ?_
                have C238 : ∀ (v6_15 : Int32) (wt_15 : Int32) (wb_15 : Int32) (H_15 : Heap) (locs_15 : List Loc), jSt (dC, dI) B base G0 G0 EX14_readNumberN s.heap 0 0 [(r0, 16, 29, .int wt_15), (r0, 16, 31, .int wb_15), (r0, 16, 26, .int qn_1), (r0, 16, 30, .int pe), (r0, 16, 19, .ref xn)] [(xn, 119, 3100, ca 1, nx_1)] [] H_15 locs_15 → (v6_15 = 0 ∨ v6_15 = 1) → (pt.toInt ≤ wt_15.toInt ∧ wt_15.toInt ≤ pe.toInt ∧ (wb_15.toInt = 1 ∨ pt.toInt + 1 ≤ wt_15.toInt) ∧ 0 ≤ wb_15.toInt ∧ wb_15.toInt ≤ 1) → ∀ ls : Array Slot, lv_has ls 9 [(0, .ref r0), (1, .int r_2), (2, .int 0), (3, .int wt_6), (4, .long v4_7), (6, .int v6_15)] → W p l e R s m ([.ref r0] : List Value).toArray below meth c H_15 locs_15 0 0 Q (F0 m 238 ls []) := by
                  intro v6_15 wt_15 wb_15 H_15 locs_15 hh_15 hb_v6_15 hi_15 ls hl
                  obtain ⟨hi_15_0, hi_15_1, hi_15_2, hi_15_3, hi_15_4⟩ := hi_15
                  have hb_v6_15' := jb_01 hb_v6_15
                  refine lv_iload_n hx hb dX14_readNumber_238 rfl (lv_at hl 2 rfl) ?_
                  refine lv_if_eq (tgt := 248) hx hb dX14_readNumber_239 (by decide) (fun c_16 => ?_) (fun c_16 => ?_)
                  · skip
                    refine lv_lload hx hb dX14_readNumber_248 (lv_at hl 4 rfl) ?_
                    refine lv_lstore (lv' := [(7, .long v4_7), (0, .ref r0), (1, .int r_2), (2, .int 0), (3, .int wt_6), (4, .long v4_7), (6, .int v6_15)]) hx hb dX14_readNumber_250 hl (by decide) rfl (fun ls hl => ?_)
                    refine lv_aload_n hx hb dX14_readNumber_252 rfl (lv_at hl 1 rfl) ?_
                    obtain ⟨v_17, hv_17, hh_18⟩ := hh_15.pin (C := RX14) (T := TX14) (N := 74) hB16 rfl (by decide) hg_r0 (i := 24) (by decide) rfl
                    clear hh_15
                    obtain ⟨isInt_19, rfl, hg_isInt_19⟩ := hv_17
                    refine j7_read hx hb hown hK (C := RX14) (T := TX14) (N := 74) rfl hly_16_24 hlk_58 (hh_18.at 0 rfl) dX14_readNumber_253 ?_
                    refine lv_iload_n hx hb dX14_readNumber_256 rfl (lv_at hl 2 rfl) ?_
                    refine lv_iload hx hb dX14_readNumber_257 (lv_at hl 6 rfl) ?_
                    have C285 : ∀ (w0_20 : Int32) (H_20 : Heap) (locs_20 : List Loc), jSt (dC, dI) B base G0 G0 EX14_readNumberN s.heap 0 0 [(r0, 16, 24, .ref isInt_19), (r0, 16, 29, .int wt_15), (r0, 16, 31, .int wb_15), (r0, 16, 26, .int qn_1), (r0, 16, 30, .int pe), (r0, 16, 19, .ref xn)] [(xn, 119, 3100, ca 1, nx_1)] [] H_20 locs_20 → (w0_20 = 0 ∨ w0_20 = 1) → (True) → ∀ ls : Array Slot, lv_has ls 9 [(0, .ref r0), (1, .int r_2), (2, .int 0), (3, .int wt_6), (4, .long v4_7), (6, .int v6_15), (7, .long v4_7)] → W p l e R s m ([.ref r0] : List Value).toArray below meth c H_20 locs_20 0 0 Q (F0 m 285 ls [.int w0_20, .int r_2, .ref isInt_19]) := by
                      intro w0_20 H_20 locs_20 hh_20 hb_w0_20 hi_20 ls hl
                      have hb_w0_20' := jb_01 hb_w0_20
                      refine j7_zast hx hb hK hh_20 hB hB124 3 rfl (by decide) (by decide) rfl rfl rfl hg_isInt_19 (x := r_2.toInt) (rfl) (by omega) (hb_w0_20) (hb_w0_20) dX14_readNumber_285 (fun H_21 locs_21 hh_21 => ?_)
                      clear hh_20
                      refine lv_aload_n hx hb dX14_readNumber_286 rfl (lv_at hl 0 rfl) ?_
                      obtain ⟨v_22, hv_22, hh_23⟩ := hh_21.pin (C := RX14) (T := TX14) (N := 74) hB16 rfl (by decide) hg_r0 (i := 25) (by decide) rfl
                      clear hh_21
                      obtain ⟨ints_24, rfl, hg_ints_24⟩ := hv_22
                      refine j7_read hx hb hown hK (C := RX14) (T := TX14) (N := 74) rfl hly_16_25 hlk_62 (hh_23.at 0 rfl) dX14_readNumber_287 ?_
                      refine lv_iload_n hx hb dX14_readNumber_290 rfl (lv_at hl 1 rfl) ?_
                      refine lv_lload hx hb dX14_readNumber_291 (lv_at hl 6 rfl) ?_
                      refine lv_l2i hx hb dX14_readNumber_293 rfl ?_
                      refine lv_topi (fun z_25 ez_25 => ?_)
                      refine j7_iast hx hb hK hh_23 hB hB125 1 rfl (by decide) (by decide) rfl rfl rfl hg_ints_24 (x := r_2.toInt) (rfl) (by omega) (trivial) dX14_readNumber_294 (fun H_26 locs_26 hh_26 => ?_)
                      clear hh_23
                      refine lv_iload_n hx hb dX14_readNumber_295 rfl (lv_at hl 1 rfl) ?_
                      rw [hQ]
                      exact W.iret (v := r_2) hx hb hr (fun t ht hW => ⟨⟨r_2, (wt_15, qn_1, wb_15, nx_1), rfl, by (try dsimp only); first | omega | (refine ⟨?_, ?_, ?_, ?_, ?_, ?_, ?_, ?_⟩ <;> (first | omega | rfl | assumption | decide | exact Or.inl rfl | exact Or.inr rfl | (simp only; omega))), ⟨hh_26.rt (M1 := [(r0, 16, 29, .int wt_15), (r0, 16, 26, .int qn_1), (r0, 16, 31, .int wb_15)]) [2, 4, 3] rfl ht, by rw [ht]; exact hh_26.2.2.2.2.2.2.2.1.sub [0] rfl⟩⟩, by rw [ht]; try exact hh_26.1.1, fun q h9 hq => by rw [ht]; try exact hh_26.1.2.1 q h9 hq⟩) hh_26.1.2.2 dX14_readNumber_296
                    refine lv_if_eq (tgt := 284) hx hb dX14_readNumber_259 (by decide) (fun c_27 => ?_) (fun c_27 => ?_)
                    · skip
                      have c_27' : v6_15.toInt = 0 := jb_eq (rfl) ((by decide)) c_27
                      refine lv_iconst (v := 0) hx hb dX14_readNumber_284 (by decide) ?_
                      exact C285 0 _ _ hh_18 (Or.inl rfl) (trivial) _ (lv_sub hl [1, 2, 3, 4, 5, 6, 0] rfl)
                    · skip
                      have c_27' : v6_15.toInt ≠ 0 := jb_eq_n (rfl) ((by decide)) c_27
                      refine lv_lload hx hb dX14_readNumber_262 (lv_at hl 0 rfl) ?_
                      refine lv_ldc2 hx hb hown (htw (.constantLong RX14 329 (-2147483648)) (jWr_53 _ (List.mem_of_getElem? (i := 2) rfl))) dX14_readNumber_264 ?_
                      refine W.lcmp hx hb dX14_readNumber_267 ?_
                      refine lv_topi (fun z_28 ez_28 => ?_)
                      have hz_28 := jb_lcmp ez_28
                      have hqz_28_m2147483648 : ((-2147483648) : Int64).toInt = (-2147483648) := by decide
                      refine lv_if_lt (tgt := 284) hx hb dX14_readNumber_268 (by decide) (fun c_29 => ?_) (fun c_29 => ?_)
                      · skip
                        have c_29' : z_28.toInt < 0 := jb_lt (rfl) ((by decide)) c_29
                        refine lv_iconst (v := 0) hx hb dX14_readNumber_284 (by decide) ?_
                        exact C285 0 _ _ hh_18 (Or.inl rfl) (trivial) _ (lv_sub hl [1, 2, 3, 4, 5, 6, 0] rfl)
                      · skip
                        have c_29' : z_28.toInt ≥ 0 := jb_lt_n (rfl) ((by decide)) c_29
                        refine lv_lload hx hb dX14_readNumber_271 (lv_at hl 0 rfl) ?_
                        refine lv_ldc2 hx hb hown (htw (.constantLong RX14 331 2147483647) (jWr_53 _ (List.mem_of_getElem? (i := 3) rfl))) dX14_readNumber_273 ?_
                        refine W.lcmp hx hb dX14_readNumber_276 ?_
                        refine lv_topi (fun z_30 ez_30 => ?_)
                        have hz_30 := jb_lcmp ez_30
                        have hqz_30_2147483647 : (2147483647 : Int64).toInt = 2147483647 := by decide
                        refine lv_if_gt (tgt := 284) hx hb dX14_readNumber_277 (by decide) (fun c_31 => ?_) (fun c_31 => ?_)
                        · skip
                          have c_31' : z_30.toInt > 0 := jb_gt (rfl) ((by decide)) c_31
                          refine lv_iconst (v := 0) hx hb dX14_readNumber_284 (by decide) ?_
                          exact C285 0 _ _ hh_18 (Or.inl rfl) (trivial) _ (lv_sub hl [1, 2, 3, 4, 5, 6, 0] rfl)
                        · skip
                          have c_31' : z_30.toInt ≤ 0 := jb_gt_n (rfl) ((by decide)) c_31
                          refine lv_iconst (v := 1) hx hb dX14_readNumber_280 (by decide) ?_
                          refine lv_goto (tgt := 285) hx hb dX14_readNumber_281 (by decide) ?_
                          exact C285 1 _ _ hh_18 (Or.inr rfl) (trivial) _ (lv_sub hl [1, 2, 3, 4, 5, 6, 0] rfl)
                  · skip
                    exact absurd c_16 (by decide)
                refine lv_if_ne (tgt := 238) hx hb dX14_readNumber_172 (by decide) (fun c_32 => ?_) (fun c_32 => ?_)
                · skip
                  have c_32' : wb_14.toInt ≠ 0 := jb_ne (rfl) ((by decide)) c_32
                  exact C238 v6_14 wt_14 wb_14 _ _ hh_14 (hb_v6_14) (by first | omega | (refine ⟨?_, ?_, ?_, ?_, ?_⟩ <;> (first | omega | rfl | assumption | decide | exact Or.inl rfl | exact Or.inr rfl | (simp only; omega)))) _ (lv_sub hl [0, 1, 2, 3, 4, 5] rfl)
                · skip
                  have c_32' : wb_14.toInt = 0 := jb_ne_n (rfl) ((by decide)) c_32
                  refine lv_aload_n hx hb dX14_readNumber_175 rfl (lv_at hl 0 rfl) ?_
                  refine va_calli (A0 := jA base) (H0 := s.heap) (va_runV (As := []) (rest := []) ⟨hx, hb, hml, hown, hts⟩ (uX14_here l dC dI ca base B hB hAp hB16 hB110 G0 H_14 r0 wt_14 pe) (cwV 0 hts (jgV (jWr_50 _ (List.mem_of_getElem? (i := 20) rfl)) (jWr_50 _ (List.mem_of_getElem? (i := 21) rfl)) (jWr_50 _ (List.mem_of_getElem? (i := 22) rfl)) (jWr_1 _ (List.mem_of_getElem? (i := 5) rfl)) (jWr_50 _ (List.mem_of_getElem? (i := 23) rfl))) rfl rfl rfl (by decide +kernel) ⟨by rw [← hR]; exact Nat.le_of_ble_eq_true rfl, by rw [← hR]; exact Nat.le_of_ble_eq_true rfl⟩) ⟨fun a U g mk q => by obtain ⟨q0, q1, q2, qK, q10, q11, q12⟩ := q; exact ⟨q0, q1, q2, jG.calling g mk a qK, q10, q11, q12⟩, hh_14.recv (C := RX14) (T := TX14) (N := 74) hB16 rfl (by decide) hg_r0 hK, fun U hU hW => ⟨rfl, hU, hh_14.2.1, hG.step hW hU hh_14.1, hg_r0, (hh_14.2.2.1.sub (L1 := [(r0, 16, 29, .int wt_14), (r0, 16, 30, .int pe)]) [0, 3] rfl), by first | omega | (refine ⟨?_, ?_, ?_, ?_⟩ <;> (first | omega | rfl | assumption | decide | exact Or.inl rfl | exact Or.inr rfl | (simp only; omega)))⟩⟩ rfl rfl hl.1 rfl (lv_room (Nat.le_of_ble_eq_true rfl)) dX14_readNumber_176 ⟨Nat.zero_le _, Nat.zero_le _⟩) hh_14.1 (fun q _ h => h) (fun q h => h) (fun r_34 u_33 t_33 H_33 locs_33 ht_33 hvm_33 hr_34 hb_33 hz_33 hk_33 hS_33 => ?_)
                  rw [ht_33] at hb_33
                  obtain ⟨hb_331, hb_332, hb_333, hb_334, hb_335⟩ := hb_33
                  have hh_33 : jSt (dC, dI) B base G0 G0 EX14_readNumberN s.heap 0 0 [(r0, 16, 29, .int wt_14), (r0, 16, 31, .int wb_14), (r0, 16, 26, .int qn_1), (r0, 16, 30, .int pe), (r0, 16, 19, .ref xn)] [(xn, 119, 3100, ca 1, nx_1)] [] H_33 locs_33 := ((hh_14.call hb_331 hb_332 hb_333 hb_334 hS_33 rfl (L1 := [(r0, 16, 29, .int wt_14), (r0, 16, 31, .int wb_14), (r0, 16, 26, .int qn_1), (r0, 16, 30, .int pe), (r0, 16, 19, .ref xn)]) [0, 1, 2, 3, 4] rfl rfl (M1 := [(xn, 119, 3100, ca 1, nx_1)]) [0] rfl rfl (I1 := []) [] rfl rfl).more hb_335)
                  clear hh_14 ht_33 hvm_33 hz_33 hk_33 hS_33 hb_331 hb_332 hb_333 hb_334 hb_335
                  obtain ⟨hr_34_0, hr_34_1, hr_34_2⟩ := hr_34
                  refine lv_bipush (v := 101) hx hb dX14_readNumber_179 (by decide) ?_
                  refine lv_icmp_eq (tgt := 193) hx hb dX14_readNumber_181 (by decide) (fun c_35 => ?_) (fun c_35 => ?_)
                  · skip
                    have c_35' : r_34.toInt = 101 := jb_eq (rfl) ((by decide)) c_35
                    first | (have hr_34_2q := hr_34_2.resolve_left (by omega); clear hr_34_2) | (have hr_34_2q := hr_34_2.resolve_right (by omega); clear hr_34_2) | try clear hr_34_2
                    refine lv_iconst (v := 0) hx hb dX14_readNumber_193 (by decide) ?_
                    refine lv_istore (lv' := [(6, .int 0), (0, .ref r0), (1, .int r_2), (2, .int 0), (3, .int wt_6), (4, .long v4_7)]) hx hb dX14_readNumber_194 hl (by decide) rfl (fun ls hl => ?_)
                    refine lv_aload_n hx hb dX14_readNumber_196 rfl (lv_at hl 1 rfl) ?_
                    refine lv_dup hx hb dX14_readNumber_197 rfl ?_
                    refine j7_read hx hb hown hK (C := RX14) (T := TX14) (N := 74) rfl hly_16_29 hlk_273 (hh_33.at 0 rfl) dX14_readNumber_198 ?_
                    refine lv_iconst (v := 1) hx hb dX14_readNumber_201 (by decide) ?_
                    refine lv_iadd hx hb dX14_readNumber_202 ?_
                    refine lv_topi (fun z_36 ez_36 => ?_)
                    have hz_36 : z_36.toInt = wt_14.toInt + 1 := by rw [ez_36]; exact jb_iadd2 (rfl) ((by decide)) (by omega)
                    refine j7_put hx hb hown hK hh_33 hB hAp hB16 (C := RX14) (T := TX14) (N := 74) rfl (by decide) hg_r0 (i := 29) (by decide) hly_16_29 rfl hlk_273 rfl (ty := .int) (v := .int z_36) (by decide +kernel) rfl rfl (⟨_, rfl, by omega, by omega⟩) rfl (L1 := [(r0, 16, 31, .int wb_14), (r0, 16, 26, .int qn_1), (r0, 16, 30, .int pe), (r0, 16, 19, .ref xn)]) [1, 2, 3, 4] rfl rfl rfl dX14_readNumber_203 (fun H_37 locs_37 hh_37 => ?_)
                    clear hh_33
                    refine lv_aload_n hx hb dX14_readNumber_206 rfl (lv_at hl 1 rfl) ?_
                    refine va_calli (A0 := jA base) (H0 := s.heap) (va_runV (As := []) (rest := []) ⟨hx, hb, hml, hown, hts⟩ (uX14_here l dC dI ca base B hB hAp hB16 hB110 G0 H_37 r0 z_36 pe) (cwV 0 hts (jgV (jWr_50 _ (List.mem_of_getElem? (i := 20) rfl)) (jWr_50 _ (List.mem_of_getElem? (i := 21) rfl)) (jWr_50 _ (List.mem_of_getElem? (i := 22) rfl)) (jWr_1 _ (List.mem_of_getElem? (i := 5) rfl)) (jWr_50 _ (List.mem_of_getElem? (i := 23) rfl))) rfl rfl rfl (by decide +kernel) ⟨by rw [← hR]; exact Nat.le_of_ble_eq_true rfl, by rw [← hR]; exact Nat.le_of_ble_eq_true rfl⟩) ⟨fun a U g mk q => by obtain ⟨q0, q1, q2, qK, q10, q11, q12⟩ := q; exact ⟨q0, q1, q2, jG.calling g mk a qK, q10, q11, q12⟩, hh_37.recv (C := RX14) (T := TX14) (N := 74) hB16 rfl (by decide) hg_r0 hK, fun U hU hW => ⟨rfl, hU, hh_37.2.1, hG.step hW hU hh_37.1, hg_r0, (hh_37.2.2.1.sub (L1 := [(r0, 16, 29, .int z_36), (r0, 16, 30, .int pe)]) [0, 3] rfl), by first | omega | (refine ⟨?_, ?_, ?_, ?_⟩ <;> (first | omega | rfl | assumption | decide | exact Or.inl rfl | exact Or.inr rfl | (simp only; omega)))⟩⟩ rfl rfl hl.1 rfl (lv_room (Nat.le_of_ble_eq_true rfl)) dX14_readNumber_207 ⟨Nat.zero_le _, Nat.zero_le _⟩) hh_37.1 (fun q _ h => h) (fun q h => h) (fun r_39 u_38 t_38 H_38 locs_38 ht_38 hvm_38 hr_39 hb_38 hz_38 hk_38 hS_38 => ?_)
                    rw [ht_38] at hb_38
                    obtain ⟨hb_381, hb_382, hb_383, hb_384, hb_385⟩ := hb_38
                    have hh_38 : jSt (dC, dI) B base G0 G0 EX14_readNumberN s.heap 0 0 [(r0, 16, 29, .int z_36), (r0, 16, 31, .int wb_14), (r0, 16, 26, .int qn_1), (r0, 16, 30, .int pe), (r0, 16, 19, .ref xn)] [(xn, 119, 3100, ca 1, nx_1)] [] H_38 locs_38 := ((hh_37.call hb_381 hb_382 hb_383 hb_384 hS_38 rfl (L1 := [(r0, 16, 29, .int z_36), (r0, 16, 31, .int wb_14), (r0, 16, 26, .int qn_1), (r0, 16, 30, .int pe), (r0, 16, 19, .ref xn)]) [0, 1, 2, 3, 4] rfl rfl (M1 := [(xn, 119, 3100, ca 1, nx_1)]) [0] rfl rfl (I1 := []) [] rfl rfl).more hb_385)
                    clear hh_37 ht_38 hvm_38 hz_38 hk_38 hS_38 hb_381 hb_382 hb_383 hb_384 hb_385
                    obtain ⟨hr_39_0, hr_39_1, hr_39_2⟩ := hr_39
                    refine lv_bipush (v := 43) hx hb dX14_readNumber_210 (by decide) ?_
                    have C234 : ∀ (wt_40 : Int32) (H_40 : Heap) (locs_40 : List Loc), jSt (dC, dI) B base G0 G0 EX14_readNumberN s.heap 0 0 [(r0, 16, 29, .int wt_40), (r0, 16, 31, .int wb_14), (r0, 16, 26, .int qn_1), (r0, 16, 30, .int pe), (r0, 16, 19, .ref xn)] [(xn, 119, 3100, ca 1, nx_1)] [] H_40 locs_40 → (pt.toInt ≤ wt_40.toInt ∧ wt_40.toInt ≤ pe.toInt ∧ pt.toInt + 1 ≤ wt_40.toInt) → ∀ ls : Array Slot, lv_has ls 9 [(0, .ref r0), (1, .int r_2), (2, .int 0), (3, .int wt_6), (4, .long v4_7), (6, .int 0)] → W p l e R s m ([.ref r0] : List Value).toArray below meth c H_40 locs_40 0 0 Q (F0 m 234 ls []) := by
                      intro wt_40 H_40 locs_40 hh_40  hi_40 ls hl
                      obtain ⟨hi_40_0, hi_40_1, hi_40_2⟩ := hi_40
                      try clear hr_39_2
                      refine lv_aload_n hx hb dX14_readNumber_234 rfl (lv_at hl 0 rfl) ?_
                      refine va_callv (A0 := jA base) (H0 := s.heap) (va_runV (As := []) (rest := []) ⟨hx, hb, hml, hown, hts⟩ (uX14_digits l dC dI ca base B hB hAp hB16 hB110 G0 H_40 r0 wt_40 pe) (cwV 0 hts (jgV (jWr_53 _ (List.mem_of_getElem? (i := 4) rfl)) (jWr_53 _ (List.mem_of_getElem? (i := 5) rfl)) (jWr_53 _ (List.mem_of_getElem? (i := 6) rfl)) (jWr_1 _ (List.mem_of_getElem? (i := 5) rfl)) (jWr_53 _ (List.mem_of_getElem? (i := 7) rfl))) rfl rfl rfl (by decide +kernel) ⟨by rw [← hR]; exact Nat.le_of_ble_eq_true rfl, by rw [← hR]; exact Nat.le_of_ble_eq_true rfl⟩) ⟨fun a U g mk q => by obtain ⟨q0, q1, q2, qK, q10, q11, q12⟩ := q; exact ⟨q0, q1, q2, jG.calling g mk a qK, q10, q11, q12⟩, hh_40.recv (C := RX14) (T := TX14) (N := 74) hB16 rfl (by decide) hg_r0 hK, fun U hU hW => ⟨rfl, hU, hh_40.2.1, hG.step hW hU hh_40.1, hg_r0, (hh_40.2.2.1.sub (L1 := [(r0, 16, 29, .int wt_40), (r0, 16, 30, .int pe)]) [0, 3] rfl), by first | omega | (refine ⟨?_, ?_, ?_, ?_, ?_⟩ <;> (first | omega | rfl | assumption | decide | exact Or.inl rfl | exact Or.inr rfl | (simp only; omega)))⟩⟩ rfl rfl hl.1 rfl (lv_room (Nat.le_of_ble_eq_true rfl)) dX14_readNumber_235 ⟨Nat.zero_le _, Nat.zero_le _⟩) hh_40.1 (fun q _ h => h) (fun q h => h) (fun u_41 t_41 H_41 locs_41 ht_41 hvm_41 hr_42 hb_41 hz_41 hk_41 hS_41 => ?_)
                      obtain ⟨qt_41, rfl⟩ : ∃ z, z = u_41 := ⟨_, rfl⟩
                      rw [ht_41] at hb_41
                      obtain ⟨hb_411, hb_412, hb_413, hb_414, hb_415⟩ := hb_41
                      have hh_41 : jSt (dC, dI) B base G0 G0 EX14_readNumberN s.heap 0 0 [(r0, 16, 29, .int qt_41), (r0, 16, 26, .int qn_1), (r0, 16, 30, .int pe), (r0, 16, 19, .ref xn)] [(xn, 119, 3100, ca 1, nx_1)] [] H_41 locs_41 := ((hh_40.call hb_411 hb_412 hb_413 hb_414 hS_41 rfl (L1 := [(r0, 16, 26, .int qn_1), (r0, 16, 30, .int pe), (r0, 16, 19, .ref xn)]) [2, 3, 4] rfl rfl (M1 := [(xn, 119, 3100, ca 1, nx_1)]) [0] rfl rfl (I1 := []) [] rfl rfl).more hb_415)
                      clear hh_40 ht_41 hvm_41 hz_41 hk_41 hS_41 hb_411 hb_412 hb_413 hb_414 hb_415
                      obtain ⟨hr_42_0, hr_42_1⟩ := hr_42
                      obtain ⟨v_43, hv_43, hh_44⟩ := hh_41.pin (C := RX14) (T := TX14) (N := 74) hB16 rfl (by decide) hg_r0 (i := 31) (by decide) rfl
                      obtain ⟨bad_45, rfl, hzbad_45⟩ := hv_43
                      have hzbad_45' := jb_01 hzbad_45
                      exact C238 0 qt_41 bad_45 _ _ (hh_44.sub (L1 := [(r0, 16, 29, .int qt_41), (r0, 16, 31, .int bad_45), (r0, 16, 26, .int qn_1), (r0, 16, 30, .int pe), (r0, 16, 19, .ref xn)]) [1, 0, 2, 3, 4] rfl (M1 := [(xn, 119, 3100, ca 1, nx_1)]) [0] rfl (I1 := []) [] rfl) (Or.inl rfl) (by first | omega | (refine ⟨?_, ?_, ?_, ?_, ?_⟩ <;> (first | omega | rfl | assumption | decide | exact Or.inl rfl | exact Or.inr rfl | (simp only; omega)))) _ (lv_sub hl [0, 1, 2, 3, 4, 5] rfl)
                    refine lv_icmp_eq (tgt := 224) hx hb dX14_readNumber_212 (by decide) (fun c_46 => ?_) (fun c_46 => ?_)
                    · skip
                      have c_46' : r_39.toInt = 43 := jb_eq (rfl) ((by decide)) c_46
                      first | (have hr_39_2q := hr_39_2.resolve_left (by omega); clear hr_39_2) | (have hr_39_2q := hr_39_2.resolve_right (by omega); clear hr_39_2) | try clear hr_39_2
                      refine lv_aload_n hx hb dX14_readNumber_224 rfl (lv_at hl 1 rfl) ?_
                      refine lv_dup hx hb dX14_readNumber_225 rfl ?_
                      refine j7_read hx hb hown hK (C := RX14) (T := TX14) (N := 74) rfl hly_16_29 hlk_273 (hh_38.at 0 rfl) dX14_readNumber_226 ?_
                      refine lv_iconst (v := 1) hx hb dX14_readNumber_229 (by decide) ?_
                      refine lv_iadd hx hb dX14_readNumber_230 ?_
                      refine lv_topi (fun z_47 ez_47 => ?_)
                      have hz_47 : z_47.toInt = z_36.toInt + 1 := by rw [ez_47]; exact jb_iadd2 (rfl) ((by decide)) (by omega)
                      refine j7_put hx hb hown hK hh_38 hB hAp hB16 (C := RX14) (T := TX14) (N := 74) rfl (by decide) hg_r0 (i := 29) (by decide) hly_16_29 rfl hlk_273 rfl (ty := .int) (v := .int z_47) (by decide +kernel) rfl rfl (⟨_, rfl, by omega, by omega⟩) rfl (L1 := [(r0, 16, 31, .int wb_14), (r0, 16, 26, .int qn_1), (r0, 16, 30, .int pe), (r0, 16, 19, .ref xn)]) [1, 2, 3, 4] rfl rfl rfl dX14_readNumber_231 (fun H_48 locs_48 hh_48 => ?_)
                      clear hh_38
                      exact C234 z_47 _ _ hh_48 (by first | omega | (refine ⟨?_, ?_, ?_⟩ <;> (first | omega | rfl | assumption | decide | exact Or.inl rfl | exact Or.inr rfl | (simp only; omega)))) _ (lv_sub hl [1, 2, 3, 4, 5, 0] rfl)
                    · skip
                      have c_46' : r_39.toInt ≠ 43 := jb_eq_n (rfl) ((by decide)) c_46
                      try clear hr_39_2
                      refine lv_aload_n hx hb dX14_readNumber_215 rfl (lv_at hl 1 rfl) ?_
                      refine va_calli (A0 := jA base) (H0 := s.heap) (va_runV (As := []) (rest := []) ⟨hx, hb, hml, hown, hts⟩ (uX14_here l dC dI ca base B hB hAp hB16 hB110 G0 H_38 r0 z_36 pe) (cwV 0 hts (jgV (jWr_50 _ (List.mem_of_getElem? (i := 20) rfl)) (jWr_50 _ (List.mem_of_getElem? (i := 21) rfl)) (jWr_50 _ (List.mem_of_getElem? (i := 22) rfl)) (jWr_1 _ (List.mem_of_getElem? (i := 5) rfl)) (jWr_50 _ (List.mem_of_getElem? (i := 23) rfl))) rfl rfl rfl (by decide +kernel) ⟨by rw [← hR]; exact Nat.le_of_ble_eq_true rfl, by rw [← hR]; exact Nat.le_of_ble_eq_true rfl⟩) ⟨fun a U g mk q => by obtain ⟨q0, q1, q2, qK, q10, q11, q12⟩ := q; exact ⟨q0, q1, q2, jG.calling g mk a qK, q10, q11, q12⟩, hh_38.recv (C := RX14) (T := TX14) (N := 74) hB16 rfl (by decide) hg_r0 hK, fun U hU hW => ⟨rfl, hU, hh_38.2.1, hG.step hW hU hh_38.1, hg_r0, (hh_38.2.2.1.sub (L1 := [(r0, 16, 29, .int z_36), (r0, 16, 30, .int pe)]) [0, 3] rfl), by first | omega | (refine ⟨?_, ?_, ?_, ?_⟩ <;> (first | omega | rfl | assumption | decide | exact Or.inl rfl | exact Or.inr rfl | (simp only; omega)))⟩⟩ rfl rfl hl.1 rfl (lv_room (Nat.le_of_ble_eq_true rfl)) dX14_readNumber_216 ⟨Nat.zero_le _, Nat.zero_le _⟩) hh_38.1 (fun q _ h => h) (fun q h => h) (fun r_50 u_49 t_49 H_49 locs_49 ht_49 hvm_49 hr_50 hb_49 hz_49 hk_49 hS_49 => ?_)
                      rw [ht_49] at hb_49
                      obtain ⟨hb_491, hb_492, hb_493, hb_494, hb_495⟩ := hb_49
                      have hh_49 : jSt (dC, dI) B base G0 G0 EX14_readNumberN s.heap 0 0 [(r0, 16, 29, .int z_36), (r0, 16, 31, .int wb_14), (r0, 16, 26, .int qn_1), (r0, 16, 30, .int pe), (r0, 16, 19, .ref xn)] [(xn, 119, 3100, ca 1, nx_1)] [] H_49 locs_49 := ((hh_38.call hb_491 hb_492 hb_493 hb_494 hS_49 rfl (L1 := [(r0, 16, 29, .int z_36), (r0, 16, 31, .int wb_14), (r0, 16, 26, .int qn_1), (r0, 16, 30, .int pe), (r0, 16, 19, .ref xn)]) [0, 1, 2, 3, 4] rfl rfl (M1 := [(xn, 119, 3100, ca 1, nx_1)]) [0] rfl rfl (I1 := []) [] rfl rfl).more hb_495)
                      clear hh_38 ht_49 hvm_49 hz_49 hk_49 hS_49 hb_491 hb_492 hb_493 hb_494 hb_495
                      obtain ⟨hr_50_0, hr_50_1, hr_50_2⟩ := hr_50
                      refine lv_bipush (v := 45) hx hb dX14_readNumber_219 (by decide) ?_
                      refine lv_icmp_ne (tgt := 234) hx hb dX14_readNumber_221 (by decide) (fun c_51 => ?_) (fun c_51 => ?_)
                      · skip
                        have c_51' : r_50.toInt ≠ 45 := jb_ne (rfl) ((by decide)) c_51
                        try clear hr_50_2
                        exact C234 z_36 _ _ hh_49 (by first | omega | (refine ⟨?_, ?_, ?_⟩ <;> (first | omega | rfl | assumption | decide | exact Or.inl rfl | exact Or.inr rfl | (simp only; omega)))) _ (lv_sub hl [1, 2, 3, 4, 5, 0] rfl)
                      · skip
                        have c_51' : r_50.toInt = 45 := jb_ne_n (rfl) ((by decide)) c_51
                        first | (have hr_50_2q := hr_50_2.resolve_left (by omega); clear hr_50_2) | (have hr_50_2q := hr_50_2.resolve_right (by omega); clear hr_50_2) | try clear hr_50_2
                        refine lv_aload_n hx hb dX14_readNumber_224 rfl (lv_at hl 1 rfl) ?_
                        refine lv_dup hx hb dX14_readNumber_225 rfl ?_
                        refine j7_read hx hb hown hK (C := RX14) (T := TX14) (N := 74) rfl hly_16_29 hlk_273 (hh_49.at 0 rfl) dX14_readNumber_226 ?_
                        refine lv_iconst (v := 1) hx hb dX14_readNumber_229 (by decide) ?_
                        refine lv_iadd hx hb dX14_readNumber_230 ?_
                        refine lv_topi (fun z_52 ez_52 => ?_)
                        have hz_52 : z_52.toInt = z_36.toInt + 1 := by rw [ez_52]; exact jb_iadd2 (rfl) ((by decide)) (by omega)
                        refine j7_put hx hb hown hK hh_49 hB hAp hB16 (C := RX14) (T := TX14) (N := 74) rfl (by decide) hg_r0 (i := 29) (by decide) hly_16_29 rfl hlk_273 rfl (ty := .int) (v := .int z_52) (by decide +kernel) rfl rfl (⟨_, rfl, by omega, by omega⟩) rfl (L1 := [(r0, 16, 31, .int wb_14), (r0, 16, 26, .int qn_1), (r0, 16, 30, .int pe), (r0, 16, 19, .ref xn)]) [1, 2, 3, 4] rfl rfl rfl dX14_readNumber_231 (fun H_53 locs_53 hh_53 => ?_)
                        clear hh_49
                        exact C234 z_52 _ _ hh_53 (by first | omega | (refine ⟨?_, ?_, ?_⟩ <;> (first | omega | rfl | assumption | decide | exact Or.inl rfl | exact Or.inr rfl | (simp only; omega)))) _ (lv_sub hl [1, 2, 3, 4, 5, 0] rfl)
                  · skip
                    have c_35' : r_34.toInt ≠ 101 := jb_eq_n (rfl) ((by decide)) c_35
                    try clear hr_34_2
                    refine lv_aload_n hx hb dX14_readNumber_184 rfl (lv_at hl 0 rfl) ?_
                    refine va_calli (A0 := jA base) (H0 := s.heap) (va_runV (As := []) (rest := []) ⟨hx, hb, hml, hown, hts⟩ (uX14_here l dC dI ca base B hB hAp hB16 hB110 G0 H_33 r0 wt_14 pe) (cwV 0 hts (jgV (jWr_50 _ (List.mem_of_getElem? (i := 20) rfl)) (jWr_50 _ (List.mem_of_getElem? (i := 21) rfl)) (jWr_50 _ (List.mem_of_getElem? (i := 22) rfl)) (jWr_1 _ (List.mem_of_getElem? (i := 5) rfl)) (jWr_50 _ (List.mem_of_getElem? (i := 23) rfl))) rfl rfl rfl (by decide +kernel) ⟨by rw [← hR]; exact Nat.le_of_ble_eq_true rfl, by rw [← hR]; exact Nat.le_of_ble_eq_true rfl⟩) ⟨fun a U g mk q => by obtain ⟨q0, q1, q2, qK, q10, q11, q12⟩ := q; exact ⟨q0, q1, q2, jG.calling g mk a qK, q10, q11, q12⟩, hh_33.recv (C := RX14) (T := TX14) (N := 74) hB16 rfl (by decide) hg_r0 hK, fun U hU hW => ⟨rfl, hU, hh_33.2.1, hG.step hW hU hh_33.1, hg_r0, (hh_33.2.2.1.sub (L1 := [(r0, 16, 29, .int wt_14), (r0, 16, 30, .int pe)]) [0, 3] rfl), by first | omega | (refine ⟨?_, ?_, ?_, ?_⟩ <;> (first | omega | rfl | assumption | decide | exact Or.inl rfl | exact Or.inr rfl | (simp only; omega)))⟩⟩ rfl rfl hl.1 rfl (lv_room (Nat.le_of_ble_eq_true rfl)) dX14_readNumber_185 ⟨Nat.zero_le _, Nat.zero_le _⟩) hh_33.1 (fun q _ h => h) (fun q h => h) (fun r_55 u_54 t_54 H_54 locs_54 ht_54 hvm_54 hr_55 hb_54 hz_54 hk_54 hS_54 => ?_)
                    rw [ht_54] at hb_54
                    obtain ⟨hb_541, hb_542, hb_543, hb_544, hb_545⟩ := hb_54
                    have hh_54 : jSt (dC, dI) B base G0 G0 EX14_readNumberN s.heap 0 0 [(r0, 16, 29, .int wt_14), (r0, 16, 31, .int wb_14), (r0, 16, 26, .int qn_1), (r0, 16, 30, .int pe), (r0, 16, 19, .ref xn)] [(xn, 119, 3100, ca 1, nx_1)] [] H_54 locs_54 := ((hh_33.call hb_541 hb_542 hb_543 hb_544 hS_54 rfl (L1 := [(r0, 16, 29, .int wt_14), (r0, 16, 31, .int wb_14), (r0, 16, 26, .int qn_1), (r0, 16, 30, .int pe), (r0, 16, 19, .ref xn)]) [0, 1, 2, 3, 4] rfl rfl (M1 := [(xn, 119, 3100, ca 1, nx_1)]) [0] rfl rfl (I1 := []) [] rfl rfl).more hb_545)
                    clear hh_33 ht_54 hvm_54 hz_54 hk_54 hS_54 hb_541 hb_542 hb_543 hb_544 hb_545
                    obtain ⟨hr_55_0, hr_55_1, hr_55_2⟩ := hr_55
                    refine lv_bipush (v := 69) hx hb dX14_readNumber_188 (by decide) ?_
                    refine lv_icmp_ne (tgt := 238) hx hb dX14_readNumber_190 (by decide) (fun c_56 => ?_) (fun c_56 => ?_)
                    · skip
                      have c_56' : r_55.toInt ≠ 69 := jb_ne (rfl) ((by decide)) c_56
                      try clear hr_55_2
                      exact C238 v6_14 wt_14 wb_14 _ _ hh_54 (hb_v6_14) (by first | omega | (refine ⟨?_, ?_, ?_, ?_, ?_⟩ <;> (first | omega | rfl | assumption | decide | exact Or.inl rfl | exact Or.inr rfl | (simp only; omega)))) _ (lv_sub hl [0, 1, 2, 3, 4, 5] rfl)
                    · skip
                      have c_56' : r_55.toInt = 69 := jb_ne_n (rfl) ((by decide)) c_56
                      first | (have hr_55_2q := hr_55_2.resolve_left (by omega); clear hr_55_2) | (have hr_55_2q := hr_55_2.resolve_right (by omega); clear hr_55_2) | try clear hr_55_2
                      refine lv_iconst (v := 0) hx hb dX14_readNumber_193 (by decide) ?_
                      refine lv_istore (lv' := [(6, .int 0), (0, .ref r0), (1, .int r_2), (2, .int 0), (3, .int wt_6), (4, .long v4_7)]) hx hb dX14_readNumber_194 hl (by decide) rfl (fun ls hl => ?_)
                      refine lv_aload_n hx hb dX14_readNumber_196 rfl (lv_at hl 1 rfl) ?_
                      refine lv_dup hx hb dX14_readNumber_197 rfl ?_
                      refine j7_read hx hb hown hK (C := RX14) (T := TX14) (N := 74) rfl hly_16_29 hlk_273 (hh_54.at 0 rfl) dX14_readNumber_198 ?_
                      refine lv_iconst (v := 1) hx hb dX14_readNumber_201 (by decide) ?_
                      refine lv_iadd hx hb dX14_readNumber_202 ?_
                      refine lv_topi (fun z_57 ez_57 => ?_)
                      have hz_57 : z_57.toInt = wt_14.toInt + 1 := by rw [ez_57]; exact jb_iadd2 (rfl) ((by decide)) (by omega)
                      refine j7_put hx hb hown hK hh_54 hB hAp hB16 (C := RX14) (T := TX14) (N := 74) rfl (by decide) hg_r0 (i := 29) (by decide) hly_16_29 rfl hlk_273 rfl (ty := .int) (v := .int z_57) (by decide +kernel) rfl rfl (⟨_, rfl, by omega, by omega⟩) rfl (L1 := [(r0, 16, 31, .int wb_14), (r0, 16, 26, .int qn_1), (r0, 16, 30, .int pe), (r0, 16, 19, .ref xn)]) [1, 2, 3, 4] rfl rfl rfl dX14_readNumber_203 (fun H_58 locs_58 hh_58 => ?_)
                      clear hh_54
                      refine lv_aload_n hx hb dX14_readNumber_206 rfl (lv_at hl 1 rfl) ?_
                      refine va_calli (A0 := jA base) (H0 := s.heap) (va_runV (As := []) (rest := []) ⟨hx, hb, hml, hown, hts⟩ (uX14_here l dC dI ca base B hB hAp hB16 hB110 G0 H_58 r0 z_57 pe) (cwV 0 hts (jgV (jWr_50 _ (List.mem_of_getElem? (i := 20) rfl)) (jWr_50 _ (List.mem_of_getElem? (i := 21) rfl)) (jWr_50 _ (List.mem_of_getElem? (i := 22) rfl)) (jWr_1 _ (List.mem_of_getElem? (i := 5) rfl)) (jWr_50 _ (List.mem_of_getElem? (i := 23) rfl))) rfl rfl rfl (by decide +kernel) ⟨by rw [← hR]; exact Nat.le_of_ble_eq_true rfl, by rw [← hR]; exact Nat.le_of_ble_eq_true rfl⟩) ⟨fun a U g mk q => by obtain ⟨q0, q1, q2, qK, q10, q11, q12⟩ := q; exact ⟨q0, q1, q2, jG.calling g mk a qK, q10, q11, q12⟩, hh_58.recv (C := RX14) (T := TX14) (N := 74) hB16 rfl (by decide) hg_r0 hK, fun U hU hW => ⟨rfl, hU, hh_58.2.1, hG.step hW hU hh_58.1, hg_r0, (hh_58.2.2.1.sub (L1 := [(r0, 16, 29, .int z_57), (r0, 16, 30, .int pe)]) [0, 3] rfl), by first | omega | (refine ⟨?_, ?_, ?_, ?_⟩ <;> (first | omega | rfl | assumption | decide | exact Or.inl rfl | exact Or.inr rfl | (simp only; omega)))⟩⟩ rfl rfl hl.1 rfl (lv_room (Nat.le_of_ble_eq_true rfl)) dX14_readNumber_207 ⟨Nat.zero_le _, Nat.zero_le _⟩) hh_58.1 (fun q _ h => h) (fun q h => h) (fun r_60 u_59 t_59 H_59 locs_59 ht_59 hvm_59 hr_60 hb_59 hz_59 hk_59 hS_59 => ?_)
                      rw [ht_59] at hb_59
                      obtain ⟨hb_591, hb_592, hb_593, hb_594, hb_595⟩ := hb_59
                      have hh_59 : jSt (dC, dI) B base G0 G0 EX14_readNumberN s.heap 0 0 [(r0, 16, 29, .int z_57), (r0, 16, 31, .int wb_14), (r0, 16, 26, .int qn_1), (r0, 16, 30, .int pe), (r0, 16, 19, .ref xn)] [(xn, 119, 3100, ca 1, nx_1)] [] H_59 locs_59 := ((hh_58.call hb_591 hb_592 hb_593 hb_594 hS_59 rfl (L1 := [(r0, 16, 29, .int z_57), (r0, 16, 31, .int wb_14), (r0, 16, 26, .int qn_1), (r0, 16, 30, .int pe), (r0, 16, 19, .ref xn)]) [0, 1, 2, 3, 4] rfl rfl (M1 := [(xn, 119, 3100, ca 1, nx_1)]) [0] rfl rfl (I1 := []) [] rfl rfl).more hb_595)
                      clear hh_58 ht_59 hvm_59 hz_59 hk_59 hS_59 hb_591 hb_592 hb_593 hb_594 hb_595
                      obtain ⟨hr_60_0, hr_60_1, hr_60_2⟩ := hr_60
                      refine lv_bipush (v := 43) hx hb dX14_readNumber_210 (by decide) ?_
                      have C234 : ∀ (wt_61 : Int32) (H_61 : Heap) (locs_61 : List Loc), jSt (dC, dI) B base G0 G0 EX14_readNumberN s.heap 0 0 [(r0, 16, 29, .int wt_61), (r0, 16, 31, .int wb_14), (r0, 16, 26, .int qn_1), (r0, 16, 30, .int pe), (r0, 16, 19, .ref xn)] [(xn, 119, 3100, ca 1, nx_1)] [] H_61 locs_61 → (pt.toInt ≤ wt_61.toInt ∧ wt_61.toInt ≤ pe.toInt ∧ pt.toInt + 1 ≤ wt_61.toInt) → ∀ ls : Array Slot, lv_has ls 9 [(0, .ref r0), (1, .int r_2), (2, .int 0), (3, .int wt_6), (4, .long v4_7), (6, .int 0)] → W p l e R s m ([.ref r0] : List Value).toArray below meth c H_61 locs_61 0 0 Q (F0 m 234 ls []) := by
                        intro wt_61 H_61 locs_61 hh_61  hi_61 ls hl
                        obtain ⟨hi_61_0, hi_61_1, hi_61_2⟩ := hi_61
                        try clear hr_60_2
                        refine lv_aload_n hx hb dX14_readNumber_234 rfl (lv_at hl 0 rfl) ?_
                        refine va_callv (A0 := jA base) (H0 := s.heap) (va_runV (As := []) (rest := []) ⟨hx, hb, hml, hown, hts⟩ (uX14_digits l dC dI ca base B hB hAp hB16 hB110 G0 H_61 r0 wt_61 pe) (cwV 0 hts (jgV (jWr_53 _ (List.mem_of_getElem? (i := 4) rfl)) (jWr_53 _ (List.mem_of_getElem? (i := 5) rfl)) (jWr_53 _ (List.mem_of_getElem? (i := 6) rfl)) (jWr_1 _ (List.mem_of_getElem? (i := 5) rfl)) (jWr_53 _ (List.mem_of_getElem? (i := 7) rfl))) rfl rfl rfl (by decide +kernel) ⟨by rw [← hR]; exact Nat.le_of_ble_eq_true rfl, by rw [← hR]; exact Nat.le_of_ble_eq_true rfl⟩) ⟨fun a U g mk q => by obtain ⟨q0, q1, q2, qK, q10, q11, q12⟩ := q; exact ⟨q0, q1, q2, jG.calling g mk a qK, q10, q11, q12⟩, hh_61.recv (C := RX14) (T := TX14) (N := 74) hB16 rfl (by decide) hg_r0 hK, fun U hU hW => ⟨rfl, hU, hh_61.2.1, hG.step hW hU hh_61.1, hg_r0, (hh_61.2.2.1.sub (L1 := [(r0, 16, 29, .int wt_61), (r0, 16, 30, .int pe)]) [0, 3] rfl), by first | omega | (refine ⟨?_, ?_, ?_, ?_, ?_⟩ <;> (first | omega | rfl | assumption | decide | exact Or.inl rfl | exact Or.inr rfl | (simp only; omega)))⟩⟩ rfl rfl hl.1 rfl (lv_room (Nat.le_of_ble_eq_true rfl)) dX14_readNumber_235 ⟨Nat.zero_le _, Nat.zero_le _⟩) hh_61.1 (fun q _ h => h) (fun q h => h) (fun u_62 t_62 H_62 locs_62 ht_62 hvm_62 hr_63 hb_62 hz_62 hk_62 hS_62 => ?_)
                        obtain ⟨qt_62, rfl⟩ : ∃ z, z = u_62 := ⟨_, rfl⟩
                        rw [ht_62] at hb_62
                        obtain ⟨hb_621, hb_622, hb_623, hb_624, hb_625⟩ := hb_62
                        have hh_62 : jSt (dC, dI) B base G0 G0 EX14_readNumberN s.heap 0 0 [(r0, 16, 29, .int qt_62), (r0, 16, 26, .int qn_1), (r0, 16, 30, .int pe), (r0, 16, 19, .ref xn)] [(xn, 119, 3100, ca 1, nx_1)] [] H_62 locs_62 := ((hh_61.call hb_621 hb_622 hb_623 hb_624 hS_62 rfl (L1 := [(r0, 16, 26, .int qn_1), (r0, 16, 30, .int pe), (r0, 16, 19, .ref xn)]) [2, 3, 4] rfl rfl (M1 := [(xn, 119, 3100, ca 1, nx_1)]) [0] rfl rfl (I1 := []) [] rfl rfl).more hb_625)
                        clear hh_61 ht_62 hvm_62 hz_62 hk_62 hS_62 hb_621 hb_622 hb_623 hb_624 hb_625
                        obtain ⟨hr_63_0, hr_63_1⟩ := hr_63
                        obtain ⟨v_64, hv_64, hh_65⟩ := hh_62.pin (C := RX14) (T := TX14) (N := 74) hB16 rfl (by decide) hg_r0 (i := 31) (by decide) rfl
                        obtain ⟨bad_66, rfl, hzbad_66⟩ := hv_64
                        have hzbad_66' := jb_01 hzbad_66
                        exact C238 0 qt_62 bad_66 _ _ (hh_65.sub (L1 := [(r0, 16, 29, .int qt_62), (r0, 16, 31, .int bad_66), (r0, 16, 26, .int qn_1), (r0, 16, 30, .int pe), (r0, 16, 19, .ref xn)]) [1, 0, 2, 3, 4] rfl (M1 := [(xn, 119, 3100, ca 1, nx_1)]) [0] rfl (I1 := []) [] rfl) (Or.inl rfl) (by first | omega | (refine ⟨?_, ?_, ?_, ?_, ?_⟩ <;> (first | omega | rfl | assumption | decide | exact Or.inl rfl | exact Or.inr rfl | (simp only; omega)))) _ (lv_sub hl [0, 1, 2, 3, 4, 5] rfl)
                      refine lv_icmp_eq (tgt := 224) hx hb dX14_readNumber_212 (by decide) (fun c_67 => ?_) (fun c_67 => ?_)
                      · skip
                        have c_67' : r_60.toInt = 43 := jb_eq (rfl) ((by decide)) c_67
                        first | (have hr_60_2q := hr_60_2.resolve_left (by omega); clear hr_60_2) | (have hr_60_2q := hr_60_2.resolve_right (by omega); clear hr_60_2) | try clear hr_60_2
                        refine lv_aload_n hx hb dX14_readNumber_224 rfl (lv_at hl 1 rfl) ?_
                        refine lv_dup hx hb dX14_readNumber_225 rfl ?_
                        refine j7_read hx hb hown hK (C := RX14) (T := TX14) (N := 74) rfl hly_16_29 hlk_273 (hh_59.at 0 rfl) dX14_readNumber_226 ?_
                        refine lv_iconst (v := 1) hx hb dX14_readNumber_229 (by decide) ?_
                        refine lv_iadd hx hb dX14_readNumber_230 ?_
                        refine lv_topi (fun z_68 ez_68 => ?_)
                        have hz_68 : z_68.toInt = z_57.toInt + 1 := by rw [ez_68]; exact jb_iadd2 (rfl) ((by decide)) (by omega)
                        refine j7_put hx hb hown hK hh_59 hB hAp hB16 (C := RX14) (T := TX14) (N := 74) rfl (by decide) hg_r0 (i := 29) (by decide) hly_16_29 rfl hlk_273 rfl (ty := .int) (v := .int z_68) (by decide +kernel) rfl rfl (⟨_, rfl, by omega, by omega⟩) rfl (L1 := [(r0, 16, 31, .int wb_14), (r0, 16, 26, .int qn_1), (r0, 16, 30, .int pe), (r0, 16, 19, .ref xn)]) [1, 2, 3, 4] rfl rfl rfl dX14_readNumber_231 (fun H_69 locs_69 hh_69 => ?_)
                        clear hh_59
                        exact C234 z_68 _ _ hh_69 (by first | omega | (refine ⟨?_, ?_, ?_⟩ <;> (first | omega | rfl | assumption | decide | exact Or.inl rfl | exact Or.inr rfl | (simp only; omega)))) _ (lv_sub hl [1, 2, 3, 4, 5, 0] rfl)
                      · skip
                        have c_67' : r_60.toInt ≠ 43 := jb_eq_n (rfl) ((by decide)) c_67
                        try clear hr_60_2
                        refine lv_aload_n hx hb dX14_readNumber_215 rfl (lv_at hl 1 rfl) ?_
                        refine va_calli (A0 := jA base) (H0 := s.heap) (va_runV (As := []) (rest := []) ⟨hx, hb, hml, hown, hts⟩ (uX14_here l dC dI ca base B hB hAp hB16 hB110 G0 H_59 r0 z_57 pe) (cwV 0 hts (jgV (jWr_50 _ (List.mem_of_getElem? (i := 20) rfl)) (jWr_50 _ (List.mem_of_getElem? (i := 21) rfl)) (jWr_50 _ (List.mem_of_getElem? (i := 22) rfl)) (jWr_1 _ (List.mem_of_getElem? (i := 5) rfl)) (jWr_50 _ (List.mem_of_getElem? (i := 23) rfl))) rfl rfl rfl (by decide +kernel) ⟨by rw [← hR]; exact Nat.le_of_ble_eq_true rfl, by rw [← hR]; exact Nat.le_of_ble_eq_true rfl⟩) ⟨fun a U g mk q => by obtain ⟨q0, q1, q2, qK, q10, q11, q12⟩ := q; exact ⟨q0, q1, q2, jG.calling g mk a qK, q10, q11, q12⟩, hh_59.recv (C := RX14) (T := TX14) (N := 74) hB16 rfl (by decide) hg_r0 hK, fun U hU hW => ⟨rfl, hU, hh_59.2.1, hG.step hW hU hh_59.1, hg_r0, (hh_59.2.2.1.sub (L1 := [(r0, 16, 29, .int z_57), (r0, 16, 30, .int pe)]) [0, 3] rfl), by first | omega | (refine ⟨?_, ?_, ?_, ?_⟩ <;> (first | omega | rfl | assumption | decide | exact Or.inl rfl | exact Or.inr rfl | (simp only; omega)))⟩⟩ rfl rfl hl.1 rfl (lv_room (Nat.le_of_ble_eq_true rfl)) dX14_readNumber_216 ⟨Nat.zero_le _, Nat.zero_le _⟩) hh_59.1 (fun q _ h => h) (fun q h => h) (fun r_71 u_70 t_70 H_70 locs_70 ht_70 hvm_70 hr_71 hb_70 hz_70 hk_70 hS_70 => ?_)
                        rw [ht_70] at hb_70
                        obtain ⟨hb_701, hb_702, hb_703, hb_704, hb_705⟩ := hb_70
                        have hh_70 : jSt (dC, dI) B base G0 G0 EX14_readNumberN s.heap 0 0 [(r0, 16, 29, .int z_57), (r0, 16, 31, .int wb_14), (r0, 16, 26, .int qn_1), (r0, 16, 30, .int pe), (r0, 16, 19, .ref xn)] [(xn, 119, 3100, ca 1, nx_1)] [] H_70 locs_70 := ((hh_59.call hb_701 hb_702 hb_703 hb_704 hS_70 rfl (L1 := [(r0, 16, 29, .int z_57), (r0, 16, 31, .int wb_14), (r0, 16, 26, .int qn_1), (r0, 16, 30, .int pe), (r0, 16, 19, .ref xn)]) [0, 1, 2, 3, 4] rfl rfl (M1 := [(xn, 119, 3100, ca 1, nx_1)]) [0] rfl rfl (I1 := []) [] rfl rfl).more hb_705)
                        clear hh_59 ht_70 hvm_70 hz_70 hk_70 hS_70 hb_701 hb_702 hb_703 hb_704 hb_705
                        obtain ⟨hr_71_0, hr_71_1, hr_71_2⟩ := hr_71
                        refine lv_bipush (v := 45) hx hb dX14_readNumber_219 (by decide) ?_
                        refine lv_icmp_ne (tgt := 234) hx hb dX14_readNumber_221 (by decide) (fun c_72 => ?_) (fun c_72 => ?_)
                        · skip
                          have c_72' : r_71.toInt ≠ 45 := jb_ne (rfl) ((by decide)) c_72
                          try clear hr_71_2
                          exact C234 z_57 _ _ hh_70 (by first | omega | (refine ⟨?_, ?_, ?_⟩ <;> (first | omega | rfl | assumption | decide | exact Or.inl rfl | exact Or.inr rfl | (simp only; omega)))) _ (lv_sub hl [1, 2, 3, 4, 5, 0] rfl)
                        · skip
                          have c_72' : r_71.toInt = 45 := jb_ne_n (rfl) ((by decide)) c_72
                          first | (have hr_71_2q := hr_71_2.resolve_left (by omega); clear hr_71_2) | (have hr_71_2q := hr_71_2.resolve_right (by omega); clear hr_71_2) | try clear hr_71_2
                          refine lv_aload_n hx hb dX14_readNumber_224 rfl (lv_at hl 1 rfl) ?_
                          refine lv_dup hx hb dX14_readNumber_225 rfl ?_
                          refine j7_read hx hb hown hK (C := RX14) (T := TX14) (N := 74) rfl hly_16_29 hlk_273 (hh_70.at 0 rfl) dX14_readNumber_226 ?_
                          refine lv_iconst (v := 1) hx hb dX14_readNumber_229 (by decide) ?_
                          refine lv_iadd hx hb dX14_readNumber_230 ?_
                          refine lv_topi (fun z_73 ez_73 => ?_)
                          have hz_73 : z_73.toInt = z_57.toInt + 1 := by rw [ez_73]; exact jb_iadd2 (rfl) ((by decide)) (by omega)
                          refine j7_put hx hb hown hK hh_70 hB hAp hB16 (C := RX14) (T := TX14) (N := 74) rfl (by decide) hg_r0 (i := 29) (by decide) hly_16_29 rfl hlk_273 rfl (ty := .int) (v := .int z_73) (by decide +kernel) rfl rfl (⟨_, rfl, by omega, by omega⟩) rfl (L1 := [(r0, 16, 31, .int wb_14), (r0, 16, 26, .int qn_1), (r0, 16, 30, .int pe), (r0, 16, 19, .ref xn)]) [1, 2, 3, 4] rfl rfl rfl dX14_readNumber_231 (fun H_74 locs_74 hh_74 => ?_)
                          clear hh_70
                          exact C234 z_73 _ _ hh_74 (by first | omega | (refine ⟨?_, ?_, ?_⟩ <;> (first | omega | rfl | assumption | decide | exact Or.inl rfl | exact Or.inr rfl | (simp only; omega)))) _ (lv_sub hl [1, 2, 3, 4, 5, 0] rfl)
              refine lv_if_ne (tgt := 168) hx hb dX14_readNumber_139 (by decide) (fun c_75 => ?_) (fun c_75 => ?_)
              · skip
                have c_75' : wb_13.toInt ≠ 0 := jb_ne (rfl) ((by decide)) c_75
                exact C168 1 wt_13 wb_13 _ _ hh_13 (Or.inr rfl) (by first | omega | (refine ⟨?_, ?_, ?_, ?_, ?_⟩ <;> (first | omega | rfl | assumption | decide | exact Or.inl rfl | exact Or.inr rfl | (simp only; omega)))) _ (lv_sub hl [1, 2, 3, 4, 5, 0] rfl)
              · skip
                have c_75' : wb_13.toInt = 0 := jb_ne_n (rfl) ((by decide)) c_75
                refine lv_aload_n hx hb dX14_readNumber_142 rfl (lv_at hl 1 rfl) ?_
                refine va_calli (A0 := jA base) (H0 := s.heap) (va_runV (As := []) (rest := []) ⟨hx, hb, hml, hown, hts⟩ (uX14_here l dC dI ca base B hB hAp hB16 hB110 G0 H_13 r0 wt_13 pe) (cwV 0 hts (jgV (jWr_50 _ (List.mem_of_getElem? (i := 20) rfl)) (jWr_50 _ (List.mem_of_getElem? (i := 21) rfl)) (jWr_50 _ (List.mem_of_getElem? (i := 22) rfl)) (jWr_1 _ (List.mem_of_getElem? (i := 5) rfl)) (jWr_50 _ (List.mem_of_getElem? (i := 23) rfl))) rfl rfl rfl (by decide +kernel) ⟨by rw [← hR]; exact Nat.le_of_ble_eq_true rfl, by rw [← hR]; exact Nat.le_of_ble_eq_true rfl⟩) ⟨fun a U g mk q => by obtain ⟨q0, q1, q2, qK, q10, q11, q12⟩ := q; exact ⟨q0, q1, q2, jG.calling g mk a qK, q10, q11, q12⟩, hh_13.recv (C := RX14) (T := TX14) (N := 74) hB16 rfl (by decide) hg_r0 hK, fun U hU hW => ⟨rfl, hU, hh_13.2.1, hG.step hW hU hh_13.1, hg_r0, (hh_13.2.2.1.sub (L1 := [(r0, 16, 29, .int wt_13), (r0, 16, 30, .int pe)]) [0, 3] rfl), by first | omega | (refine ⟨?_, ?_, ?_, ?_⟩ <;> (first | omega | rfl | assumption | decide | exact Or.inl rfl | exact Or.inr rfl | (simp only; omega)))⟩⟩ rfl rfl hl.1 rfl (lv_room (Nat.le_of_ble_eq_true rfl)) dX14_readNumber_143 ⟨Nat.zero_le _, Nat.zero_le _⟩) hh_13.1 (fun q _ h => h) (fun q h => h) (fun r_77 u_76 t_76 H_76 locs_76 ht_76 hvm_76 hr_77 hb_76 hz_76 hk_76 hS_76 => ?_)
                rw [ht_76] at hb_76
                obtain ⟨hb_761, hb_762, hb_763, hb_764, hb_765⟩ := hb_76
                have hh_76 : jSt (dC, dI) B base G0 G0 EX14_readNumberN s.heap 0 0 [(r0, 16, 29, .int wt_13), (r0, 16, 31, .int wb_13), (r0, 16, 26, .int qn_1), (r0, 16, 30, .int pe), (r0, 16, 19, .ref xn)] [(xn, 119, 3100, ca 1, nx_1)] [] H_76 locs_76 := ((hh_13.call hb_761 hb_762 hb_763 hb_764 hS_76 rfl (L1 := [(r0, 16, 29, .int wt_13), (r0, 16, 31, .int wb_13), (r0, 16, 26, .int qn_1), (r0, 16, 30, .int pe), (r0, 16, 19, .ref xn)]) [0, 1, 2, 3, 4] rfl rfl (M1 := [(xn, 119, 3100, ca 1, nx_1)]) [0] rfl rfl (I1 := []) [] rfl rfl).more hb_765)
                clear hh_13 ht_76 hvm_76 hz_76 hk_76 hS_76 hb_761 hb_762 hb_763 hb_764 hb_765
                obtain ⟨hr_77_0, hr_77_1, hr_77_2⟩ := hr_77
                refine lv_bipush (v := 46) hx hb dX14_readNumber_146 (by decide) ?_
                refine lv_icmp_ne (tgt := 168) hx hb dX14_readNumber_148 (by decide) (fun c_78 => ?_) (fun c_78 => ?_)
                · skip
                  have c_78' : r_77.toInt ≠ 46 := jb_ne (rfl) ((by decide)) c_78
                  try clear hr_77_2
                  exact C168 1 wt_13 wb_13 _ _ hh_76 (Or.inr rfl) (by first | omega | (refine ⟨?_, ?_, ?_, ?_, ?_⟩ <;> (first | omega | rfl | assumption | decide | exact Or.inl rfl | exact Or.inr rfl | (simp only; omega)))) _ (lv_sub hl [1, 2, 3, 4, 5, 0] rfl)
                · skip
                  have c_78' : r_77.toInt = 46 := jb_ne_n (rfl) ((by decide)) c_78
                  first | (have hr_77_2q := hr_77_2.resolve_left (by omega); clear hr_77_2) | (have hr_77_2q := hr_77_2.resolve_right (by omega); clear hr_77_2) | try clear hr_77_2
                  refine lv_iconst (v := 0) hx hb dX14_readNumber_151 (by decide) ?_
                  refine lv_istore (lv' := [(6, .int 0), (0, .ref r0), (1, .int r_2), (2, .int 0), (3, .int wt_6), (4, .long v4_7)]) hx hb dX14_readNumber_152 hl (by decide) rfl (fun ls hl => ?_)
                  refine lv_aload_n hx hb dX14_readNumber_154 rfl (lv_at hl 1 rfl) ?_
                  refine lv_dup hx hb dX14_readNumber_155 rfl ?_
                  refine j7_read hx hb hown hK (C := RX14) (T := TX14) (N := 74) rfl hly_16_29 hlk_273 (hh_76.at 0 rfl) dX14_readNumber_156 ?_
                  refine lv_iconst (v := 1) hx hb dX14_readNumber_159 (by decide) ?_
                  refine lv_iadd hx hb dX14_readNumber_160 ?_
                  refine lv_topi (fun z_79 ez_79 => ?_)
                  have hz_79 : z_79.toInt = wt_13.toInt + 1 := by rw [ez_79]; exact jb_iadd2 (rfl) ((by decide)) (by omega)
                  refine j7_put hx hb hown hK hh_76 hB hAp hB16 (C := RX14) (T := TX14) (N := 74) rfl (by decide) hg_r0 (i := 29) (by decide) hly_16_29 rfl hlk_273 rfl (ty := .int) (v := .int z_79) (by decide +kernel) rfl rfl (⟨_, rfl, by omega, by omega⟩) rfl (L1 := [(r0, 16, 31, .int wb_13), (r0, 16, 26, .int qn_1), (r0, 16, 30, .int pe), (r0, 16, 19, .ref xn)]) [1, 2, 3, 4] rfl rfl rfl dX14_readNumber_161 (fun H_80 locs_80 hh_80 => ?_)
                  clear hh_76
                  refine lv_aload_n hx hb dX14_readNumber_164 rfl (lv_at hl 1 rfl) ?_
                  refine va_callv (A0 := jA base) (H0 := s.heap) (va_runV (As := []) (rest := []) ⟨hx, hb, hml, hown, hts⟩ (uX14_digits l dC dI ca base B hB hAp hB16 hB110 G0 H_80 r0 z_79 pe) (cwV 0 hts (jgV (jWr_53 _ (List.mem_of_getElem? (i := 4) rfl)) (jWr_53 _ (List.mem_of_getElem? (i := 5) rfl)) (jWr_53 _ (List.mem_of_getElem? (i := 6) rfl)) (jWr_1 _ (List.mem_of_getElem? (i := 5) rfl)) (jWr_53 _ (List.mem_of_getElem? (i := 7) rfl))) rfl rfl rfl (by decide +kernel) ⟨by rw [← hR]; exact Nat.le_of_ble_eq_true rfl, by rw [← hR]; exact Nat.le_of_ble_eq_true rfl⟩) ⟨fun a U g mk q => by obtain ⟨q0, q1, q2, qK, q10, q11, q12⟩ := q; exact ⟨q0, q1, q2, jG.calling g mk a qK, q10, q11, q12⟩, hh_80.recv (C := RX14) (T := TX14) (N := 74) hB16 rfl (by decide) hg_r0 hK, fun U hU hW => ⟨rfl, hU, hh_80.2.1, hG.step hW hU hh_80.1, hg_r0, (hh_80.2.2.1.sub (L1 := [(r0, 16, 29, .int z_79), (r0, 16, 30, .int pe)]) [0, 3] rfl), by first | omega | (refine ⟨?_, ?_, ?_, ?_, ?_⟩ <;> (first | omega | rfl | assumption | decide | exact Or.inl rfl | exact Or.inr rfl | (simp only; omega)))⟩⟩ rfl rfl hl.1 rfl (lv_room (Nat.le_of_ble_eq_true rfl)) dX14_readNumber_165 ⟨Nat.zero_le _, Nat.zero_le _⟩) hh_80.1 (fun q _ h => h) (fun q h => h) (fun u_81 t_81 H_81 locs_81 ht_81 hvm_81 hr_82 hb_81 hz_81 hk_81 hS_81 => ?_)
                  obtain ⟨qt_81, rfl⟩ : ∃ z, z = u_81 := ⟨_, rfl⟩
                  rw [ht_81] at hb_81
                  obtain ⟨hb_811, hb_812, hb_813, hb_814, hb_815⟩ := hb_81
                  have hh_81 : jSt (dC, dI) B base G0 G0 EX14_readNumberN s.heap 0 0 [(r0, 16, 29, .int qt_81), (r0, 16, 26, .int qn_1), (r0, 16, 30, .int pe), (r0, 16, 19, .ref xn)] [(xn, 119, 3100, ca 1, nx_1)] [] H_81 locs_81 := ((hh_80.call hb_811 hb_812 hb_813 hb_814 hS_81 rfl (L1 := [(r0, 16, 26, .int qn_1), (r0, 16, 30, .int pe), (r0, 16, 19, .ref xn)]) [2, 3, 4] rfl rfl (M1 := [(xn, 119, 3100, ca 1, nx_1)]) [0] rfl rfl (I1 := []) [] rfl rfl).more hb_815)
                  clear hh_80 ht_81 hvm_81 hz_81 hk_81 hS_81 hb_811 hb_812 hb_813 hb_814 hb_815
                  obtain ⟨hr_82_0, hr_82_1⟩ := hr_82
                  obtain ⟨v_83, hv_83, hh_84⟩ := hh_81.pin (C := RX14) (T := TX14) (N := 74) hB16 rfl (by decide) hg_r0 (i := 31) (by decide) rfl
                  obtain ⟨bad_85, rfl, hzbad_85⟩ := hv_83
                  have hzbad_85' := jb_01 hzbad_85
                  exact C168 0 qt_81 bad_85 _ _ (hh_84.sub (L1 := [(r0, 16, 29, .int qt_81), (r0, 16, 31, .int bad_85), (r0, 16, 26, .int qn_1), (r0, 16, 30, .int pe), (r0, 16, 19, .ref xn)]) [1, 0, 2, 3, 4] rfl (M1 := [(xn, 119, 3100, ca 1, nx_1)]) [0] rfl (I1 := []) [] rfl) (Or.inl rfl) (by first | omega | (refine ⟨?_, ?_, ?_, ?_, ?_⟩ <;> (first | omega | rfl | assumption | decide | exact Or.inl rfl | exact Or.inr rfl | (simp only; omega)))) _ (lv_sub hl [1, 2, 3, 4, 5, 0] rfl)
            refine lv_icmp_eq (tgt := 127) hx hb dX14_readNumber_103 (by decide) (fun c_86 => ?_) (fun c_86 => ?_)
            · skip
              have c_86' : wt_7.toInt = wt_6.toInt := jb_eq (rfl) (rfl) c_86
              refine lv_aload_n hx hb dX14_readNumber_127 rfl (lv_at hl 0 rfl) ?_
              refine lv_iconst (v := 1) hx hb dX14_readNumber_128 (by decide) ?_
              refine j7_put hx hb hown hK hh_10 hB hAp hB16 (C := RX14) (T := TX14) (N := 74) rfl (by decide) hg_r0 (i := 31) (by decide) hly_16_31 rfl hlk_288 rfl (ty := .boolean) (v := .int 1) (by decide +kernel) (jb_nz (Or.inr rfl)) (jb_fz (Or.inr rfl)) (⟨_, rfl, (Or.inr rfl)⟩) rfl (L1 := [(r0, 16, 29, .int wt_7), (r0, 16, 26, .int qn_1), (r0, 16, 30, .int pe), (r0, 16, 19, .ref xn)]) [0, 1, 2, 3] rfl rfl rfl dX14_readNumber_129 (fun H_87 locs_87 hh_87 => ?_)
              clear hh_10
              exact C132 wt_7 1 _ _ (hh_87.sub (L1 := [(r0, 16, 29, .int wt_7), (r0, 16, 31, .int 1), (r0, 16, 26, .int qn_1), (r0, 16, 30, .int pe), (r0, 16, 19, .ref xn)]) [1, 0, 2, 3, 4] rfl (M1 := [(xn, 119, 3100, ca 1, nx_1)]) [0] rfl (I1 := []) [] rfl) (by first | omega | (refine ⟨?_, ?_, ?_, ?_, ?_⟩ <;> (first | omega | rfl | assumption | decide | exact Or.inl rfl | exact Or.inr rfl | (simp only; omega)))) _ (lv_sub hl [0, 1, 2, 3, 4] rfl)
            · skip
              have c_86' : wt_7.toInt ≠ wt_6.toInt := jb_eq_n (rfl) (rfl) c_86
              refine lv_aload_n hx hb dX14_readNumber_106 rfl (lv_at hl 0 rfl) ?_
              obtain ⟨v_88, hv_88, hh_89⟩ := hh_10.pin (C := RX14) (T := TX14) (N := 74) hB16 rfl (by decide) hg_r0 (i := 9) (by decide) rfl
              clear hh_10
              obtain ⟨kept_90, rfl, hg_kept_90⟩ := hv_88
              refine j7_read hx hb hown hK (C := RX14) (T := TX14) (N := 74) rfl hly_16_9 hlk_20 (hh_89.at 0 rfl) dX14_readNumber_107 ?_
              refine lv_iload_n hx hb dX14_readNumber_110 rfl (lv_at hl 3 rfl) ?_
              refine j7_iald hx hb hK hh_89 hB110 1 rfl (by decide) hg_kept_90 (x := wt_6.toInt) (rfl) (by omega) dX14_readNumber_111 (fun z_91 (hz_91 : 0 ≤ z_91.toInt ∧ z_91.toInt ≤ 255) => ?_)
              refine lv_bipush (v := 48) hx hb dX14_readNumber_112 (by decide) ?_
              refine lv_icmp_ne (tgt := 132) hx hb dX14_readNumber_114 (by decide) (fun c_92 => ?_) (fun c_92 => ?_)
              · skip
                have c_92' : z_91.toInt ≠ 48 := jb_ne (rfl) ((by decide)) c_92
                obtain ⟨v_93, hv_93, hh_94⟩ := hh_89.pin (C := RX14) (T := TX14) (N := 74) hB16 rfl (by decide) hg_r0 (i := 31) (by decide) rfl
                obtain ⟨bad_95, rfl, hzbad_95⟩ := hv_93
                have hzbad_95' := jb_01 hzbad_95
                exact C132 wt_7 bad_95 _ _ (hh_94.sub (L1 := [(r0, 16, 29, .int wt_7), (r0, 16, 31, .int bad_95), (r0, 16, 26, .int qn_1), (r0, 16, 30, .int pe), (r0, 16, 19, .ref xn)]) [2, 0, 3, 4, 5] rfl (M1 := [(xn, 119, 3100, ca 1, nx_1)]) [0] rfl (I1 := []) [] rfl) (by first | omega | (refine ⟨?_, ?_, ?_, ?_, ?_⟩ <;> (first | omega | rfl | assumption | decide | exact Or.inl rfl | exact Or.inr rfl | (simp only; omega)))) _ (lv_sub hl [0, 1, 2, 3, 4] rfl)
              · skip
                have c_92' : z_91.toInt = 48 := jb_ne_n (rfl) ((by decide)) c_92
                refine lv_aload_n hx hb dX14_readNumber_117 rfl (lv_at hl 0 rfl) ?_
                refine j7_read hx hb hown hK (C := RX14) (T := TX14) (N := 74) rfl hly_16_29 hlk_273 (hh_89.at 1 rfl) dX14_readNumber_118 ?_
                refine lv_iload_n hx hb dX14_readNumber_121 rfl (lv_at hl 3 rfl) ?_
                refine lv_isub hx hb dX14_readNumber_122 ?_
                refine lv_topi (fun z_96 ez_96 => ?_)
                have hz_96 : z_96.toInt = wt_7.toInt - wt_6.toInt := by rw [ez_96]; exact jb_isub2 (rfl) (rfl) (by omega)
                refine lv_iconst (v := 1) hx hb dX14_readNumber_123 (by decide) ?_
                refine lv_icmp_le (tgt := 132) hx hb dX14_readNumber_124 (by decide) (fun c_97 => ?_) (fun c_97 => ?_)
                · skip
                  have c_97' : z_96.toInt ≤ 1 := jb_le (rfl) ((by decide)) c_97
                  obtain ⟨v_98, hv_98, hh_99⟩ := hh_89.pin (C := RX14) (T := TX14) (N := 74) hB16 rfl (by decide) hg_r0 (i := 31) (by decide) rfl
                  obtain ⟨bad_100, rfl, hzbad_100⟩ := hv_98
                  have hzbad_100' := jb_01 hzbad_100
                  exact C132 wt_7 bad_100 _ _ (hh_99.sub (L1 := [(r0, 16, 29, .int wt_7), (r0, 16, 31, .int bad_100), (r0, 16, 26, .int qn_1), (r0, 16, 30, .int pe), (r0, 16, 19, .ref xn)]) [2, 0, 3, 4, 5] rfl (M1 := [(xn, 119, 3100, ca 1, nx_1)]) [0] rfl (I1 := []) [] rfl) (by first | omega | (refine ⟨?_, ?_, ?_, ?_, ?_⟩ <;> (first | omega | rfl | assumption | decide | exact Or.inl rfl | exact Or.inr rfl | (simp only; omega)))) _ (lv_sub hl [0, 1, 2, 3, 4] rfl)
                · skip
                  have c_97' : z_96.toInt > 1 := jb_le_n (rfl) ((by decide)) c_97
                  refine lv_aload_n hx hb dX14_readNumber_127 rfl (lv_at hl 0 rfl) ?_
                  refine lv_iconst (v := 1) hx hb dX14_readNumber_128 (by decide) ?_
                  refine j7_put hx hb hown hK hh_89 hB hAp hB16 (C := RX14) (T := TX14) (N := 74) rfl (by decide) hg_r0 (i := 31) (by decide) hly_16_31 rfl hlk_288 rfl (ty := .boolean) (v := .int 1) (by decide +kernel) (jb_nz (Or.inr rfl)) (jb_fz (Or.inr rfl)) (⟨_, rfl, (Or.inr rfl)⟩) rfl (L1 := [(r0, 16, 9, .ref kept_90), (r0, 16, 29, .int wt_7), (r0, 16, 26, .int qn_1), (r0, 16, 30, .int pe), (r0, 16, 19, .ref xn)]) [0, 1, 2, 3, 4] rfl rfl rfl dX14_readNumber_129 (fun H_101 locs_101 hh_101 => ?_)
                  clear hh_89
                  exact C132 wt_7 1 _ _ (hh_101.sub (L1 := [(r0, 16, 29, .int wt_7), (r0, 16, 31, .int 1), (r0, 16, 26, .int qn_1), (r0, 16, 30, .int pe), (r0, 16, 19, .ref xn)]) [2, 0, 3, 4, 5] rfl (M1 := [(xn, 119, 3100, ca 1, nx_1)]) [0] rfl (I1 := []) [] rfl) (by first | omega | (refine ⟨?_, ?_, ?_, ?_, ?_⟩ <;> (first | omega | rfl | assumption | decide | exact Or.inl rfl | exact Or.inr rfl | (simp only; omega)))) _ (lv_sub hl [0, 1, 2, 3, 4] rfl)
          · skip
            have c_12' : r_11.toInt ≠ 0 := jb_eq_n (rfl) ((by decide)) c_12
            first | (have hr_9_2q := hr_9_2.resolve_left (by omega); clear hr_9_2) | (have hr_9_2q := hr_9_2.resolve_right (by omega); clear hr_9_2) | try clear hr_9_2
            refine lv_lload hx hb dX14_readNumber_53 (lv_at hl 4 rfl) ?_
            refine lv_ldc2 hx hb hown (htw (.constantLong RX14 320 99999999999) (jWr_52 _ (List.mem_of_getElem? (i := 23) rfl))) dX14_readNumber_55 ?_
            refine W.lcmp hx hb dX14_readNumber_58 ?_
            refine lv_topi (fun z_102 ez_102 => ?_)
            have hz_102 := jb_lcmp ez_102
            have hqz_102_99999999999 : (99999999999 : Int64).toInt = 99999999999 := by decide
            refine lv_if_le (tgt := 67) hx hb dX14_readNumber_59 (by decide) (fun c_103 => ?_) (fun c_103 => ?_)
            · skip
              have c_103' : z_102.toInt ≤ 0 := jb_le (rfl) ((by decide)) c_103
              refine lv_ldc2 hx hb hown (htw (.constantLong RX14 322 10) (jWr_53 _ (List.mem_of_getElem? (i := 0) rfl))) dX14_readNumber_67 ?_
              refine lv_lload hx hb dX14_readNumber_70 (lv_at hl 4 rfl) ?_
              refine lv_lmul hx hb dX14_readNumber_72 ?_
              refine lv_topl (fun z_104 ez_104 => ?_)
              refine lv_aload_n hx hb dX14_readNumber_73 rfl (lv_at hl 0 rfl) ?_
              refine va_calli (A0 := jA base) (H0 := s.heap) (va_runV (As := []) (rest := [.long z_104]) ⟨hx, hb, hml, hown, hts⟩ (uX14_here l dC dI ca base B hB hAp hB16 hB110 G0 H_10 r0 wt_7 pe) (cwV 0 hts (jgV (jWr_50 _ (List.mem_of_getElem? (i := 20) rfl)) (jWr_50 _ (List.mem_of_getElem? (i := 21) rfl)) (jWr_50 _ (List.mem_of_getElem? (i := 22) rfl)) (jWr_1 _ (List.mem_of_getElem? (i := 5) rfl)) (jWr_50 _ (List.mem_of_getElem? (i := 23) rfl))) rfl rfl rfl (by decide +kernel) ⟨by rw [← hR]; exact Nat.le_of_ble_eq_true rfl, by rw [← hR]; exact Nat.le_of_ble_eq_true rfl⟩) ⟨fun a U g mk q => by obtain ⟨q0, q1, q2, qK, q10, q11, q12⟩ := q; exact ⟨q0, q1, q2, jG.calling g mk a qK, q10, q11, q12⟩, hh_10.recv (C := RX14) (T := TX14) (N := 74) hB16 rfl (by decide) hg_r0 hK, fun U hU hW => ⟨rfl, hU, hh_10.2.1, hG.step hW hU hh_10.1, hg_r0, (hh_10.2.2.1.sub (L1 := [(r0, 16, 29, .int wt_7), (r0, 16, 30, .int pe)]) [0, 2] rfl), by first | omega | (refine ⟨?_, ?_, ?_, ?_⟩ <;> (first | omega | rfl | assumption | decide | exact Or.inl rfl | exact Or.inr rfl | (simp only; omega)))⟩⟩ rfl rfl hl.1 rfl (lv_room (Nat.le_of_ble_eq_true rfl)) dX14_readNumber_74 ⟨Nat.zero_le _, Nat.zero_le _⟩) hh_10.1 (fun q _ h => h) (fun q h => h) (fun r_106 u_105 t_105 H_105 locs_105 ht_105 hvm_105 hr_106 hb_105 hz_105 hk_105 hS_105 => ?_)
              rw [ht_105] at hb_105
              obtain ⟨hb_1051, hb_1052, hb_1053, hb_1054, hb_1055⟩ := hb_105
              have hh_105 : jSt (dC, dI) B base G0 G0 EX14_readNumberN s.heap 0 0 [(r0, 16, 29, .int wt_7), (r0, 16, 26, .int qn_1), (r0, 16, 30, .int pe), (r0, 16, 19, .ref xn)] [(xn, 119, 3100, ca 1, nx_1)] [] H_105 locs_105 := ((hh_10.call hb_1051 hb_1052 hb_1053 hb_1054 hS_105 rfl (L1 := [(r0, 16, 29, .int wt_7), (r0, 16, 26, .int qn_1), (r0, 16, 30, .int pe), (r0, 16, 19, .ref xn)]) [0, 1, 2, 3] rfl rfl (M1 := [(xn, 119, 3100, ca 1, nx_1)]) [0] rfl rfl (I1 := []) [] rfl rfl).more hb_1055)
              clear hh_10 ht_105 hvm_105 hz_105 hk_105 hS_105 hb_1051 hb_1052 hb_1053 hb_1054 hb_1055
              obtain ⟨hr_106_0, hr_106_1, hr_106_2⟩ := hr_106
              refine lv_i2l hx hb dX14_readNumber_77 rfl ?_
              refine lv_topl (fun z_107 ez_107 => ?_)
              refine lv_ladd hx hb dX14_readNumber_78 ?_
              refine lv_topl (fun z_108 ez_108 => ?_)
              refine lv_ldc2 hx hb hown (htw (.constantLong RX14 324 48) (jWr_53 _ (List.mem_of_getElem? (i := 1) rfl))) dX14_readNumber_79 ?_
              refine lv_lsub hx hb dX14_readNumber_82 ?_
              refine lv_topl (fun z_109 ez_109 => ?_)
              refine lv_lstore (lv' := [(4, .long z_109), (0, .ref r0), (1, .int r_2), (2, .int 0), (3, .int wt_6)]) hx hb dX14_readNumber_83 hl (by decide) rfl (fun ls hl => ?_)
              refine lv_aload_n hx hb dX14_readNumber_85 rfl (lv_at hl 1 rfl) ?_
              refine lv_dup hx hb dX14_readNumber_86 rfl ?_
              refine j7_read hx hb hown hK (C := RX14) (T := TX14) (N := 74) rfl hly_16_29 hlk_273 (hh_105.at 0 rfl) dX14_readNumber_87 ?_
              refine lv_iconst (v := 1) hx hb dX14_readNumber_90 (by decide) ?_
              refine lv_iadd hx hb dX14_readNumber_91 ?_
              refine lv_topi (fun z_110 ez_110 => ?_)
              have hz_110 : z_110.toInt = wt_7.toInt + 1 := by rw [ez_110]; exact jb_iadd2 (rfl) ((by decide)) (by omega)
              refine j7_put hx hb hown hK hh_105 hB hAp hB16 (C := RX14) (T := TX14) (N := 74) rfl (by decide) hg_r0 (i := 29) (by decide) hly_16_29 rfl hlk_273 rfl (ty := .int) (v := .int z_110) (by decide +kernel) rfl rfl (⟨_, rfl, by omega, by omega⟩) rfl (L1 := [(r0, 16, 26, .int qn_1), (r0, 16, 30, .int pe), (r0, 16, 19, .ref xn)]) [1, 2, 3] rfl rfl rfl dX14_readNumber_92 (fun H_111 locs_111 hh_111 => ?_)
              clear hh_105
              refine lv_goto (tgt := 43) hx hb dX14_readNumber_95 (by decide) ?_
              exact L43 z_109 z_110 _ _ hh_111 (by first | omega | (refine ⟨?_, ?_⟩ <;> (first | omega | rfl | assumption | decide | exact Or.inl rfl | exact Or.inr rfl | (simp only; omega)))) (by omega) _ (lv_sub hl [1, 2, 3, 4, 0] rfl)
            · skip
              have c_103' : z_102.toInt > 0 := jb_le_n (rfl) ((by decide)) c_103
              refine lv_lload hx hb dX14_readNumber_62 (lv_at hl 4 rfl) ?_
              refine lv_goto (tgt := 83) hx hb dX14_readNumber_64 (by decide) ?_
              refine lv_lstore (lv' := [(4, .long v4_7), (0, .ref r0), (1, .int r_2), (2, .int 0), (3, .int wt_6)]) hx hb dX14_readNumber_83 hl (by decide) rfl (fun ls hl => ?_)
              refine lv_aload_n hx hb dX14_readNumber_85 rfl (lv_at hl 1 rfl) ?_
              refine lv_dup hx hb dX14_readNumber_86 rfl ?_
              refine j7_read hx hb hown hK (C := RX14) (T := TX14) (N := 74) rfl hly_16_29 hlk_273 (hh_10.at 0 rfl) dX14_readNumber_87 ?_
              refine lv_iconst (v := 1) hx hb dX14_readNumber_90 (by decide) ?_
              refine lv_iadd hx hb dX14_readNumber_91 ?_
              refine lv_topi (fun z_112 ez_112 => ?_)
              have hz_112 : z_112.toInt = wt_7.toInt + 1 := by rw [ez_112]; exact jb_iadd2 (rfl) ((by decide)) (by omega)
              refine j7_put hx hb hown hK hh_10 hB hAp hB16 (C := RX14) (T := TX14) (N := 74) rfl (by decide) hg_r0 (i := 29) (by decide) hly_16_29 rfl hlk_273 rfl (ty := .int) (v := .int z_112) (by decide +kernel) rfl rfl (⟨_, rfl, by omega, by omega⟩) rfl (L1 := [(r0, 16, 26, .int qn_1), (r0, 16, 30, .int pe), (r0, 16, 19, .ref xn)]) [1, 2, 3] rfl rfl rfl dX14_readNumber_92 (fun H_113 locs_113 hh_113 => ?_)
              clear hh_10
              refine lv_goto (tgt := 43) hx hb dX14_readNumber_95 (by decide) ?_
              exact L43 v4_7 z_112 _ _ hh_113 (by first | omega | (refine ⟨?_, ?_⟩ <;> (first | omega | rfl | assumption | decide | exact Or.inl rfl | exact Or.inr rfl | (simp only; omega)))) (by omega) _ (lv_sub hl [1, 2, 3, 4, 0] rfl)
      exact L43 (pe.toInt - (wt_6 : Int32).toInt : Int).toNat.succ 0 wt_6 _ _ hh_6 (by first | omega | (refine ⟨?_, ?_⟩ <;> (first | omega | rfl | assumption | decide | exact Or.inl rfl | exact Or.inr rfl | (simp only; omega)))) (by omega) _ (lv_sub hl [2, 3, 4, 1, 0] rfl)
    refine lv_if_eq (tgt := 35) hx hb dX14_readNumber_22 (by decide) (fun c_114 => ?_) (fun c_114 => ?_)
    · skip
      exact C35 pt _ _ (hh_3.sub (L1 := [(r0, 16, 29, .int pt), (r0, 16, 26, .int qn_1), (r0, 16, 30, .int pe), (r0, 16, 19, .ref xn)]) [1, 0, 2, 3] rfl (M1 := [(xn, 119, 3100, ca 1, nx_1)]) [0] rfl (I1 := []) [] rfl) (by first | omega | (refine ⟨?_, ?_⟩ <;> (first | omega | rfl | assumption | decide | exact Or.inl rfl | exact Or.inr rfl | (simp only; omega)))) _ (lv_sub hl [2, 1, 0] rfl)
    · skip
      exact absurd c_114 (by decide)
  · skip
    have c_5' : r_4.toInt = 45 := jb_ne_n (rfl) ((by decide)) c_5
    first | (have hr_4_2q := hr_4_2.resolve_left (by omega); clear hr_4_2) | (have hr_4_2q := hr_4_2.resolve_right (by omega); clear hr_4_2) | try clear hr_4_2
    refine lv_iconst (v := 1) hx hb dX14_readNumber_15 (by decide) ?_
    refine lv_goto (tgt := 20) hx hb dX14_readNumber_16 (by decide) ?_
    refine lv_istore_n (lv' := [(2, .int 1), (1, .int r_2), (0, .ref r0)]) hx hb dX14_readNumber_20 rfl hl (by decide) rfl (fun ls hl => ?_)
    refine lv_iload_n hx hb dX14_readNumber_21 rfl (lv_at hl 0 rfl) ?_
    have C35 : ∀ (wt_115 : Int32) (H_115 : Heap) (locs_115 : List Loc), jSt (dC, dI) B base G0 G0 EX14_readNumberN s.heap 0 0 [(r0, 16, 29, .int wt_115), (r0, 16, 26, .int qn_1), (r0, 16, 30, .int pe), (r0, 16, 19, .ref xn)] [(xn, 119, 3100, ca 1, nx_1)] [] H_115 locs_115 → (pt.toInt ≤ wt_115.toInt ∧ wt_115.toInt ≤ pe.toInt) → ∀ ls : Array Slot, lv_has ls 9 [(0, .ref r0), (1, .int r_2), (2, .int 1)] → W p l e R s m ([.ref r0] : List Value).toArray below meth c H_115 locs_115 0 0 Q (F0 m 35 ls []) := by
      intro wt_115 H_115 locs_115 hh_115  hi_115 ls hl
      obtain ⟨hi_115_0, hi_115_1⟩ := hi_115
      refine lv_aload_n hx hb dX14_readNumber_35 rfl (lv_at hl 0 rfl) ?_
      refine j7_read hx hb hown hK (C := RX14) (T := TX14) (N := 74) rfl hly_16_29 hlk_273 (hh_115.at 0 rfl) dX14_readNumber_36 ?_
      refine lv_istore_n (lv' := [(3, .int wt_115), (0, .ref r0), (1, .int r_2), (2, .int 1)]) hx hb dX14_readNumber_39 rfl hl (by decide) rfl (fun ls hl => ?_)
      refine lv_lconst (v := 0) hx hb dX14_readNumber_40 (by decide) ?_
      refine lv_lstore (lv' := [(4, .long 0), (3, .int wt_115), (0, .ref r0), (1, .int r_2), (2, .int 1)]) hx hb dX14_readNumber_41 hl (by decide) rfl (fun ls hl => ?_)
      have L43 : ∀ (N : Nat) (v4_116 : Int64) (wt_116 : Int32) (H_116 : Heap) (locs_116 : List Loc), jSt (dC, dI) B base G0 G0 EX14_readNumberN s.heap 0 0 [(r0, 16, 29, .int wt_116), (r0, 16, 26, .int qn_1), (r0, 16, 30, .int pe), (r0, 16, 19, .ref xn)] [(xn, 119, 3100, ca 1, nx_1)] [] H_116 locs_116 → (wt_115.toInt ≤ wt_116.toInt ∧ wt_116.toInt ≤ pe.toInt) → (pe.toInt - wt_116.toInt : Int) < N → ∀ ls : Array Slot, lv_has ls 9 [(0, .ref r0), (1, .int r_2), (2, .int 1), (3, .int wt_115), (4, .long v4_116)] → W p l e R s m ([.ref r0] : List Value).toArray below meth c H_116 locs_116 0 0 Q (F0 m 43 ls []) := by
        intro N
        induction N with
        | zero => intro v4_116 wt_116 H_116 locs_116 hh_116  hi_116 hm; exact absurd hm (by omega)
        | succ N L43 =>
          intro v4_116 wt_116 H_116 locs_116 hh_116  hi_116 hm_116 ls hl
          obtain ⟨hi_116_0, hi_116_1⟩ := hi_116
          refine lv_aload_n hx hb dX14_readNumber_43 rfl (lv_at hl 0 rfl) ?_
          refine va_calli (A0 := jA base) (H0 := s.heap) (va_runV (As := []) (rest := []) ⟨hx, hb, hml, hown, hts⟩ (uX14_here l dC dI ca base B hB hAp hB16 hB110 G0 H_116 r0 wt_116 pe) (cwV 0 hts (jgV (jWr_50 _ (List.mem_of_getElem? (i := 20) rfl)) (jWr_50 _ (List.mem_of_getElem? (i := 21) rfl)) (jWr_50 _ (List.mem_of_getElem? (i := 22) rfl)) (jWr_1 _ (List.mem_of_getElem? (i := 5) rfl)) (jWr_50 _ (List.mem_of_getElem? (i := 23) rfl))) rfl rfl rfl (by decide +kernel) ⟨by rw [← hR]; exact Nat.le_of_ble_eq_true rfl, by rw [← hR]; exact Nat.le_of_ble_eq_true rfl⟩) ⟨fun a U g mk q => by obtain ⟨q0, q1, q2, qK, q10, q11, q12⟩ := q; exact ⟨q0, q1, q2, jG.calling g mk a qK, q10, q11, q12⟩, hh_116.recv (C := RX14) (T := TX14) (N := 74) hB16 rfl (by decide) hg_r0 hK, fun U hU hW => ⟨rfl, hU, hh_116.2.1, hG.step hW hU hh_116.1, hg_r0, (hh_116.2.2.1.sub (L1 := [(r0, 16, 29, .int wt_116), (r0, 16, 30, .int pe)]) [0, 2] rfl), by first | omega | (refine ⟨?_, ?_, ?_, ?_⟩ <;> (first | omega | rfl | assumption | decide | exact Or.inl rfl | exact Or.inr rfl | (simp only; omega)))⟩⟩ rfl rfl hl.1 rfl (lv_room (Nat.le_of_ble_eq_true rfl)) dX14_readNumber_44 ⟨Nat.zero_le _, Nat.zero_le _⟩) hh_116.1 (fun q _ h => h) (fun q h => h) (fun r_118 u_117 t_117 H_117 locs_117 ht_117 hvm_117 hr_118 hb_117 hz_117 hk_117 hS_117 => ?_)
          rw [ht_117] at hb_117
          obtain ⟨hb_1171, hb_1172, hb_1173, hb_1174, hb_1175⟩ := hb_117
          have hh_117 : jSt (dC, dI) B base G0 G0 EX14_readNumberN s.heap 0 0 [(r0, 16, 29, .int wt_116), (r0, 16, 26, .int qn_1), (r0, 16, 30, .int pe), (r0, 16, 19, .ref xn)] [(xn, 119, 3100, ca 1, nx_1)] [] H_117 locs_117 := ((hh_116.call hb_1171 hb_1172 hb_1173 hb_1174 hS_117 rfl (L1 := [(r0, 16, 29, .int wt_116), (r0, 16, 26, .int qn_1), (r0, 16, 30, .int pe), (r0, 16, 19, .ref xn)]) [0, 1, 2, 3] rfl rfl (M1 := [(xn, 119, 3100, ca 1, nx_1)]) [0] rfl rfl (I1 := []) [] rfl rfl).more hb_1175)
          clear hh_116 ht_117 hvm_117 hz_117 hk_117 hS_117 hb_1171 hb_1172 hb_1173 hb_1174 hb_1175
          obtain ⟨hr_118_0, hr_118_1, hr_118_2⟩ := hr_118
          refine va_calli (A0 := jA base) (H0 := s.heap) (va_runS (As := [.int r_118]) (rest := []) ⟨hx, hb, hml, hown, hts⟩ (uX14_isDigit l dC dI ca base B hB hAp G0 H_117 r_118) (va_cwS 1 hts (jgS (jWr_49 _ (List.mem_of_getElem? (i := 18) rfl)) (jWr_49 _ (List.mem_of_getElem? (i := 19) rfl)) (jWr_1 _ (List.mem_of_getElem? (i := 5) rfl)) (jWr_49 _ (List.mem_of_getElem? (i := 20) rfl))) rfl rfl rfl (by decide +kernel) ⟨by rw [← hR]; exact Nat.le_of_ble_eq_true rfl, by rw [← hR]; exact Nat.le_of_ble_eq_true rfl⟩) ⟨fun a U g mk q => by obtain ⟨q0, q1, q2, qK, q10, q11⟩ := q; exact ⟨q0, q1, q2, jG.calling g mk a qK, q10, q11⟩, fun U hU hW => ⟨rfl, hU, hh_117.2.1, hG.step hW hU hh_117.1, jP.nil, trivial⟩⟩ rfl rfl hl.1 rfl (lv_room (Nat.le_of_ble_eq_true rfl)) dX14_readNumber_47 ⟨Nat.zero_le _, Nat.zero_le _⟩) hh_117.1 (fun q _ h => h) (fun q h => h) (fun r_120 u_119 t_119 H_119 locs_119 ht_119 hvm_119 hr_120 hb_119 hz_119 hk_119 hS_119 => ?_)
          rw [ht_119] at hb_119
          obtain ⟨hb_1191, hb_1192, hb_1193, hb_1194, hb_1195⟩ := hb_119
          have hh_119 : jSt (dC, dI) B base G0 G0 EX14_readNumberN s.heap 0 0 [(r0, 16, 29, .int wt_116), (r0, 16, 26, .int qn_1), (r0, 16, 30, .int pe), (r0, 16, 19, .ref xn)] [(xn, 119, 3100, ca 1, nx_1)] [] H_119 locs_119 := ((hh_117.call hb_1191 hb_1192 hb_1193 hb_1194 hS_119 rfl (L1 := [(r0, 16, 29, .int wt_116), (r0, 16, 26, .int qn_1), (r0, 16, 30, .int pe), (r0, 16, 19, .ref xn)]) [0, 1, 2, 3] rfl rfl (M1 := [(xn, 119, 3100, ca 1, nx_1)]) [0] rfl rfl (I1 := []) [] rfl rfl).more hb_1195)
          clear hh_117 ht_119 hvm_119 hz_119 hk_119 hS_119 hb_1191 hb_1192 hb_1193 hb_1194 hb_1195
          obtain ⟨hr_120b, hr_120p⟩ := hr_120
          obtain ⟨hr_120p_0, hr_120p_1⟩ := hr_120p
          have hr_120' := jb_01 hr_120b
          refine lv_if_eq (tgt := 98) hx hb dX14_readNumber_50 (by decide) (fun c_121 => ?_) (fun c_121 => ?_)
          · skip
            have c_121' : r_120.toInt = 0 := jb_eq (rfl) ((by decide)) c_121
            first | (have hr_118_2q := hr_118_2.resolve_left (by omega); clear hr_118_2) | (have hr_118_2q := hr_118_2.resolve_right (by omega); clear hr_118_2) | try clear hr_118_2
            refine lv_aload_n hx hb dX14_readNumber_98 rfl (lv_at hl 0 rfl) ?_
            refine j7_read hx hb hown hK (C := RX14) (T := TX14) (N := 74) rfl hly_16_29 hlk_273 (hh_119.at 0 rfl) dX14_readNumber_99 ?_
            refine lv_iload_n hx hb dX14_readNumber_102 rfl (lv_at hl 3 rfl) ?_
            have C132 : ∀ (wt_122 : Int32) (wb_122 : Int32) (H_122 : Heap) (locs_122 : List Loc), jSt (dC, dI) B base G0 G0 EX14_readNumberN s.heap 0 0 [(r0, 16, 29, .int wt_122), (r0, 16, 31, .int wb_122), (r0, 16, 26, .int qn_1), (r0, 16, 30, .int pe), (r0, 16, 19, .ref xn)] [(xn, 119, 3100, ca 1, nx_1)] [] H_122 locs_122 → (pt.toInt ≤ wt_122.toInt ∧ wt_122.toInt ≤ pe.toInt ∧ (wb_122.toInt = 1 ∨ pt.toInt + 1 ≤ wt_122.toInt) ∧ 0 ≤ wb_122.toInt ∧ wb_122.toInt ≤ 1) → ∀ ls : Array Slot, lv_has ls 9 [(0, .ref r0), (1, .int r_2), (2, .int 1), (3, .int wt_115), (4, .long v4_116)] → W p l e R s m ([.ref r0] : List Value).toArray below meth c H_122 locs_122 0 0 Q (F0 m 132 ls []) := by
              intro wt_122 wb_122 H_122 locs_122 hh_122  hi_122 ls hl
              obtain ⟨hi_122_0, hi_122_1, hi_122_2, hi_122_3, hi_122_4⟩ := hi_122
              refine lv_iconst (v := 1) hx hb dX14_readNumber_132 (by decide) ?_
              refine lv_istore (lv' := [(6, .int 1), (0, .ref r0), (1, .int r_2), (2, .int 1), (3, .int wt_115), (4, .long v4_116)]) hx hb dX14_readNumber_133 hl (by decide) rfl (fun ls hl => ?_)
              refine lv_aload_n hx hb dX14_readNumber_135 rfl (lv_at hl 1 rfl) ?_
              refine j7_read hx hb hown hK (C := RX14) (T := TX14) (N := 74) rfl hly_16_31 hlk_288 (hh_122.at 1 rfl) dX14_readNumber_136 ?_
              have C168 : ∀ (v6_123 : Int32) (wt_123 : Int32) (wb_123 : Int32) (H_123 : Heap) (locs_123 : List Loc), jSt (dC, dI) B base G0 G0 EX14_readNumberN s.heap 0 0 [(r0, 16, 29, .int wt_123), (r0, 16, 31, .int wb_123), (r0, 16, 26, .int qn_1), (r0, 16, 30, .int pe), (r0, 16, 19, .ref xn)] [(xn, 119, 3100, ca 1, nx_1)] [] H_123 locs_123 → (v6_123 = 0 ∨ v6_123 = 1) → (pt.toInt ≤ wt_123.toInt ∧ wt_123.toInt ≤ pe.toInt ∧ (wb_123.toInt = 1 ∨ pt.toInt + 1 ≤ wt_123.toInt) ∧ 0 ≤ wb_123.toInt ∧ wb_123.toInt ≤ 1) → ∀ ls : Array Slot, lv_has ls 9 [(0, .ref r0), (1, .int r_2), (2, .int 1), (3, .int wt_115), (4, .long v4_116), (6, .int v6_123)] → W p l e R s m ([.ref r0] : List Value).toArray below meth c H_123 locs_123 0 0 Q (F0 m 168 ls []) := by
                intro v6_123 wt_123 wb_123 H_123 locs_123 hh_123 hb_v6_123 hi_123 ls hl
                obtain ⟨hi_123_0, hi_123_1, hi_123_2, hi_123_3, hi_123_4⟩ := hi_123
                have hb_v6_123' := jb_01 hb_v6_123
                refine lv_aload_n hx hb dX14_readNumber_168 rfl (lv_at hl 0 rfl) ?_
                refine j7_read hx hb hown hK (C := RX14) (T := TX14) (N := 74) rfl hly_16_31 hlk_288 (hh_123.at 1 rfl) dX14_readNumber_169 ?_
                have C238 : ∀ (v6_124 : Int32) (wt_124 : Int32) (wb_124 : Int32) (H_124 : Heap) (locs_124 : List Loc), jSt (dC, dI) B base G0 G0 EX14_readNumberN s.heap 0 0 [(r0, 16, 29, .int wt_124), (r0, 16, 31, .int wb_124), (r0, 16, 26, .int qn_1), (r0, 16, 30, .int pe), (r0, 16, 19, .ref xn)] [(xn, 119, 3100, ca 1, nx_1)] [] H_124 locs_124 → (v6_124 = 0 ∨ v6_124 = 1) → (pt.toInt ≤ wt_124.toInt ∧ wt_124.toInt ≤ pe.toInt ∧ (wb_124.toInt = 1 ∨ pt.toInt + 1 ≤ wt_124.toInt) ∧ 0 ≤ wb_124.toInt ∧ wb_124.toInt ≤ 1) → ∀ ls : Array Slot, lv_has ls 9 [(0, .ref r0), (1, .int r_2), (2, .int 1), (3, .int wt_115), (4, .long v4_116), (6, .int v6_124)] → W p l e R s m ([.ref r0] : List Value).toArray below meth c H_124 locs_124 0 0 Q (F0 m 238 ls []) := by
                  intro v6_124 wt_124 wb_124 H_124 locs_124 hh_124 hb_v6_124 hi_124 ls hl
                  obtain ⟨hi_124_0, hi_124_1, hi_124_2, hi_124_3, hi_124_4⟩ := hi_124
                  have hb_v6_124' := jb_01 hb_v6_124
                  refine lv_iload_n hx hb dX14_readNumber_238 rfl (lv_at hl 2 rfl) ?_
                  refine lv_if_eq (tgt := 248) hx hb dX14_readNumber_239 (by decide) (fun c_125 => ?_) (fun c_125 => ?_)
                  · skip
                    exact absurd c_125 (by decide)
                  · skip
                    refine lv_lload hx hb dX14_readNumber_242 (lv_at hl 4 rfl) ?_
                    refine lv_lneg hx hb dX14_readNumber_244 ?_
                    refine lv_topl (fun z_126 ez_126 => ?_)
                    refine lv_goto (tgt := 250) hx hb dX14_readNumber_245 (by decide) ?_
                    refine lv_lstore (lv' := [(7, .long z_126), (0, .ref r0), (1, .int r_2), (2, .int 1), (3, .int wt_115), (4, .long v4_116), (6, .int v6_124)]) hx hb dX14_readNumber_250 hl (by decide) rfl (fun ls hl => ?_)
                    refine lv_aload_n hx hb dX14_readNumber_252 rfl (lv_at hl 1 rfl) ?_
                    obtain ⟨v_127, hv_127, hh_128⟩ := hh_124.pin (C := RX14) (T := TX14) (N := 74) hB16 rfl (by decide) hg_r0 (i := 24) (by decide) rfl
                    clear hh_124
                    obtain ⟨isInt_129, rfl, hg_isInt_129⟩ := hv_127
                    refine j7_read hx hb hown hK (C := RX14) (T := TX14) (N := 74) rfl hly_16_24 hlk_58 (hh_128.at 0 rfl) dX14_readNumber_253 ?_
                    refine lv_iload_n hx hb dX14_readNumber_256 rfl (lv_at hl 2 rfl) ?_
                    refine lv_iload hx hb dX14_readNumber_257 (lv_at hl 6 rfl) ?_
                    have C285 : ∀ (w0_130 : Int32) (H_130 : Heap) (locs_130 : List Loc), jSt (dC, dI) B base G0 G0 EX14_readNumberN s.heap 0 0 [(r0, 16, 24, .ref isInt_129), (r0, 16, 29, .int wt_124), (r0, 16, 31, .int wb_124), (r0, 16, 26, .int qn_1), (r0, 16, 30, .int pe), (r0, 16, 19, .ref xn)] [(xn, 119, 3100, ca 1, nx_1)] [] H_130 locs_130 → (w0_130 = 0 ∨ w0_130 = 1) → (True) → ∀ ls : Array Slot, lv_has ls 9 [(0, .ref r0), (1, .int r_2), (2, .int 1), (3, .int wt_115), (4, .long v4_116), (6, .int v6_124), (7, .long z_126)] → W p l e R s m ([.ref r0] : List Value).toArray below meth c H_130 locs_130 0 0 Q (F0 m 285 ls [.int w0_130, .int r_2, .ref isInt_129]) := by
                      intro w0_130 H_130 locs_130 hh_130 hb_w0_130 hi_130 ls hl
                      have hb_w0_130' := jb_01 hb_w0_130
                      refine j7_zast hx hb hK hh_130 hB hB124 3 rfl (by decide) (by decide) rfl rfl rfl hg_isInt_129 (x := r_2.toInt) (rfl) (by omega) (hb_w0_130) (hb_w0_130) dX14_readNumber_285 (fun H_131 locs_131 hh_131 => ?_)
                      clear hh_130
                      refine lv_aload_n hx hb dX14_readNumber_286 rfl (lv_at hl 0 rfl) ?_
                      obtain ⟨v_132, hv_132, hh_133⟩ := hh_131.pin (C := RX14) (T := TX14) (N := 74) hB16 rfl (by decide) hg_r0 (i := 25) (by decide) rfl
                      clear hh_131
                      obtain ⟨ints_134, rfl, hg_ints_134⟩ := hv_132
                      refine j7_read hx hb hown hK (C := RX14) (T := TX14) (N := 74) rfl hly_16_25 hlk_62 (hh_133.at 0 rfl) dX14_readNumber_287 ?_
                      refine lv_iload_n hx hb dX14_readNumber_290 rfl (lv_at hl 1 rfl) ?_
                      refine lv_lload hx hb dX14_readNumber_291 (lv_at hl 6 rfl) ?_
                      refine lv_l2i hx hb dX14_readNumber_293 rfl ?_
                      refine lv_topi (fun z_135 ez_135 => ?_)
                      refine j7_iast hx hb hK hh_133 hB hB125 1 rfl (by decide) (by decide) rfl rfl rfl hg_ints_134 (x := r_2.toInt) (rfl) (by omega) (trivial) dX14_readNumber_294 (fun H_136 locs_136 hh_136 => ?_)
                      clear hh_133
                      refine lv_iload_n hx hb dX14_readNumber_295 rfl (lv_at hl 1 rfl) ?_
                      rw [hQ]
                      exact W.iret (v := r_2) hx hb hr (fun t ht hW => ⟨⟨r_2, (wt_124, qn_1, wb_124, nx_1), rfl, by (try dsimp only); first | omega | (refine ⟨?_, ?_, ?_, ?_, ?_, ?_, ?_, ?_⟩ <;> (first | omega | rfl | assumption | decide | exact Or.inl rfl | exact Or.inr rfl | (simp only; omega))), ⟨hh_136.rt (M1 := [(r0, 16, 29, .int wt_124), (r0, 16, 26, .int qn_1), (r0, 16, 31, .int wb_124)]) [2, 4, 3] rfl ht, by rw [ht]; exact hh_136.2.2.2.2.2.2.2.1.sub [0] rfl⟩⟩, by rw [ht]; try exact hh_136.1.1, fun q h9 hq => by rw [ht]; try exact hh_136.1.2.1 q h9 hq⟩) hh_136.1.2.2 dX14_readNumber_296
                    refine lv_if_eq (tgt := 284) hx hb dX14_readNumber_259 (by decide) (fun c_137 => ?_) (fun c_137 => ?_)
                    · skip
                      have c_137' : v6_124.toInt = 0 := jb_eq (rfl) ((by decide)) c_137
                      refine lv_iconst (v := 0) hx hb dX14_readNumber_284 (by decide) ?_
                      exact C285 0 _ _ hh_128 (Or.inl rfl) (trivial) _ (lv_sub hl [1, 2, 3, 4, 5, 6, 0] rfl)
                    · skip
                      have c_137' : v6_124.toInt ≠ 0 := jb_eq_n (rfl) ((by decide)) c_137
                      refine lv_lload hx hb dX14_readNumber_262 (lv_at hl 0 rfl) ?_
                      refine lv_ldc2 hx hb hown (htw (.constantLong RX14 329 (-2147483648)) (jWr_53 _ (List.mem_of_getElem? (i := 2) rfl))) dX14_readNumber_264 ?_
                      refine W.lcmp hx hb dX14_readNumber_267 ?_
                      refine lv_topi (fun z_138 ez_138 => ?_)
                      have hz_138 := jb_lcmp ez_138
                      have hqz_138_m2147483648 : ((-2147483648) : Int64).toInt = (-2147483648) := by decide
                      refine lv_if_lt (tgt := 284) hx hb dX14_readNumber_268 (by decide) (fun c_139 => ?_) (fun c_139 => ?_)
                      · skip
                        have c_139' : z_138.toInt < 0 := jb_lt (rfl) ((by decide)) c_139
                        refine lv_iconst (v := 0) hx hb dX14_readNumber_284 (by decide) ?_
                        exact C285 0 _ _ hh_128 (Or.inl rfl) (trivial) _ (lv_sub hl [1, 2, 3, 4, 5, 6, 0] rfl)
                      · skip
                        have c_139' : z_138.toInt ≥ 0 := jb_lt_n (rfl) ((by decide)) c_139
                        refine lv_lload hx hb dX14_readNumber_271 (lv_at hl 0 rfl) ?_
                        refine lv_ldc2 hx hb hown (htw (.constantLong RX14 331 2147483647) (jWr_53 _ (List.mem_of_getElem? (i := 3) rfl))) dX14_readNumber_273 ?_
                        refine W.lcmp hx hb dX14_readNumber_276 ?_
                        refine lv_topi (fun z_140 ez_140 => ?_)
                        have hz_140 := jb_lcmp ez_140
                        have hqz_140_2147483647 : (2147483647 : Int64).toInt = 2147483647 := by decide
                        refine lv_if_gt (tgt := 284) hx hb dX14_readNumber_277 (by decide) (fun c_141 => ?_) (fun c_141 => ?_)
                        · skip
                          have c_141' : z_140.toInt > 0 := jb_gt (rfl) ((by decide)) c_141
                          refine lv_iconst (v := 0) hx hb dX14_readNumber_284 (by decide) ?_
                          exact C285 0 _ _ hh_128 (Or.inl rfl) (trivial) _ (lv_sub hl [1, 2, 3, 4, 5, 6, 0] rfl)
                        · skip
                          have c_141' : z_140.toInt ≤ 0 := jb_gt_n (rfl) ((by decide)) c_141
                          refine lv_iconst (v := 1) hx hb dX14_readNumber_280 (by decide) ?_
                          refine lv_goto (tgt := 285) hx hb dX14_readNumber_281 (by decide) ?_
                          exact C285 1 _ _ hh_128 (Or.inr rfl) (trivial) _ (lv_sub hl [1, 2, 3, 4, 5, 6, 0] rfl)
                refine lv_if_ne (tgt := 238) hx hb dX14_readNumber_172 (by decide) (fun c_142 => ?_) (fun c_142 => ?_)
                · skip
                  have c_142' : wb_123.toInt ≠ 0 := jb_ne (rfl) ((by decide)) c_142
                  exact C238 v6_123 wt_123 wb_123 _ _ hh_123 (hb_v6_123) (by first | omega | (refine ⟨?_, ?_, ?_, ?_, ?_⟩ <;> (first | omega | rfl | assumption | decide | exact Or.inl rfl | exact Or.inr rfl | (simp only; omega)))) _ (lv_sub hl [0, 1, 2, 3, 4, 5] rfl)
                · skip
                  have c_142' : wb_123.toInt = 0 := jb_ne_n (rfl) ((by decide)) c_142
                  refine lv_aload_n hx hb dX14_readNumber_175 rfl (lv_at hl 0 rfl) ?_
                  refine va_calli (A0 := jA base) (H0 := s.heap) (va_runV (As := []) (rest := []) ⟨hx, hb, hml, hown, hts⟩ (uX14_here l dC dI ca base B hB hAp hB16 hB110 G0 H_123 r0 wt_123 pe) (cwV 0 hts (jgV (jWr_50 _ (List.mem_of_getElem? (i := 20) rfl)) (jWr_50 _ (List.mem_of_getElem? (i := 21) rfl)) (jWr_50 _ (List.mem_of_getElem? (i := 22) rfl)) (jWr_1 _ (List.mem_of_getElem? (i := 5) rfl)) (jWr_50 _ (List.mem_of_getElem? (i := 23) rfl))) rfl rfl rfl (by decide +kernel) ⟨by rw [← hR]; exact Nat.le_of_ble_eq_true rfl, by rw [← hR]; exact Nat.le_of_ble_eq_true rfl⟩) ⟨fun a U g mk q => by obtain ⟨q0, q1, q2, qK, q10, q11, q12⟩ := q; exact ⟨q0, q1, q2, jG.calling g mk a qK, q10, q11, q12⟩, hh_123.recv (C := RX14) (T := TX14) (N := 74) hB16 rfl (by decide) hg_r0 hK, fun U hU hW => ⟨rfl, hU, hh_123.2.1, hG.step hW hU hh_123.1, hg_r0, (hh_123.2.2.1.sub (L1 := [(r0, 16, 29, .int wt_123), (r0, 16, 30, .int pe)]) [0, 3] rfl), by first | omega | (refine ⟨?_, ?_, ?_, ?_⟩ <;> (first | omega | rfl | assumption | decide | exact Or.inl rfl | exact Or.inr rfl | (simp only; omega)))⟩⟩ rfl rfl hl.1 rfl (lv_room (Nat.le_of_ble_eq_true rfl)) dX14_readNumber_176 ⟨Nat.zero_le _, Nat.zero_le _⟩) hh_123.1 (fun q _ h => h) (fun q h => h) (fun r_144 u_143 t_143 H_143 locs_143 ht_143 hvm_143 hr_144 hb_143 hz_143 hk_143 hS_143 => ?_)
                  rw [ht_143] at hb_143
                  obtain ⟨hb_1431, hb_1432, hb_1433, hb_1434, hb_1435⟩ := hb_143
                  have hh_143 : jSt (dC, dI) B base G0 G0 EX14_readNumberN s.heap 0 0 [(r0, 16, 29, .int wt_123), (r0, 16, 31, .int wb_123), (r0, 16, 26, .int qn_1), (r0, 16, 30, .int pe), (r0, 16, 19, .ref xn)] [(xn, 119, 3100, ca 1, nx_1)] [] H_143 locs_143 := ((hh_123.call hb_1431 hb_1432 hb_1433 hb_1434 hS_143 rfl (L1 := [(r0, 16, 29, .int wt_123), (r0, 16, 31, .int wb_123), (r0, 16, 26, .int qn_1), (r0, 16, 30, .int pe), (r0, 16, 19, .ref xn)]) [0, 1, 2, 3, 4] rfl rfl (M1 := [(xn, 119, 3100, ca 1, nx_1)]) [0] rfl rfl (I1 := []) [] rfl rfl).more hb_1435)
                  clear hh_123 ht_143 hvm_143 hz_143 hk_143 hS_143 hb_1431 hb_1432 hb_1433 hb_1434 hb_1435
                  obtain ⟨hr_144_0, hr_144_1, hr_144_2⟩ := hr_144
                  refine lv_bipush (v := 101) hx hb dX14_readNumber_179 (by decide) ?_
                  refine lv_icmp_eq (tgt := 193) hx hb dX14_readNumber_181 (by decide) (fun c_145 => ?_) (fun c_145 => ?_)
                  · skip
                    have c_145' : r_144.toInt = 101 := jb_eq (rfl) ((by decide)) c_145
                    first | (have hr_144_2q := hr_144_2.resolve_left (by omega); clear hr_144_2) | (have hr_144_2q := hr_144_2.resolve_right (by omega); clear hr_144_2) | try clear hr_144_2
                    refine lv_iconst (v := 0) hx hb dX14_readNumber_193 (by decide) ?_
                    refine lv_istore (lv' := [(6, .int 0), (0, .ref r0), (1, .int r_2), (2, .int 1), (3, .int wt_115), (4, .long v4_116)]) hx hb dX14_readNumber_194 hl (by decide) rfl (fun ls hl => ?_)
                    refine lv_aload_n hx hb dX14_readNumber_196 rfl (lv_at hl 1 rfl) ?_
                    refine lv_dup hx hb dX14_readNumber_197 rfl ?_
                    refine j7_read hx hb hown hK (C := RX14) (T := TX14) (N := 74) rfl hly_16_29 hlk_273 (hh_143.at 0 rfl) dX14_readNumber_198 ?_
                    refine lv_iconst (v := 1) hx hb dX14_readNumber_201 (by decide) ?_
                    refine lv_iadd hx hb dX14_readNumber_202 ?_
                    refine lv_topi (fun z_146 ez_146 => ?_)
                    have hz_146 : z_146.toInt = wt_123.toInt + 1 := by rw [ez_146]; exact jb_iadd2 (rfl) ((by decide)) (by omega)
                    refine j7_put hx hb hown hK hh_143 hB hAp hB16 (C := RX14) (T := TX14) (N := 74) rfl (by decide) hg_r0 (i := 29) (by decide) hly_16_29 rfl hlk_273 rfl (ty := .int) (v := .int z_146) (by decide +kernel) rfl rfl (⟨_, rfl, by omega, by omega⟩) rfl (L1 := [(r0, 16, 31, .int wb_123), (r0, 16, 26, .int qn_1), (r0, 16, 30, .int pe), (r0, 16, 19, .ref xn)]) [1, 2, 3, 4] rfl rfl rfl dX14_readNumber_203 (fun H_147 locs_147 hh_147 => ?_)
                    clear hh_143
                    refine lv_aload_n hx hb dX14_readNumber_206 rfl (lv_at hl 1 rfl) ?_
                    refine va_calli (A0 := jA base) (H0 := s.heap) (va_runV (As := []) (rest := []) ⟨hx, hb, hml, hown, hts⟩ (uX14_here l dC dI ca base B hB hAp hB16 hB110 G0 H_147 r0 z_146 pe) (cwV 0 hts (jgV (jWr_50 _ (List.mem_of_getElem? (i := 20) rfl)) (jWr_50 _ (List.mem_of_getElem? (i := 21) rfl)) (jWr_50 _ (List.mem_of_getElem? (i := 22) rfl)) (jWr_1 _ (List.mem_of_getElem? (i := 5) rfl)) (jWr_50 _ (List.mem_of_getElem? (i := 23) rfl))) rfl rfl rfl (by decide +kernel) ⟨by rw [← hR]; exact Nat.le_of_ble_eq_true rfl, by rw [← hR]; exact Nat.le_of_ble_eq_true rfl⟩) ⟨fun a U g mk q => by obtain ⟨q0, q1, q2, qK, q10, q11, q12⟩ := q; exact ⟨q0, q1, q2, jG.calling g mk a qK, q10, q11, q12⟩, hh_147.recv (C := RX14) (T := TX14) (N := 74) hB16 rfl (by decide) hg_r0 hK, fun U hU hW => ⟨rfl, hU, hh_147.2.1, hG.step hW hU hh_147.1, hg_r0, (hh_147.2.2.1.sub (L1 := [(r0, 16, 29, .int z_146), (r0, 16, 30, .int pe)]) [0, 3] rfl), by first | omega | (refine ⟨?_, ?_, ?_, ?_⟩ <;> (first | omega | rfl | assumption | decide | exact Or.inl rfl | exact Or.inr rfl | (simp only; omega)))⟩⟩ rfl rfl hl.1 rfl (lv_room (Nat.le_of_ble_eq_true rfl)) dX14_readNumber_207 ⟨Nat.zero_le _, Nat.zero_le _⟩) hh_147.1 (fun q _ h => h) (fun q h => h) (fun r_149 u_148 t_148 H_148 locs_148 ht_148 hvm_148 hr_149 hb_148 hz_148 hk_148 hS_148 => ?_)
                    rw [ht_148] at hb_148
                    obtain ⟨hb_1481, hb_1482, hb_1483, hb_1484, hb_1485⟩ := hb_148
                    have hh_148 : jSt (dC, dI) B base G0 G0 EX14_readNumberN s.heap 0 0 [(r0, 16, 29, .int z_146), (r0, 16, 31, .int wb_123), (r0, 16, 26, .int qn_1), (r0, 16, 30, .int pe), (r0, 16, 19, .ref xn)] [(xn, 119, 3100, ca 1, nx_1)] [] H_148 locs_148 := ((hh_147.call hb_1481 hb_1482 hb_1483 hb_1484 hS_148 rfl (L1 := [(r0, 16, 29, .int z_146), (r0, 16, 31, .int wb_123), (r0, 16, 26, .int qn_1), (r0, 16, 30, .int pe), (r0, 16, 19, .ref xn)]) [0, 1, 2, 3, 4] rfl rfl (M1 := [(xn, 119, 3100, ca 1, nx_1)]) [0] rfl rfl (I1 := []) [] rfl rfl).more hb_1485)
                    clear hh_147 ht_148 hvm_148 hz_148 hk_148 hS_148 hb_1481 hb_1482 hb_1483 hb_1484 hb_1485
                    obtain ⟨hr_149_0, hr_149_1, hr_149_2⟩ := hr_149
                    refine lv_bipush (v := 43) hx hb dX14_readNumber_210 (by decide) ?_
                    have C234 : ∀ (wt_150 : Int32) (H_150 : Heap) (locs_150 : List Loc), jSt (dC, dI) B base G0 G0 EX14_readNumberN s.heap 0 0 [(r0, 16, 29, .int wt_150), (r0, 16, 31, .int wb_123), (r0, 16, 26, .int qn_1), (r0, 16, 30, .int pe), (r0, 16, 19, .ref xn)] [(xn, 119, 3100, ca 1, nx_1)] [] H_150 locs_150 → (pt.toInt ≤ wt_150.toInt ∧ wt_150.toInt ≤ pe.toInt ∧ pt.toInt + 1 ≤ wt_150.toInt) → ∀ ls : Array Slot, lv_has ls 9 [(0, .ref r0), (1, .int r_2), (2, .int 1), (3, .int wt_115), (4, .long v4_116), (6, .int 0)] → W p l e R s m ([.ref r0] : List Value).toArray below meth c H_150 locs_150 0 0 Q (F0 m 234 ls []) := by
                      intro wt_150 H_150 locs_150 hh_150  hi_150 ls hl
                      obtain ⟨hi_150_0, hi_150_1, hi_150_2⟩ := hi_150
                      try clear hr_149_2
                      refine lv_aload_n hx hb dX14_readNumber_234 rfl (lv_at hl 0 rfl) ?_
                      refine va_callv (A0 := jA base) (H0 := s.heap) (va_runV (As := []) (rest := []) ⟨hx, hb, hml, hown, hts⟩ (uX14_digits l dC dI ca base B hB hAp hB16 hB110 G0 H_150 r0 wt_150 pe) (cwV 0 hts (jgV (jWr_53 _ (List.mem_of_getElem? (i := 4) rfl)) (jWr_53 _ (List.mem_of_getElem? (i := 5) rfl)) (jWr_53 _ (List.mem_of_getElem? (i := 6) rfl)) (jWr_1 _ (List.mem_of_getElem? (i := 5) rfl)) (jWr_53 _ (List.mem_of_getElem? (i := 7) rfl))) rfl rfl rfl (by decide +kernel) ⟨by rw [← hR]; exact Nat.le_of_ble_eq_true rfl, by rw [← hR]; exact Nat.le_of_ble_eq_true rfl⟩) ⟨fun a U g mk q => by obtain ⟨q0, q1, q2, qK, q10, q11, q12⟩ := q; exact ⟨q0, q1, q2, jG.calling g mk a qK, q10, q11, q12⟩, hh_150.recv (C := RX14) (T := TX14) (N := 74) hB16 rfl (by decide) hg_r0 hK, fun U hU hW => ⟨rfl, hU, hh_150.2.1, hG.step hW hU hh_150.1, hg_r0, (hh_150.2.2.1.sub (L1 := [(r0, 16, 29, .int wt_150), (r0, 16, 30, .int pe)]) [0, 3] rfl), by first | omega | (refine ⟨?_, ?_, ?_, ?_, ?_⟩ <;> (first | omega | rfl | assumption | decide | exact Or.inl rfl | exact Or.inr rfl | (simp only; omega)))⟩⟩ rfl rfl hl.1 rfl (lv_room (Nat.le_of_ble_eq_true rfl)) dX14_readNumber_235 ⟨Nat.zero_le _, Nat.zero_le _⟩) hh_150.1 (fun q _ h => h) (fun q h => h) (fun u_151 t_151 H_151 locs_151 ht_151 hvm_151 hr_152 hb_151 hz_151 hk_151 hS_151 => ?_)
                      obtain ⟨qt_151, rfl⟩ : ∃ z, z = u_151 := ⟨_, rfl⟩
                      rw [ht_151] at hb_151
                      obtain ⟨hb_1511, hb_1512, hb_1513, hb_1514, hb_1515⟩ := hb_151
                      have hh_151 : jSt (dC, dI) B base G0 G0 EX14_readNumberN s.heap 0 0 [(r0, 16, 29, .int qt_151), (r0, 16, 26, .int qn_1), (r0, 16, 30, .int pe), (r0, 16, 19, .ref xn)] [(xn, 119, 3100, ca 1, nx_1)] [] H_151 locs_151 := ((hh_150.call hb_1511 hb_1512 hb_1513 hb_1514 hS_151 rfl (L1 := [(r0, 16, 26, .int qn_1), (r0, 16, 30, .int pe), (r0, 16, 19, .ref xn)]) [2, 3, 4] rfl rfl (M1 := [(xn, 119, 3100, ca 1, nx_1)]) [0] rfl rfl (I1 := []) [] rfl rfl).more hb_1515)
                      clear hh_150 ht_151 hvm_151 hz_151 hk_151 hS_151 hb_1511 hb_1512 hb_1513 hb_1514 hb_1515
                      obtain ⟨hr_152_0, hr_152_1⟩ := hr_152
                      obtain ⟨v_153, hv_153, hh_154⟩ := hh_151.pin (C := RX14) (T := TX14) (N := 74) hB16 rfl (by decide) hg_r0 (i := 31) (by decide) rfl
                      obtain ⟨bad_155, rfl, hzbad_155⟩ := hv_153
                      have hzbad_155' := jb_01 hzbad_155
                      exact C238 0 qt_151 bad_155 _ _ (hh_154.sub (L1 := [(r0, 16, 29, .int qt_151), (r0, 16, 31, .int bad_155), (r0, 16, 26, .int qn_1), (r0, 16, 30, .int pe), (r0, 16, 19, .ref xn)]) [1, 0, 2, 3, 4] rfl (M1 := [(xn, 119, 3100, ca 1, nx_1)]) [0] rfl (I1 := []) [] rfl) (Or.inl rfl) (by first | omega | (refine ⟨?_, ?_, ?_, ?_, ?_⟩ <;> (first | omega | rfl | assumption | decide | exact Or.inl rfl | exact Or.inr rfl | (simp only; omega)))) _ (lv_sub hl [0, 1, 2, 3, 4, 5] rfl)
                    refine lv_icmp_eq (tgt := 224) hx hb dX14_readNumber_212 (by decide) (fun c_156 => ?_) (fun c_156 => ?_)
                    · skip
                      have c_156' : r_149.toInt = 43 := jb_eq (rfl) ((by decide)) c_156
                      first | (have hr_149_2q := hr_149_2.resolve_left (by omega); clear hr_149_2) | (have hr_149_2q := hr_149_2.resolve_right (by omega); clear hr_149_2) | try clear hr_149_2
                      refine lv_aload_n hx hb dX14_readNumber_224 rfl (lv_at hl 1 rfl) ?_
                      refine lv_dup hx hb dX14_readNumber_225 rfl ?_
                      refine j7_read hx hb hown hK (C := RX14) (T := TX14) (N := 74) rfl hly_16_29 hlk_273 (hh_148.at 0 rfl) dX14_readNumber_226 ?_
                      refine lv_iconst (v := 1) hx hb dX14_readNumber_229 (by decide) ?_
                      refine lv_iadd hx hb dX14_readNumber_230 ?_
                      refine lv_topi (fun z_157 ez_157 => ?_)
                      have hz_157 : z_157.toInt = z_146.toInt + 1 := by rw [ez_157]; exact jb_iadd2 (rfl) ((by decide)) (by omega)
                      refine j7_put hx hb hown hK hh_148 hB hAp hB16 (C := RX14) (T := TX14) (N := 74) rfl (by decide) hg_r0 (i := 29) (by decide) hly_16_29 rfl hlk_273 rfl (ty := .int) (v := .int z_157) (by decide +kernel) rfl rfl (⟨_, rfl, by omega, by omega⟩) rfl (L1 := [(r0, 16, 31, .int wb_123), (r0, 16, 26, .int qn_1), (r0, 16, 30, .int pe), (r0, 16, 19, .ref xn)]) [1, 2, 3, 4] rfl rfl rfl dX14_readNumber_231 (fun H_158 locs_158 hh_158 => ?_)
                      clear hh_148
                      exact C234 z_157 _ _ hh_158 (by first | omega | (refine ⟨?_, ?_, ?_⟩ <;> (first | omega | rfl | assumption | decide | exact Or.inl rfl | exact Or.inr rfl | (simp only; omega)))) _ (lv_sub hl [1, 2, 3, 4, 5, 0] rfl)
                    · skip
                      have c_156' : r_149.toInt ≠ 43 := jb_eq_n (rfl) ((by decide)) c_156
                      try clear hr_149_2
                      refine lv_aload_n hx hb dX14_readNumber_215 rfl (lv_at hl 1 rfl) ?_
                      refine va_calli (A0 := jA base) (H0 := s.heap) (va_runV (As := []) (rest := []) ⟨hx, hb, hml, hown, hts⟩ (uX14_here l dC dI ca base B hB hAp hB16 hB110 G0 H_148 r0 z_146 pe) (cwV 0 hts (jgV (jWr_50 _ (List.mem_of_getElem? (i := 20) rfl)) (jWr_50 _ (List.mem_of_getElem? (i := 21) rfl)) (jWr_50 _ (List.mem_of_getElem? (i := 22) rfl)) (jWr_1 _ (List.mem_of_getElem? (i := 5) rfl)) (jWr_50 _ (List.mem_of_getElem? (i := 23) rfl))) rfl rfl rfl (by decide +kernel) ⟨by rw [← hR]; exact Nat.le_of_ble_eq_true rfl, by rw [← hR]; exact Nat.le_of_ble_eq_true rfl⟩) ⟨fun a U g mk q => by obtain ⟨q0, q1, q2, qK, q10, q11, q12⟩ := q; exact ⟨q0, q1, q2, jG.calling g mk a qK, q10, q11, q12⟩, hh_148.recv (C := RX14) (T := TX14) (N := 74) hB16 rfl (by decide) hg_r0 hK, fun U hU hW => ⟨rfl, hU, hh_148.2.1, hG.step hW hU hh_148.1, hg_r0, (hh_148.2.2.1.sub (L1 := [(r0, 16, 29, .int z_146), (r0, 16, 30, .int pe)]) [0, 3] rfl), by first | omega | (refine ⟨?_, ?_, ?_, ?_⟩ <;> (first | omega | rfl | assumption | decide | exact Or.inl rfl | exact Or.inr rfl | (simp only; omega)))⟩⟩ rfl rfl hl.1 rfl (lv_room (Nat.le_of_ble_eq_true rfl)) dX14_readNumber_216 ⟨Nat.zero_le _, Nat.zero_le _⟩) hh_148.1 (fun q _ h => h) (fun q h => h) (fun r_160 u_159 t_159 H_159 locs_159 ht_159 hvm_159 hr_160 hb_159 hz_159 hk_159 hS_159 => ?_)
                      rw [ht_159] at hb_159
                      obtain ⟨hb_1591, hb_1592, hb_1593, hb_1594, hb_1595⟩ := hb_159
                      have hh_159 : jSt (dC, dI) B base G0 G0 EX14_readNumberN s.heap 0 0 [(r0, 16, 29, .int z_146), (r0, 16, 31, .int wb_123), (r0, 16, 26, .int qn_1), (r0, 16, 30, .int pe), (r0, 16, 19, .ref xn)] [(xn, 119, 3100, ca 1, nx_1)] [] H_159 locs_159 := ((hh_148.call hb_1591 hb_1592 hb_1593 hb_1594 hS_159 rfl (L1 := [(r0, 16, 29, .int z_146), (r0, 16, 31, .int wb_123), (r0, 16, 26, .int qn_1), (r0, 16, 30, .int pe), (r0, 16, 19, .ref xn)]) [0, 1, 2, 3, 4] rfl rfl (M1 := [(xn, 119, 3100, ca 1, nx_1)]) [0] rfl rfl (I1 := []) [] rfl rfl).more hb_1595)
                      clear hh_148 ht_159 hvm_159 hz_159 hk_159 hS_159 hb_1591 hb_1592 hb_1593 hb_1594 hb_1595
                      obtain ⟨hr_160_0, hr_160_1, hr_160_2⟩ := hr_160
                      refine lv_bipush (v := 45) hx hb dX14_readNumber_219 (by decide) ?_
                      refine lv_icmp_ne (tgt := 234) hx hb dX14_readNumber_221 (by decide) (fun c_161 => ?_) (fun c_161 => ?_)
                      · skip
                        have c_161' : r_160.toInt ≠ 45 := jb_ne (rfl) ((by decide)) c_161
                        try clear hr_160_2
                        exact C234 z_146 _ _ hh_159 (by first | omega | (refine ⟨?_, ?_, ?_⟩ <;> (first | omega | rfl | assumption | decide | exact Or.inl rfl | exact Or.inr rfl | (simp only; omega)))) _ (lv_sub hl [1, 2, 3, 4, 5, 0] rfl)
                      · skip
                        have c_161' : r_160.toInt = 45 := jb_ne_n (rfl) ((by decide)) c_161
                        first | (have hr_160_2q := hr_160_2.resolve_left (by omega); clear hr_160_2) | (have hr_160_2q := hr_160_2.resolve_right (by omega); clear hr_160_2) | try clear hr_160_2
                        refine lv_aload_n hx hb dX14_readNumber_224 rfl (lv_at hl 1 rfl) ?_
                        refine lv_dup hx hb dX14_readNumber_225 rfl ?_
                        refine j7_read hx hb hown hK (C := RX14) (T := TX14) (N := 74) rfl hly_16_29 hlk_273 (hh_159.at 0 rfl) dX14_readNumber_226 ?_
                        refine lv_iconst (v := 1) hx hb dX14_readNumber_229 (by decide) ?_
                        refine lv_iadd hx hb dX14_readNumber_230 ?_
                        refine lv_topi (fun z_162 ez_162 => ?_)
                        have hz_162 : z_162.toInt = z_146.toInt + 1 := by rw [ez_162]; exact jb_iadd2 (rfl) ((by decide)) (by omega)
                        refine j7_put hx hb hown hK hh_159 hB hAp hB16 (C := RX14) (T := TX14) (N := 74) rfl (by decide) hg_r0 (i := 29) (by decide) hly_16_29 rfl hlk_273 rfl (ty := .int) (v := .int z_162) (by decide +kernel) rfl rfl (⟨_, rfl, by omega, by omega⟩) rfl (L1 := [(r0, 16, 31, .int wb_123), (r0, 16, 26, .int qn_1), (r0, 16, 30, .int pe), (r0, 16, 19, .ref xn)]) [1, 2, 3, 4] rfl rfl rfl dX14_readNumber_231 (fun H_163 locs_163 hh_163 => ?_)
                        clear hh_159
                        exact C234 z_162 _ _ hh_163 (by first | omega | (refine ⟨?_, ?_, ?_⟩ <;> (first | omega | rfl | assumption | decide | exact Or.inl rfl | exact Or.inr rfl | (simp only; omega)))) _ (lv_sub hl [1, 2, 3, 4, 5, 0] rfl)
                  · skip
                    have c_145' : r_144.toInt ≠ 101 := jb_eq_n (rfl) ((by decide)) c_145
                    try clear hr_144_2
                    refine lv_aload_n hx hb dX14_readNumber_184 rfl (lv_at hl 0 rfl) ?_
                    refine va_calli (A0 := jA base) (H0 := s.heap) (va_runV (As := []) (rest := []) ⟨hx, hb, hml, hown, hts⟩ (uX14_here l dC dI ca base B hB hAp hB16 hB110 G0 H_143 r0 wt_123 pe) (cwV 0 hts (jgV (jWr_50 _ (List.mem_of_getElem? (i := 20) rfl)) (jWr_50 _ (List.mem_of_getElem? (i := 21) rfl)) (jWr_50 _ (List.mem_of_getElem? (i := 22) rfl)) (jWr_1 _ (List.mem_of_getElem? (i := 5) rfl)) (jWr_50 _ (List.mem_of_getElem? (i := 23) rfl))) rfl rfl rfl (by decide +kernel) ⟨by rw [← hR]; exact Nat.le_of_ble_eq_true rfl, by rw [← hR]; exact Nat.le_of_ble_eq_true rfl⟩) ⟨fun a U g mk q => by obtain ⟨q0, q1, q2, qK, q10, q11, q12⟩ := q; exact ⟨q0, q1, q2, jG.calling g mk a qK, q10, q11, q12⟩, hh_143.recv (C := RX14) (T := TX14) (N := 74) hB16 rfl (by decide) hg_r0 hK, fun U hU hW => ⟨rfl, hU, hh_143.2.1, hG.step hW hU hh_143.1, hg_r0, (hh_143.2.2.1.sub (L1 := [(r0, 16, 29, .int wt_123), (r0, 16, 30, .int pe)]) [0, 3] rfl), by first | omega | (refine ⟨?_, ?_, ?_, ?_⟩ <;> (first | omega | rfl | assumption | decide | exact Or.inl rfl | exact Or.inr rfl | (simp only; omega)))⟩⟩ rfl rfl hl.1 rfl (lv_room (Nat.le_of_ble_eq_true rfl)) dX14_readNumber_185 ⟨Nat.zero_le _, Nat.zero_le _⟩) hh_143.1 (fun q _ h => h) (fun q h => h) (fun r_165 u_164 t_164 H_164 locs_164 ht_164 hvm_164 hr_165 hb_164 hz_164 hk_164 hS_164 => ?_)
                    rw [ht_164] at hb_164
                    obtain ⟨hb_1641, hb_1642, hb_1643, hb_1644, hb_1645⟩ := hb_164
                    have hh_164 : jSt (dC, dI) B base G0 G0 EX14_readNumberN s.heap 0 0 [(r0, 16, 29, .int wt_123), (r0, 16, 31, .int wb_123), (r0, 16, 26, .int qn_1), (r0, 16, 30, .int pe), (r0, 16, 19, .ref xn)] [(xn, 119, 3100, ca 1, nx_1)] [] H_164 locs_164 := ((hh_143.call hb_1641 hb_1642 hb_1643 hb_1644 hS_164 rfl (L1 := [(r0, 16, 29, .int wt_123), (r0, 16, 31, .int wb_123), (r0, 16, 26, .int qn_1), (r0, 16, 30, .int pe), (r0, 16, 19, .ref xn)]) [0, 1, 2, 3, 4] rfl rfl (M1 := [(xn, 119, 3100, ca 1, nx_1)]) [0] rfl rfl (I1 := []) [] rfl rfl).more hb_1645)
                    clear hh_143 ht_164 hvm_164 hz_164 hk_164 hS_164 hb_1641 hb_1642 hb_1643 hb_1644 hb_1645
                    obtain ⟨hr_165_0, hr_165_1, hr_165_2⟩ := hr_165
                    refine lv_bipush (v := 69) hx hb dX14_readNumber_188 (by decide) ?_
                    refine lv_icmp_ne (tgt := 238) hx hb dX14_readNumber_190 (by decide) (fun c_166 => ?_) (fun c_166 => ?_)
                    · skip
                      have c_166' : r_165.toInt ≠ 69 := jb_ne (rfl) ((by decide)) c_166
                      try clear hr_165_2
                      exact C238 v6_123 wt_123 wb_123 _ _ hh_164 (hb_v6_123) (by first | omega | (refine ⟨?_, ?_, ?_, ?_, ?_⟩ <;> (first | omega | rfl | assumption | decide | exact Or.inl rfl | exact Or.inr rfl | (simp only; omega)))) _ (lv_sub hl [0, 1, 2, 3, 4, 5] rfl)
                    · skip
                      have c_166' : r_165.toInt = 69 := jb_ne_n (rfl) ((by decide)) c_166
                      first | (have hr_165_2q := hr_165_2.resolve_left (by omega); clear hr_165_2) | (have hr_165_2q := hr_165_2.resolve_right (by omega); clear hr_165_2) | try clear hr_165_2
                      refine lv_iconst (v := 0) hx hb dX14_readNumber_193 (by decide) ?_
                      refine lv_istore (lv' := [(6, .int 0), (0, .ref r0), (1, .int r_2), (2, .int 1), (3, .int wt_115), (4, .long v4_116)]) hx hb dX14_readNumber_194 hl (by decide) rfl (fun ls hl => ?_)
                      refine lv_aload_n hx hb dX14_readNumber_196 rfl (lv_at hl 1 rfl) ?_
                      refine lv_dup hx hb dX14_readNumber_197 rfl ?_
                      refine j7_read hx hb hown hK (C := RX14) (T := TX14) (N := 74) rfl hly_16_29 hlk_273 (hh_164.at 0 rfl) dX14_readNumber_198 ?_
                      refine lv_iconst (v := 1) hx hb dX14_readNumber_201 (by decide) ?_
                      refine lv_iadd hx hb dX14_readNumber_202 ?_
                      refine lv_topi (fun z_167 ez_167 => ?_)
                      have hz_167 : z_167.toInt = wt_123.toInt + 1 := by rw [ez_167]; exact jb_iadd2 (rfl) ((by decide)) (by omega)
                      refine j7_put hx hb hown hK hh_164 hB hAp hB16 (C := RX14) (T := TX14) (N := 74) rfl (by decide) hg_r0 (i := 29) (by decide) hly_16_29 rfl hlk_273 rfl (ty := .int) (v := .int z_167) (by decide +kernel) rfl rfl (⟨_, rfl, by omega, by omega⟩) rfl (L1 := [(r0, 16, 31, .int wb_123), (r0, 16, 26, .int qn_1), (r0, 16, 30, .int pe), (r0, 16, 19, .ref xn)]) [1, 2, 3, 4] rfl rfl rfl dX14_readNumber_203 (fun H_168 locs_168 hh_168 => ?_)
                      clear hh_164
                      refine lv_aload_n hx hb dX14_readNumber_206 rfl (lv_at hl 1 rfl) ?_
                      refine va_calli (A0 := jA base) (H0 := s.heap) (va_runV (As := []) (rest := []) ⟨hx, hb, hml, hown, hts⟩ (uX14_here l dC dI ca base B hB hAp hB16 hB110 G0 H_168 r0 z_167 pe) (cwV 0 hts (jgV (jWr_50 _ (List.mem_of_getElem? (i := 20) rfl)) (jWr_50 _ (List.mem_of_getElem? (i := 21) rfl)) (jWr_50 _ (List.mem_of_getElem? (i := 22) rfl)) (jWr_1 _ (List.mem_of_getElem? (i := 5) rfl)) (jWr_50 _ (List.mem_of_getElem? (i := 23) rfl))) rfl rfl rfl (by decide +kernel) ⟨by rw [← hR]; exact Nat.le_of_ble_eq_true rfl, by rw [← hR]; exact Nat.le_of_ble_eq_true rfl⟩) ⟨fun a U g mk q => by obtain ⟨q0, q1, q2, qK, q10, q11, q12⟩ := q; exact ⟨q0, q1, q2, jG.calling g mk a qK, q10, q11, q12⟩, hh_168.recv (C := RX14) (T := TX14) (N := 74) hB16 rfl (by decide) hg_r0 hK, fun U hU hW => ⟨rfl, hU, hh_168.2.1, hG.step hW hU hh_168.1, hg_r0, (hh_168.2.2.1.sub (L1 := [(r0, 16, 29, .int z_167), (r0, 16, 30, .int pe)]) [0, 3] rfl), by first | omega | (refine ⟨?_, ?_, ?_, ?_⟩ <;> (first | omega | rfl | assumption | decide | exact Or.inl rfl | exact Or.inr rfl | (simp only; omega)))⟩⟩ rfl rfl hl.1 rfl (lv_room (Nat.le_of_ble_eq_true rfl)) dX14_readNumber_207 ⟨Nat.zero_le _, Nat.zero_le _⟩) hh_168.1 (fun q _ h => h) (fun q h => h) (fun r_170 u_169 t_169 H_169 locs_169 ht_169 hvm_169 hr_170 hb_169 hz_169 hk_169 hS_169 => ?_)
                      rw [ht_169] at hb_169
                      obtain ⟨hb_1691, hb_1692, hb_1693, hb_1694, hb_1695⟩ := hb_169
                      have hh_169 : jSt (dC, dI) B base G0 G0 EX14_readNumberN s.heap 0 0 [(r0, 16, 29, .int z_167), (r0, 16, 31, .int wb_123), (r0, 16, 26, .int qn_1), (r0, 16, 30, .int pe), (r0, 16, 19, .ref xn)] [(xn, 119, 3100, ca 1, nx_1)] [] H_169 locs_169 := ((hh_168.call hb_1691 hb_1692 hb_1693 hb_1694 hS_169 rfl (L1 := [(r0, 16, 29, .int z_167), (r0, 16, 31, .int wb_123), (r0, 16, 26, .int qn_1), (r0, 16, 30, .int pe), (r0, 16, 19, .ref xn)]) [0, 1, 2, 3, 4] rfl rfl (M1 := [(xn, 119, 3100, ca 1, nx_1)]) [0] rfl rfl (I1 := []) [] rfl rfl).more hb_1695)
                      clear hh_168 ht_169 hvm_169 hz_169 hk_169 hS_169 hb_1691 hb_1692 hb_1693 hb_1694 hb_1695
                      obtain ⟨hr_170_0, hr_170_1, hr_170_2⟩ := hr_170
                      refine lv_bipush (v := 43) hx hb dX14_readNumber_210 (by decide) ?_
                      have C234 : ∀ (wt_171 : Int32) (H_171 : Heap) (locs_171 : List Loc), jSt (dC, dI) B base G0 G0 EX14_readNumberN s.heap 0 0 [(r0, 16, 29, .int wt_171), (r0, 16, 31, .int wb_123), (r0, 16, 26, .int qn_1), (r0, 16, 30, .int pe), (r0, 16, 19, .ref xn)] [(xn, 119, 3100, ca 1, nx_1)] [] H_171 locs_171 → (pt.toInt ≤ wt_171.toInt ∧ wt_171.toInt ≤ pe.toInt ∧ pt.toInt + 1 ≤ wt_171.toInt) → ∀ ls : Array Slot, lv_has ls 9 [(0, .ref r0), (1, .int r_2), (2, .int 1), (3, .int wt_115), (4, .long v4_116), (6, .int 0)] → W p l e R s m ([.ref r0] : List Value).toArray below meth c H_171 locs_171 0 0 Q (F0 m 234 ls []) := by
                        intro wt_171 H_171 locs_171 hh_171  hi_171 ls hl
                        obtain ⟨hi_171_0, hi_171_1, hi_171_2⟩ := hi_171
                        try clear hr_170_2
                        refine lv_aload_n hx hb dX14_readNumber_234 rfl (lv_at hl 0 rfl) ?_
                        refine va_callv (A0 := jA base) (H0 := s.heap) (va_runV (As := []) (rest := []) ⟨hx, hb, hml, hown, hts⟩ (uX14_digits l dC dI ca base B hB hAp hB16 hB110 G0 H_171 r0 wt_171 pe) (cwV 0 hts (jgV (jWr_53 _ (List.mem_of_getElem? (i := 4) rfl)) (jWr_53 _ (List.mem_of_getElem? (i := 5) rfl)) (jWr_53 _ (List.mem_of_getElem? (i := 6) rfl)) (jWr_1 _ (List.mem_of_getElem? (i := 5) rfl)) (jWr_53 _ (List.mem_of_getElem? (i := 7) rfl))) rfl rfl rfl (by decide +kernel) ⟨by rw [← hR]; exact Nat.le_of_ble_eq_true rfl, by rw [← hR]; exact Nat.le_of_ble_eq_true rfl⟩) ⟨fun a U g mk q => by obtain ⟨q0, q1, q2, qK, q10, q11, q12⟩ := q; exact ⟨q0, q1, q2, jG.calling g mk a qK, q10, q11, q12⟩, hh_171.recv (C := RX14) (T := TX14) (N := 74) hB16 rfl (by decide) hg_r0 hK, fun U hU hW => ⟨rfl, hU, hh_171.2.1, hG.step hW hU hh_171.1, hg_r0, (hh_171.2.2.1.sub (L1 := [(r0, 16, 29, .int wt_171), (r0, 16, 30, .int pe)]) [0, 3] rfl), by first | omega | (refine ⟨?_, ?_, ?_, ?_, ?_⟩ <;> (first | omega | rfl | assumption | decide | exact Or.inl rfl | exact Or.inr rfl | (simp only; omega)))⟩⟩ rfl rfl hl.1 rfl (lv_room (Nat.le_of_ble_eq_true rfl)) dX14_readNumber_235 ⟨Nat.zero_le _, Nat.zero_le _⟩) hh_171.1 (fun q _ h => h) (fun q h => h) (fun u_172 t_172 H_172 locs_172 ht_172 hvm_172 hr_173 hb_172 hz_172 hk_172 hS_172 => ?_)
                        obtain ⟨qt_172, rfl⟩ : ∃ z, z = u_172 := ⟨_, rfl⟩
                        rw [ht_172] at hb_172
                        obtain ⟨hb_1721, hb_1722, hb_1723, hb_1724, hb_1725⟩ := hb_172
                        have hh_172 : jSt (dC, dI) B base G0 G0 EX14_readNumberN s.heap 0 0 [(r0, 16, 29, .int qt_172), (r0, 16, 26, .int qn_1), (r0, 16, 30, .int pe), (r0, 16, 19, .ref xn)] [(xn, 119, 3100, ca 1, nx_1)] [] H_172 locs_172 := ((hh_171.call hb_1721 hb_1722 hb_1723 hb_1724 hS_172 rfl (L1 := [(r0, 16, 26, .int qn_1), (r0, 16, 30, .int pe), (r0, 16, 19, .ref xn)]) [2, 3, 4] rfl rfl (M1 := [(xn, 119, 3100, ca 1, nx_1)]) [0] rfl rfl (I1 := []) [] rfl rfl).more hb_1725)
                        clear hh_171 ht_172 hvm_172 hz_172 hk_172 hS_172 hb_1721 hb_1722 hb_1723 hb_1724 hb_1725
                        obtain ⟨hr_173_0, hr_173_1⟩ := hr_173
                        obtain ⟨v_174, hv_174, hh_175⟩ := hh_172.pin (C := RX14) (T := TX14) (N := 74) hB16 rfl (by decide) hg_r0 (i := 31) (by decide) rfl
                        obtain ⟨bad_176, rfl, hzbad_176⟩ := hv_174
                        have hzbad_176' := jb_01 hzbad_176
                        exact C238 0 qt_172 bad_176 _ _ (hh_175.sub (L1 := [(r0, 16, 29, .int qt_172), (r0, 16, 31, .int bad_176), (r0, 16, 26, .int qn_1), (r0, 16, 30, .int pe), (r0, 16, 19, .ref xn)]) [1, 0, 2, 3, 4] rfl (M1 := [(xn, 119, 3100, ca 1, nx_1)]) [0] rfl (I1 := []) [] rfl) (Or.inl rfl) (by first | omega | (refine ⟨?_, ?_, ?_, ?_, ?_⟩ <;> (first | omega | rfl | assumption | decide | exact Or.inl rfl | exact Or.inr rfl | (simp only; omega)))) _ (lv_sub hl [0, 1, 2, 3, 4, 5] rfl)
                      refine lv_icmp_eq (tgt := 224) hx hb dX14_readNumber_212 (by decide) (fun c_177 => ?_) (fun c_177 => ?_)
                      · skip
                        have c_177' : r_170.toInt = 43 := jb_eq (rfl) ((by decide)) c_177
                        first | (have hr_170_2q := hr_170_2.resolve_left (by omega); clear hr_170_2) | (have hr_170_2q := hr_170_2.resolve_right (by omega); clear hr_170_2) | try clear hr_170_2
                        refine lv_aload_n hx hb dX14_readNumber_224 rfl (lv_at hl 1 rfl) ?_
                        refine lv_dup hx hb dX14_readNumber_225 rfl ?_
                        refine j7_read hx hb hown hK (C := RX14) (T := TX14) (N := 74) rfl hly_16_29 hlk_273 (hh_169.at 0 rfl) dX14_readNumber_226 ?_
                        refine lv_iconst (v := 1) hx hb dX14_readNumber_229 (by decide) ?_
                        refine lv_iadd hx hb dX14_readNumber_230 ?_
                        refine lv_topi (fun z_178 ez_178 => ?_)
                        have hz_178 : z_178.toInt = z_167.toInt + 1 := by rw [ez_178]; exact jb_iadd2 (rfl) ((by decide)) (by omega)
                        refine j7_put hx hb hown hK hh_169 hB hAp hB16 (C := RX14) (T := TX14) (N := 74) rfl (by decide) hg_r0 (i := 29) (by decide) hly_16_29 rfl hlk_273 rfl (ty := .int) (v := .int z_178) (by decide +kernel) rfl rfl (⟨_, rfl, by omega, by omega⟩) rfl (L1 := [(r0, 16, 31, .int wb_123), (r0, 16, 26, .int qn_1), (r0, 16, 30, .int pe), (r0, 16, 19, .ref xn)]) [1, 2, 3, 4] rfl rfl rfl dX14_readNumber_231 (fun H_179 locs_179 hh_179 => ?_)
                        clear hh_169
                        exact C234 z_178 _ _ hh_179 (by first | omega | (refine ⟨?_, ?_, ?_⟩ <;> (first | omega | rfl | assumption | decide | exact Or.inl rfl | exact Or.inr rfl | (simp only; omega)))) _ (lv_sub hl [1, 2, 3, 4, 5, 0] rfl)
                      · skip
                        have c_177' : r_170.toInt ≠ 43 := jb_eq_n (rfl) ((by decide)) c_177
                        try clear hr_170_2
                        refine lv_aload_n hx hb dX14_readNumber_215 rfl (lv_at hl 1 rfl) ?_
                        refine va_calli (A0 := jA base) (H0 := s.heap) (va_runV (As := []) (rest := []) ⟨hx, hb, hml, hown, hts⟩ (uX14_here l dC dI ca base B hB hAp hB16 hB110 G0 H_169 r0 z_167 pe) (cwV 0 hts (jgV (jWr_50 _ (List.mem_of_getElem? (i := 20) rfl)) (jWr_50 _ (List.mem_of_getElem? (i := 21) rfl)) (jWr_50 _ (List.mem_of_getElem? (i := 22) rfl)) (jWr_1 _ (List.mem_of_getElem? (i := 5) rfl)) (jWr_50 _ (List.mem_of_getElem? (i := 23) rfl))) rfl rfl rfl (by decide +kernel) ⟨by rw [← hR]; exact Nat.le_of_ble_eq_true rfl, by rw [← hR]; exact Nat.le_of_ble_eq_true rfl⟩) ⟨fun a U g mk q => by obtain ⟨q0, q1, q2, qK, q10, q11, q12⟩ := q; exact ⟨q0, q1, q2, jG.calling g mk a qK, q10, q11, q12⟩, hh_169.recv (C := RX14) (T := TX14) (N := 74) hB16 rfl (by decide) hg_r0 hK, fun U hU hW => ⟨rfl, hU, hh_169.2.1, hG.step hW hU hh_169.1, hg_r0, (hh_169.2.2.1.sub (L1 := [(r0, 16, 29, .int z_167), (r0, 16, 30, .int pe)]) [0, 3] rfl), by first | omega | (refine ⟨?_, ?_, ?_, ?_⟩ <;> (first | omega | rfl | assumption | decide | exact Or.inl rfl | exact Or.inr rfl | (simp only; omega)))⟩⟩ rfl rfl hl.1 rfl (lv_room (Nat.le_of_ble_eq_true rfl)) dX14_readNumber_216 ⟨Nat.zero_le _, Nat.zero_le _⟩) hh_169.1 (fun q _ h => h) (fun q h => h) (fun r_181 u_180 t_180 H_180 locs_180 ht_180 hvm_180 hr_181 hb_180 hz_180 hk_180 hS_180 => ?_)
                        rw [ht_180] at hb_180
                        obtain ⟨hb_1801, hb_1802, hb_1803, hb_1804, hb_1805⟩ := hb_180
                        have hh_180 : jSt (dC, dI) B base G0 G0 EX14_readNumberN s.heap 0 0 [(r0, 16, 29, .int z_167), (r0, 16, 31, .int wb_123), (r0, 16, 26, .int qn_1), (r0, 16, 30, .int pe), (r0, 16, 19, .ref xn)] [(xn, 119, 3100, ca 1, nx_1)] [] H_180 locs_180 := ((hh_169.call hb_1801 hb_1802 hb_1803 hb_1804 hS_180 rfl (L1 := [(r0, 16, 29, .int z_167), (r0, 16, 31, .int wb_123), (r0, 16, 26, .int qn_1), (r0, 16, 30, .int pe), (r0, 16, 19, .ref xn)]) [0, 1, 2, 3, 4] rfl rfl (M1 := [(xn, 119, 3100, ca 1, nx_1)]) [0] rfl rfl (I1 := []) [] rfl rfl).more hb_1805)
                        clear hh_169 ht_180 hvm_180 hz_180 hk_180 hS_180 hb_1801 hb_1802 hb_1803 hb_1804 hb_1805
                        obtain ⟨hr_181_0, hr_181_1, hr_181_2⟩ := hr_181
                        refine lv_bipush (v := 45) hx hb dX14_readNumber_219 (by decide) ?_
                        refine lv_icmp_ne (tgt := 234) hx hb dX14_readNumber_221 (by decide) (fun c_182 => ?_) (fun c_182 => ?_)
                        · skip
                          have c_182' : r_181.toInt ≠ 45 := jb_ne (rfl) ((by decide)) c_182
                          try clear hr_181_2
                          exact C234 z_167 _ _ hh_180 (by first | omega | (refine ⟨?_, ?_, ?_⟩ <;> (first | omega | rfl | assumption | decide | exact Or.inl rfl | exact Or.inr rfl | (simp only; omega)))) _ (lv_sub hl [1, 2, 3, 4, 5, 0] rfl)
                        · skip
                          have c_182' : r_181.toInt = 45 := jb_ne_n (rfl) ((by decide)) c_182
                          first | (have hr_181_2q := hr_181_2.resolve_left (by omega); clear hr_181_2) | (have hr_181_2q := hr_181_2.resolve_right (by omega); clear hr_181_2) | try clear hr_181_2
                          refine lv_aload_n hx hb dX14_readNumber_224 rfl (lv_at hl 1 rfl) ?_
                          refine lv_dup hx hb dX14_readNumber_225 rfl ?_
                          refine j7_read hx hb hown hK (C := RX14) (T := TX14) (N := 74) rfl hly_16_29 hlk_273 (hh_180.at 0 rfl) dX14_readNumber_226 ?_
                          refine lv_iconst (v := 1) hx hb dX14_readNumber_229 (by decide) ?_
                          refine lv_iadd hx hb dX14_readNumber_230 ?_
                          refine lv_topi (fun z_183 ez_183 => ?_)
                          have hz_183 : z_183.toInt = z_167.toInt + 1 := by rw [ez_183]; exact jb_iadd2 (rfl) ((by decide)) (by omega)
                          refine j7_put hx hb hown hK hh_180 hB hAp hB16 (C := RX14) (T := TX14) (N := 74) rfl (by decide) hg_r0 (i := 29) (by decide) hly_16_29 rfl hlk_273 rfl (ty := .int) (v := .int z_183) (by decide +kernel) rfl rfl (⟨_, rfl, by omega, by omega⟩) rfl (L1 := [(r0, 16, 31, .int wb_123), (r0, 16, 26, .int qn_1), (r0, 16, 30, .int pe), (r0, 16, 19, .ref xn)]) [1, 2, 3, 4] rfl rfl rfl dX14_readNumber_231 (fun H_184 locs_184 hh_184 => ?_)
                          clear hh_180
                          exact C234 z_183 _ _ hh_184 (by first | omega | (refine ⟨?_, ?_, ?_⟩ <;> (first | omega | rfl | assumption | decide | exact Or.inl rfl | exact Or.inr rfl | (simp only; omega)))) _ (lv_sub hl [1, 2, 3, 4, 5, 0] rfl)
              refine lv_if_ne (tgt := 168) hx hb dX14_readNumber_139 (by decide) (fun c_185 => ?_) (fun c_185 => ?_)
              · skip
                have c_185' : wb_122.toInt ≠ 0 := jb_ne (rfl) ((by decide)) c_185
                exact C168 1 wt_122 wb_122 _ _ hh_122 (Or.inr rfl) (by first | omega | (refine ⟨?_, ?_, ?_, ?_, ?_⟩ <;> (first | omega | rfl | assumption | decide | exact Or.inl rfl | exact Or.inr rfl | (simp only; omega)))) _ (lv_sub hl [1, 2, 3, 4, 5, 0] rfl)
              · skip
                have c_185' : wb_122.toInt = 0 := jb_ne_n (rfl) ((by decide)) c_185
                refine lv_aload_n hx hb dX14_readNumber_142 rfl (lv_at hl 1 rfl) ?_
                refine va_calli (A0 := jA base) (H0 := s.heap) (va_runV (As := []) (rest := []) ⟨hx, hb, hml, hown, hts⟩ (uX14_here l dC dI ca base B hB hAp hB16 hB110 G0 H_122 r0 wt_122 pe) (cwV 0 hts (jgV (jWr_50 _ (List.mem_of_getElem? (i := 20) rfl)) (jWr_50 _ (List.mem_of_getElem? (i := 21) rfl)) (jWr_50 _ (List.mem_of_getElem? (i := 22) rfl)) (jWr_1 _ (List.mem_of_getElem? (i := 5) rfl)) (jWr_50 _ (List.mem_of_getElem? (i := 23) rfl))) rfl rfl rfl (by decide +kernel) ⟨by rw [← hR]; exact Nat.le_of_ble_eq_true rfl, by rw [← hR]; exact Nat.le_of_ble_eq_true rfl⟩) ⟨fun a U g mk q => by obtain ⟨q0, q1, q2, qK, q10, q11, q12⟩ := q; exact ⟨q0, q1, q2, jG.calling g mk a qK, q10, q11, q12⟩, hh_122.recv (C := RX14) (T := TX14) (N := 74) hB16 rfl (by decide) hg_r0 hK, fun U hU hW => ⟨rfl, hU, hh_122.2.1, hG.step hW hU hh_122.1, hg_r0, (hh_122.2.2.1.sub (L1 := [(r0, 16, 29, .int wt_122), (r0, 16, 30, .int pe)]) [0, 3] rfl), by first | omega | (refine ⟨?_, ?_, ?_, ?_⟩ <;> (first | omega | rfl | assumption | decide | exact Or.inl rfl | exact Or.inr rfl | (simp only; omega)))⟩⟩ rfl rfl hl.1 rfl (lv_room (Nat.le_of_ble_eq_true rfl)) dX14_readNumber_143 ⟨Nat.zero_le _, Nat.zero_le _⟩) hh_122.1 (fun q _ h => h) (fun q h => h) (fun r_187 u_186 t_186 H_186 locs_186 ht_186 hvm_186 hr_187 hb_186 hz_186 hk_186 hS_186 => ?_)
                rw [ht_186] at hb_186
                obtain ⟨hb_1861, hb_1862, hb_1863, hb_1864, hb_1865⟩ := hb_186
                have hh_186 : jSt (dC, dI) B base G0 G0 EX14_readNumberN s.heap 0 0 [(r0, 16, 29, .int wt_122), (r0, 16, 31, .int wb_122), (r0, 16, 26, .int qn_1), (r0, 16, 30, .int pe), (r0, 16, 19, .ref xn)] [(xn, 119, 3100, ca 1, nx_1)] [] H_186 locs_186 := ((hh_122.call hb_1861 hb_1862 hb_1863 hb_1864 hS_186 rfl (L1 := [(r0, 16, 29, .int wt_122), (r0, 16, 31, .int wb_122), (r0, 16, 26, .int qn_1), (r0, 16, 30, .int pe), (r0, 16, 19, .ref xn)]) [0, 1, 2, 3, 4] rfl rfl (M1 := [(xn, 119, 3100, ca 1, nx_1)]) [0] rfl rfl (I1 := []) [] rfl rfl).more hb_1865)
                clear hh_122 ht_186 hvm_186 hz_186 hk_186 hS_186 hb_1861 hb_1862 hb_1863 hb_1864 hb_1865
                obtain ⟨hr_187_0, hr_187_1, hr_187_2⟩ := hr_187
                refine lv_bipush (v := 46) hx hb dX14_readNumber_146 (by decide) ?_
                refine lv_icmp_ne (tgt := 168) hx hb dX14_readNumber_148 (by decide) (fun c_188 => ?_) (fun c_188 => ?_)
                · skip
                  have c_188' : r_187.toInt ≠ 46 := jb_ne (rfl) ((by decide)) c_188
                  try clear hr_187_2
                  exact C168 1 wt_122 wb_122 _ _ hh_186 (Or.inr rfl) (by first | omega | (refine ⟨?_, ?_, ?_, ?_, ?_⟩ <;> (first | omega | rfl | assumption | decide | exact Or.inl rfl | exact Or.inr rfl | (simp only; omega)))) _ (lv_sub hl [1, 2, 3, 4, 5, 0] rfl)
                · skip
                  have c_188' : r_187.toInt = 46 := jb_ne_n (rfl) ((by decide)) c_188
                  first | (have hr_187_2q := hr_187_2.resolve_left (by omega); clear hr_187_2) | (have hr_187_2q := hr_187_2.resolve_right (by omega); clear hr_187_2) | try clear hr_187_2
                  refine lv_iconst (v := 0) hx hb dX14_readNumber_151 (by decide) ?_
                  refine lv_istore (lv' := [(6, .int 0), (0, .ref r0), (1, .int r_2), (2, .int 1), (3, .int wt_115), (4, .long v4_116)]) hx hb dX14_readNumber_152 hl (by decide) rfl (fun ls hl => ?_)
                  refine lv_aload_n hx hb dX14_readNumber_154 rfl (lv_at hl 1 rfl) ?_
                  refine lv_dup hx hb dX14_readNumber_155 rfl ?_
                  refine j7_read hx hb hown hK (C := RX14) (T := TX14) (N := 74) rfl hly_16_29 hlk_273 (hh_186.at 0 rfl) dX14_readNumber_156 ?_
                  refine lv_iconst (v := 1) hx hb dX14_readNumber_159 (by decide) ?_
                  refine lv_iadd hx hb dX14_readNumber_160 ?_
                  refine lv_topi (fun z_189 ez_189 => ?_)
                  have hz_189 : z_189.toInt = wt_122.toInt + 1 := by rw [ez_189]; exact jb_iadd2 (rfl) ((by decide)) (by omega)
                  refine j7_put hx hb hown hK hh_186 hB hAp hB16 (C := RX14) (T := TX14) (N := 74) rfl (by decide) hg_r0 (i := 29) (by decide) hly_16_29 rfl hlk_273 rfl (ty := .int) (v := .int z_189) (by decide +kernel) rfl rfl (⟨_, rfl, by omega, by omega⟩) rfl (L1 := [(r0, 16, 31, .int wb_122), (r0, 16, 26, .int qn_1), (r0, 16, 30, .int pe), (r0, 16, 19, .ref xn)]) [1, 2, 3, 4] rfl rfl rfl dX14_readNumber_161 (fun H_190 locs_190 hh_190 => ?_)
                  clear hh_186
                  refine lv_aload_n hx hb dX14_readNumber_164 rfl (lv_at hl 1 rfl) ?_
                  refine va_callv (A0 := jA base) (H0 := s.heap) (va_runV (As := []) (rest := []) ⟨hx, hb, hml, hown, hts⟩ (uX14_digits l dC dI ca base B hB hAp hB16 hB110 G0 H_190 r0 z_189 pe) (cwV 0 hts (jgV (jWr_53 _ (List.mem_of_getElem? (i := 4) rfl)) (jWr_53 _ (List.mem_of_getElem? (i := 5) rfl)) (jWr_53 _ (List.mem_of_getElem? (i := 6) rfl)) (jWr_1 _ (List.mem_of_getElem? (i := 5) rfl)) (jWr_53 _ (List.mem_of_getElem? (i := 7) rfl))) rfl rfl rfl (by decide +kernel) ⟨by rw [← hR]; exact Nat.le_of_ble_eq_true rfl, by rw [← hR]; exact Nat.le_of_ble_eq_true rfl⟩) ⟨fun a U g mk q => by obtain ⟨q0, q1, q2, qK, q10, q11, q12⟩ := q; exact ⟨q0, q1, q2, jG.calling g mk a qK, q10, q11, q12⟩, hh_190.recv (C := RX14) (T := TX14) (N := 74) hB16 rfl (by decide) hg_r0 hK, fun U hU hW => ⟨rfl, hU, hh_190.2.1, hG.step hW hU hh_190.1, hg_r0, (hh_190.2.2.1.sub (L1 := [(r0, 16, 29, .int z_189), (r0, 16, 30, .int pe)]) [0, 3] rfl), by first | omega | (refine ⟨?_, ?_, ?_, ?_, ?_⟩ <;> (first | omega | rfl | assumption | decide | exact Or.inl rfl | exact Or.inr rfl | (simp only; omega)))⟩⟩ rfl rfl hl.1 rfl (lv_room (Nat.le_of_ble_eq_true rfl)) dX14_readNumber_165 ⟨Nat.zero_le _, Nat.zero_le _⟩) hh_190.1 (fun q _ h => h) (fun q h => h) (fun u_191 t_191 H_191 locs_191 ht_191 hvm_191 hr_192 hb_191 hz_191 hk_191 hS_191 => ?_)
                  obtain ⟨qt_191, rfl⟩ : ∃ z, z = u_191 := ⟨_, rfl⟩
                  rw [ht_191] at hb_191
                  obtain ⟨hb_1911, hb_1912, hb_1913, hb_1914, hb_1915⟩ := hb_191
                  have hh_191 : jSt (dC, dI) B base G0 G0 EX14_readNumberN s.heap 0 0 [(r0, 16, 29, .int qt_191), (r0, 16, 26, .int qn_1), (r0, 16, 30, .int pe), (r0, 16, 19, .ref xn)] [(xn, 119, 3100, ca 1, nx_1)] [] H_191 locs_191 := ((hh_190.call hb_1911 hb_1912 hb_1913 hb_1914 hS_191 rfl (L1 := [(r0, 16, 26, .int qn_1), (r0, 16, 30, .int pe), (r0, 16, 19, .ref xn)]) [2, 3, 4] rfl rfl (M1 := [(xn, 119, 3100, ca 1, nx_1)]) [0] rfl rfl (I1 := []) [] rfl rfl).more hb_1915)
                  clear hh_190 ht_191 hvm_191 hz_191 hk_191 hS_191 hb_1911 hb_1912 hb_1913 hb_1914 hb_1915
                  obtain ⟨hr_192_0, hr_192_1⟩ := hr_192
                  obtain ⟨v_193, hv_193, hh_194⟩ := hh_191.pin (C := RX14) (T := TX14) (N := 74) hB16 rfl (by decide) hg_r0 (i := 31) (by decide) rfl
                  obtain ⟨bad_195, rfl, hzbad_195⟩ := hv_193
                  have hzbad_195' := jb_01 hzbad_195
                  exact C168 0 qt_191 bad_195 _ _ (hh_194.sub (L1 := [(r0, 16, 29, .int qt_191), (r0, 16, 31, .int bad_195), (r0, 16, 26, .int qn_1), (r0, 16, 30, .int pe), (r0, 16, 19, .ref xn)]) [1, 0, 2, 3, 4] rfl (M1 := [(xn, 119, 3100, ca 1, nx_1)]) [0] rfl (I1 := []) [] rfl) (Or.inl rfl) (by first | omega | (refine ⟨?_, ?_, ?_, ?_, ?_⟩ <;> (first | omega | rfl | assumption | decide | exact Or.inl rfl | exact Or.inr rfl | (simp only; omega)))) _ (lv_sub hl [1, 2, 3, 4, 5, 0] rfl)
            refine lv_icmp_eq (tgt := 127) hx hb dX14_readNumber_103 (by decide) (fun c_196 => ?_) (fun c_196 => ?_)
            · skip
              have c_196' : wt_116.toInt = wt_115.toInt := jb_eq (rfl) (rfl) c_196
              refine lv_aload_n hx hb dX14_readNumber_127 rfl (lv_at hl 0 rfl) ?_
              refine lv_iconst (v := 1) hx hb dX14_readNumber_128 (by decide) ?_
              refine j7_put hx hb hown hK hh_119 hB hAp hB16 (C := RX14) (T := TX14) (N := 74) rfl (by decide) hg_r0 (i := 31) (by decide) hly_16_31 rfl hlk_288 rfl (ty := .boolean) (v := .int 1) (by decide +kernel) (jb_nz (Or.inr rfl)) (jb_fz (Or.inr rfl)) (⟨_, rfl, (Or.inr rfl)⟩) rfl (L1 := [(r0, 16, 29, .int wt_116), (r0, 16, 26, .int qn_1), (r0, 16, 30, .int pe), (r0, 16, 19, .ref xn)]) [0, 1, 2, 3] rfl rfl rfl dX14_readNumber_129 (fun H_197 locs_197 hh_197 => ?_)
              clear hh_119
              exact C132 wt_116 1 _ _ (hh_197.sub (L1 := [(r0, 16, 29, .int wt_116), (r0, 16, 31, .int 1), (r0, 16, 26, .int qn_1), (r0, 16, 30, .int pe), (r0, 16, 19, .ref xn)]) [1, 0, 2, 3, 4] rfl (M1 := [(xn, 119, 3100, ca 1, nx_1)]) [0] rfl (I1 := []) [] rfl) (by first | omega | (refine ⟨?_, ?_, ?_, ?_, ?_⟩ <;> (first | omega | rfl | assumption | decide | exact Or.inl rfl | exact Or.inr rfl | (simp only; omega)))) _ (lv_sub hl [0, 1, 2, 3, 4] rfl)
            · skip
              have c_196' : wt_116.toInt ≠ wt_115.toInt := jb_eq_n (rfl) (rfl) c_196
              refine lv_aload_n hx hb dX14_readNumber_106 rfl (lv_at hl 0 rfl) ?_
              obtain ⟨v_198, hv_198, hh_199⟩ := hh_119.pin (C := RX14) (T := TX14) (N := 74) hB16 rfl (by decide) hg_r0 (i := 9) (by decide) rfl
              clear hh_119
              obtain ⟨kept_200, rfl, hg_kept_200⟩ := hv_198
              refine j7_read hx hb hown hK (C := RX14) (T := TX14) (N := 74) rfl hly_16_9 hlk_20 (hh_199.at 0 rfl) dX14_readNumber_107 ?_
              refine lv_iload_n hx hb dX14_readNumber_110 rfl (lv_at hl 3 rfl) ?_
              refine j7_iald hx hb hK hh_199 hB110 1 rfl (by decide) hg_kept_200 (x := wt_115.toInt) (rfl) (by omega) dX14_readNumber_111 (fun z_201 (hz_201 : 0 ≤ z_201.toInt ∧ z_201.toInt ≤ 255) => ?_)
              refine lv_bipush (v := 48) hx hb dX14_readNumber_112 (by decide) ?_
              refine lv_icmp_ne (tgt := 132) hx hb dX14_readNumber_114 (by decide) (fun c_202 => ?_) (fun c_202 => ?_)
              · skip
                have c_202' : z_201.toInt ≠ 48 := jb_ne (rfl) ((by decide)) c_202
                obtain ⟨v_203, hv_203, hh_204⟩ := hh_199.pin (C := RX14) (T := TX14) (N := 74) hB16 rfl (by decide) hg_r0 (i := 31) (by decide) rfl
                obtain ⟨bad_205, rfl, hzbad_205⟩ := hv_203
                have hzbad_205' := jb_01 hzbad_205
                exact C132 wt_116 bad_205 _ _ (hh_204.sub (L1 := [(r0, 16, 29, .int wt_116), (r0, 16, 31, .int bad_205), (r0, 16, 26, .int qn_1), (r0, 16, 30, .int pe), (r0, 16, 19, .ref xn)]) [2, 0, 3, 4, 5] rfl (M1 := [(xn, 119, 3100, ca 1, nx_1)]) [0] rfl (I1 := []) [] rfl) (by first | omega | (refine ⟨?_, ?_, ?_, ?_, ?_⟩ <;> (first | omega | rfl | assumption | decide | exact Or.inl rfl | exact Or.inr rfl | (simp only; omega)))) _ (lv_sub hl [0, 1, 2, 3, 4] rfl)
              · skip
                have c_202' : z_201.toInt = 48 := jb_ne_n (rfl) ((by decide)) c_202
                refine lv_aload_n hx hb dX14_readNumber_117 rfl (lv_at hl 0 rfl) ?_
                refine j7_read hx hb hown hK (C := RX14) (T := TX14) (N := 74) rfl hly_16_29 hlk_273 (hh_199.at 1 rfl) dX14_readNumber_118 ?_
                refine lv_iload_n hx hb dX14_readNumber_121 rfl (lv_at hl 3 rfl) ?_
                refine lv_isub hx hb dX14_readNumber_122 ?_
                refine lv_topi (fun z_206 ez_206 => ?_)
                have hz_206 : z_206.toInt = wt_116.toInt - wt_115.toInt := by rw [ez_206]; exact jb_isub2 (rfl) (rfl) (by omega)
                refine lv_iconst (v := 1) hx hb dX14_readNumber_123 (by decide) ?_
                refine lv_icmp_le (tgt := 132) hx hb dX14_readNumber_124 (by decide) (fun c_207 => ?_) (fun c_207 => ?_)
                · skip
                  have c_207' : z_206.toInt ≤ 1 := jb_le (rfl) ((by decide)) c_207
                  obtain ⟨v_208, hv_208, hh_209⟩ := hh_199.pin (C := RX14) (T := TX14) (N := 74) hB16 rfl (by decide) hg_r0 (i := 31) (by decide) rfl
                  obtain ⟨bad_210, rfl, hzbad_210⟩ := hv_208
                  have hzbad_210' := jb_01 hzbad_210
                  exact C132 wt_116 bad_210 _ _ (hh_209.sub (L1 := [(r0, 16, 29, .int wt_116), (r0, 16, 31, .int bad_210), (r0, 16, 26, .int qn_1), (r0, 16, 30, .int pe), (r0, 16, 19, .ref xn)]) [2, 0, 3, 4, 5] rfl (M1 := [(xn, 119, 3100, ca 1, nx_1)]) [0] rfl (I1 := []) [] rfl) (by first | omega | (refine ⟨?_, ?_, ?_, ?_, ?_⟩ <;> (first | omega | rfl | assumption | decide | exact Or.inl rfl | exact Or.inr rfl | (simp only; omega)))) _ (lv_sub hl [0, 1, 2, 3, 4] rfl)
                · skip
                  have c_207' : z_206.toInt > 1 := jb_le_n (rfl) ((by decide)) c_207
                  refine lv_aload_n hx hb dX14_readNumber_127 rfl (lv_at hl 0 rfl) ?_
                  refine lv_iconst (v := 1) hx hb dX14_readNumber_128 (by decide) ?_
                  refine j7_put hx hb hown hK hh_199 hB hAp hB16 (C := RX14) (T := TX14) (N := 74) rfl (by decide) hg_r0 (i := 31) (by decide) hly_16_31 rfl hlk_288 rfl (ty := .boolean) (v := .int 1) (by decide +kernel) (jb_nz (Or.inr rfl)) (jb_fz (Or.inr rfl)) (⟨_, rfl, (Or.inr rfl)⟩) rfl (L1 := [(r0, 16, 9, .ref kept_200), (r0, 16, 29, .int wt_116), (r0, 16, 26, .int qn_1), (r0, 16, 30, .int pe), (r0, 16, 19, .ref xn)]) [0, 1, 2, 3, 4] rfl rfl rfl dX14_readNumber_129 (fun H_211 locs_211 hh_211 => ?_)
                  clear hh_199
                  exact C132 wt_116 1 _ _ (hh_211.sub (L1 := [(r0, 16, 29, .int wt_116), (r0, 16, 31, .int 1), (r0, 16, 26, .int qn_1), (r0, 16, 30, .int pe), (r0, 16, 19, .ref xn)]) [2, 0, 3, 4, 5] rfl (M1 := [(xn, 119, 3100, ca 1, nx_1)]) [0] rfl (I1 := []) [] rfl) (by first | omega | (refine ⟨?_, ?_, ?_, ?_, ?_⟩ <;> (first | omega | rfl | assumption | decide | exact Or.inl rfl | exact Or.inr rfl | (simp only; omega)))) _ (lv_sub hl [0, 1, 2, 3, 4] rfl)
          · skip
            have c_121' : r_120.toInt ≠ 0 := jb_eq_n (rfl) ((by decide)) c_121
            first | (have hr_118_2q := hr_118_2.resolve_left (by omega); clear hr_118_2) | (have hr_118_2q := hr_118_2.resolve_right (by omega); clear hr_118_2) | try clear hr_118_2
            refine lv_lload hx hb dX14_readNumber_53 (lv_at hl 4 rfl) ?_
            refine lv_ldc2 hx hb hown (htw (.constantLong RX14 320 99999999999) (jWr_52 _ (List.mem_of_getElem? (i := 23) rfl))) dX14_readNumber_55 ?_
            refine W.lcmp hx hb dX14_readNumber_58 ?_
            refine lv_topi (fun z_212 ez_212 => ?_)
            have hz_212 := jb_lcmp ez_212
            have hqz_212_99999999999 : (99999999999 : Int64).toInt = 99999999999 := by decide
            refine lv_if_le (tgt := 67) hx hb dX14_readNumber_59 (by decide) (fun c_213 => ?_) (fun c_213 => ?_)
            · skip
              have c_213' : z_212.toInt ≤ 0 := jb_le (rfl) ((by decide)) c_213
              refine lv_ldc2 hx hb hown (htw (.constantLong RX14 322 10) (jWr_53 _ (List.mem_of_getElem? (i := 0) rfl))) dX14_readNumber_67 ?_
              refine lv_lload hx hb dX14_readNumber_70 (lv_at hl 4 rfl) ?_
              refine lv_lmul hx hb dX14_readNumber_72 ?_
              refine lv_topl (fun z_214 ez_214 => ?_)
              refine lv_aload_n hx hb dX14_readNumber_73 rfl (lv_at hl 0 rfl) ?_
              refine va_calli (A0 := jA base) (H0 := s.heap) (va_runV (As := []) (rest := [.long z_214]) ⟨hx, hb, hml, hown, hts⟩ (uX14_here l dC dI ca base B hB hAp hB16 hB110 G0 H_119 r0 wt_116 pe) (cwV 0 hts (jgV (jWr_50 _ (List.mem_of_getElem? (i := 20) rfl)) (jWr_50 _ (List.mem_of_getElem? (i := 21) rfl)) (jWr_50 _ (List.mem_of_getElem? (i := 22) rfl)) (jWr_1 _ (List.mem_of_getElem? (i := 5) rfl)) (jWr_50 _ (List.mem_of_getElem? (i := 23) rfl))) rfl rfl rfl (by decide +kernel) ⟨by rw [← hR]; exact Nat.le_of_ble_eq_true rfl, by rw [← hR]; exact Nat.le_of_ble_eq_true rfl⟩) ⟨fun a U g mk q => by obtain ⟨q0, q1, q2, qK, q10, q11, q12⟩ := q; exact ⟨q0, q1, q2, jG.calling g mk a qK, q10, q11, q12⟩, hh_119.recv (C := RX14) (T := TX14) (N := 74) hB16 rfl (by decide) hg_r0 hK, fun U hU hW => ⟨rfl, hU, hh_119.2.1, hG.step hW hU hh_119.1, hg_r0, (hh_119.2.2.1.sub (L1 := [(r0, 16, 29, .int wt_116), (r0, 16, 30, .int pe)]) [0, 2] rfl), by first | omega | (refine ⟨?_, ?_, ?_, ?_⟩ <;> (first | omega | rfl | assumption | decide | exact Or.inl rfl | exact Or.inr rfl | (simp only; omega)))⟩⟩ rfl rfl hl.1 rfl (lv_room (Nat.le_of_ble_eq_true rfl)) dX14_readNumber_74 ⟨Nat.zero_le _, Nat.zero_le _⟩) hh_119.1 (fun q _ h => h) (fun q h => h) (fun r_216 u_215 t_215 H_215 locs_215 ht_215 hvm_215 hr_216 hb_215 hz_215 hk_215 hS_215 => ?_)
              rw [ht_215] at hb_215
              obtain ⟨hb_2151, hb_2152, hb_2153, hb_2154, hb_2155⟩ := hb_215
              have hh_215 : jSt (dC, dI) B base G0 G0 EX14_readNumberN s.heap 0 0 [(r0, 16, 29, .int wt_116), (r0, 16, 26, .int qn_1), (r0, 16, 30, .int pe), (r0, 16, 19, .ref xn)] [(xn, 119, 3100, ca 1, nx_1)] [] H_215 locs_215 := ((hh_119.call hb_2151 hb_2152 hb_2153 hb_2154 hS_215 rfl (L1 := [(r0, 16, 29, .int wt_116), (r0, 16, 26, .int qn_1), (r0, 16, 30, .int pe), (r0, 16, 19, .ref xn)]) [0, 1, 2, 3] rfl rfl (M1 := [(xn, 119, 3100, ca 1, nx_1)]) [0] rfl rfl (I1 := []) [] rfl rfl).more hb_2155)
              clear hh_119 ht_215 hvm_215 hz_215 hk_215 hS_215 hb_2151 hb_2152 hb_2153 hb_2154 hb_2155
              obtain ⟨hr_216_0, hr_216_1, hr_216_2⟩ := hr_216
              refine lv_i2l hx hb dX14_readNumber_77 rfl ?_
              refine lv_topl (fun z_217 ez_217 => ?_)
              refine lv_ladd hx hb dX14_readNumber_78 ?_
              refine lv_topl (fun z_218 ez_218 => ?_)
              refine lv_ldc2 hx hb hown (htw (.constantLong RX14 324 48) (jWr_53 _ (List.mem_of_getElem? (i := 1) rfl))) dX14_readNumber_79 ?_
              refine lv_lsub hx hb dX14_readNumber_82 ?_
              refine lv_topl (fun z_219 ez_219 => ?_)
              refine lv_lstore (lv' := [(4, .long z_219), (0, .ref r0), (1, .int r_2), (2, .int 1), (3, .int wt_115)]) hx hb dX14_readNumber_83 hl (by decide) rfl (fun ls hl => ?_)
              refine lv_aload_n hx hb dX14_readNumber_85 rfl (lv_at hl 1 rfl) ?_
              refine lv_dup hx hb dX14_readNumber_86 rfl ?_
              refine j7_read hx hb hown hK (C := RX14) (T := TX14) (N := 74) rfl hly_16_29 hlk_273 (hh_215.at 0 rfl) dX14_readNumber_87 ?_
              refine lv_iconst (v := 1) hx hb dX14_readNumber_90 (by decide) ?_
              refine lv_iadd hx hb dX14_readNumber_91 ?_
              refine lv_topi (fun z_220 ez_220 => ?_)
              have hz_220 : z_220.toInt = wt_116.toInt + 1 := by rw [ez_220]; exact jb_iadd2 (rfl) ((by decide)) (by omega)
              refine j7_put hx hb hown hK hh_215 hB hAp hB16 (C := RX14) (T := TX14) (N := 74) rfl (by decide) hg_r0 (i := 29) (by decide) hly_16_29 rfl hlk_273 rfl (ty := .int) (v := .int z_220) (by decide +kernel) rfl rfl (⟨_, rfl, by omega, by omega⟩) rfl (L1 := [(r0, 16, 26, .int qn_1), (r0, 16, 30, .int pe), (r0, 16, 19, .ref xn)]) [1, 2, 3] rfl rfl rfl dX14_readNumber_92 (fun H_221 locs_221 hh_221 => ?_)
              clear hh_215
              refine lv_goto (tgt := 43) hx hb dX14_readNumber_95 (by decide) ?_
              exact L43 z_219 z_220 _ _ hh_221 (by first | omega | (refine ⟨?_, ?_⟩ <;> (first | omega | rfl | assumption | decide | exact Or.inl rfl | exact Or.inr rfl | (simp only; omega)))) (by omega) _ (lv_sub hl [1, 2, 3, 4, 0] rfl)
            · skip
              have c_213' : z_212.toInt > 0 := jb_le_n (rfl) ((by decide)) c_213
              refine lv_lload hx hb dX14_readNumber_62 (lv_at hl 4 rfl) ?_
              refine lv_goto (tgt := 83) hx hb dX14_readNumber_64 (by decide) ?_
              refine lv_lstore (lv' := [(4, .long v4_116), (0, .ref r0), (1, .int r_2), (2, .int 1), (3, .int wt_115)]) hx hb dX14_readNumber_83 hl (by decide) rfl (fun ls hl => ?_)
              refine lv_aload_n hx hb dX14_readNumber_85 rfl (lv_at hl 1 rfl) ?_
              refine lv_dup hx hb dX14_readNumber_86 rfl ?_
              refine j7_read hx hb hown hK (C := RX14) (T := TX14) (N := 74) rfl hly_16_29 hlk_273 (hh_119.at 0 rfl) dX14_readNumber_87 ?_
              refine lv_iconst (v := 1) hx hb dX14_readNumber_90 (by decide) ?_
              refine lv_iadd hx hb dX14_readNumber_91 ?_
              refine lv_topi (fun z_222 ez_222 => ?_)
              have hz_222 : z_222.toInt = wt_116.toInt + 1 := by rw [ez_222]; exact jb_iadd2 (rfl) ((by decide)) (by omega)
              refine j7_put hx hb hown hK hh_119 hB hAp hB16 (C := RX14) (T := TX14) (N := 74) rfl (by decide) hg_r0 (i := 29) (by decide) hly_16_29 rfl hlk_273 rfl (ty := .int) (v := .int z_222) (by decide +kernel) rfl rfl (⟨_, rfl, by omega, by omega⟩) rfl (L1 := [(r0, 16, 26, .int qn_1), (r0, 16, 30, .int pe), (r0, 16, 19, .ref xn)]) [1, 2, 3] rfl rfl rfl dX14_readNumber_92 (fun H_223 locs_223 hh_223 => ?_)
              clear hh_119
              refine lv_goto (tgt := 43) hx hb dX14_readNumber_95 (by decide) ?_
              exact L43 v4_116 z_222 _ _ hh_223 (by first | omega | (refine ⟨?_, ?_⟩ <;> (first | omega | rfl | assumption | decide | exact Or.inl rfl | exact Or.inr rfl | (simp only; omega)))) (by omega) _ (lv_sub hl [1, 2, 3, 4, 0] rfl)
      exact L43 (pe.toInt - (wt_115 : Int32).toInt : Int).toNat.succ 0 wt_115 _ _ hh_115 (by first | omega | (refine ⟨?_, ?_⟩ <;> (first | omega | rfl | assumption | decide | exact Or.inl rfl | exact Or.inr rfl | (simp only; omega)))) (by omega) _ (lv_sub hl [2, 3, 4, 1, 0] rfl)
    refine lv_if_eq (tgt := 35) hx hb dX14_readNumber_22 (by decide) (fun c_224 => ?_) (fun c_224 => ?_)
    · skip
      exact absurd c_224 (by decide)
    · skip
      refine lv_aload_n hx hb dX14_readNumber_25 rfl (lv_at hl 2 rfl) ?_
      refine lv_dup hx hb dX14_readNumber_26 rfl ?_
      refine j7_read hx hb hown hK (C := RX14) (T := TX14) (N := 74) rfl hly_16_29 hlk_273 (hh_3.at 1 rfl) dX14_readNumber_27 ?_
      refine lv_iconst (v := 1) hx hb dX14_readNumber_30 (by decide) ?_
      refine lv_iadd hx hb dX14_readNumber_31 ?_
      refine lv_topi (fun z_225 ez_225 => ?_)
      have hz_225 : z_225.toInt = pt.toInt + 1 := by rw [ez_225]; exact jb_iadd2 (rfl) ((by decide)) (by omega)
      refine j7_put hx hb hown hK hh_3 hB hAp hB16 (C := RX14) (T := TX14) (N := 74) rfl (by decide) hg_r0 (i := 29) (by decide) hly_16_29 rfl hlk_273 rfl (ty := .int) (v := .int z_225) (by decide +kernel) rfl rfl (⟨_, rfl, by omega, by omega⟩) rfl (L1 := [(r0, 16, 26, .int qn_1), (r0, 16, 30, .int pe), (r0, 16, 19, .ref xn)]) [0, 2, 3] rfl rfl rfl dX14_readNumber_32 (fun H_226 locs_226 hh_226 => ?_)
      clear hh_3
      exact C35 z_225 _ _ hh_226 (by first | omega | (refine ⟨?_, ?_⟩ <;> (first | omega | rfl | assumption | decide | exact Or.inl rfl | exact Or.inr rfl | (simp only; omega)))) _ (lv_sub hl [2, 1, 0] rfl)
end
