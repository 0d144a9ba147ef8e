section
-- numbers: what a comparison, a sum, a mask says of the numbers as Ints
theorem jb_lt {x y : Int32} {a b : Int} (hx : x.toInt = a) (hy : y.toInt = b) (h : x < y) : a < b := by rw [← hx, ← hy]; exact Int32.lt_iff_toInt_lt.mp h
theorem jb_le {x y : Int32} {a b : Int} (hx : x.toInt = a) (hy : y.toInt = b) (h : x ≤ y) : a ≤ b := by rw [← hx, ← hy]; exact Int32.le_iff_toInt_le.mp h
theorem jb_lt_n {x y : Int32} {a b : Int} (hx : x.toInt = a) (hy : y.toInt = b) (h : ¬ x < y) : a ≥ b := by
  have h1 : ¬ x.toInt < y.toInt := fun q => h (Int32.lt_iff_toInt_lt.mpr q)
  omega
theorem jb_le_n {x y : Int32} {a b : Int} (hx : x.toInt = a) (hy : y.toInt = b) (h : ¬ x ≤ y) : a > b := by
  have h1 : ¬ x.toInt ≤ y.toInt := fun q => h (Int32.le_iff_toInt_le.mpr q)
  omega
theorem jb_ge {x y : Int32} {a b : Int} (hx : x.toInt = a) (hy : y.toInt = b) (h : y ≤ x) : a ≥ b := jb_le hy hx h
theorem jb_ge_n {x y : Int32} {a b : Int} (hx : x.toInt = a) (hy : y.toInt = b) (h : ¬ y ≤ x) : a < b := jb_le_n hy hx h
theorem jb_gt {x y : Int32} {a b : Int} (hx : x.toInt = a) (hy : y.toInt = b) (h : y < x) : a > b := jb_lt hy hx h
theorem jb_gt_n {x y : Int32} {a b : Int} (hx : x.toInt = a) (hy : y.toInt = b) (h : ¬ y < x) : a ≤ b := jb_lt_n hy hx h
theorem jb_eq {x y : Int32} {a b : Int} (hx : x.toInt = a) (hy : y.toInt = b) (h : x = y) : a = b := by rw [← hx, ← hy, h]
theorem jb_eq_n {x y : Int32} {a b : Int} (hx : x.toInt = a) (hy : y.toInt = b) (h : ¬ x = y) : a ≠ b := by
  intro q
  exact h (Int32.toInt_inj.mp (by rw [hx, hy, q]))
theorem jb_ne {x y : Int32} {a b : Int} (hx : x.toInt = a) (hy : y.toInt = b) (h : ¬ x = y) : a ≠ b := jb_eq_n hx hy h
theorem jb_ne_n {x y : Int32} {a b : Int} (hx : x.toInt = a) (hy : y.toInt = b) (h : x = y) : a = b := jb_eq hx hy h
theorem jb_bm {z : Int} (h1 : -2147483648 ≤ z) (h2 : z ≤ 2147483647) : z.bmod (2 ^ 32) = z := by
  rw [Int.bmod_eq_of_le] <;> omega
theorem jb_iadd {x y : Int32} {a b : Int} (hx : x.toInt = a) (hy : y.toInt = b) (h1 : -2147483648 ≤ a + b) (h2 : a + b ≤ 2147483647) : (x + y).toInt = a + b := by
  rw [Int32.toInt_add, hx, hy]; exact jb_bm h1 h2
theorem jb_isub {x y : Int32} {a b : Int} (hx : x.toInt = a) (hy : y.toInt = b) (h1 : -2147483648 ≤ a - b) (h2 : a - b ≤ 2147483647) : (x - y).toInt = a - b := by
  rw [Int32.toInt_sub, hx, hy]; exact jb_bm h1 h2
theorem jb_imul {x y : Int32} {a b : Int} (hx : x.toInt = a) (hy : y.toInt = b) (h1 : -2147483648 ≤ a * b) (h2 : a * b ≤ 2147483647) : (x * y).toInt = a * b := by
  rw [Int32.toInt_mul, hx, hy]; exact jb_bm h1 h2
theorem jb_rng (x : Int32) : -2147483648 ≤ x.toInt ∧ x.toInt ≤ 2147483647 := ⟨Int32.le_toInt x, Int32.toInt_le x⟩
theorem jb_nat {n : Nat} (h : n < 2147483648) : (Int32.ofNat n).toInt = (n : Int) := nI_toInt (by omega)
theorem jb_in {i : Int32} {a : Int} {n : Nat} (hi : i.toInt = a) (h1 : 0 ≤ a) (h2 : a < n) : vp_in i n := vp_in_iff.mpr ⟨by omega, by omega⟩
theorem jb_and (x : Int32) {m : Int32} {k : Nat} (hm : m.toBitVec.toNat = 2 ^ k - 1) (hk : k ≤ 30 := by decide) : 0 ≤ (x &&& m).toInt ∧ (x &&& m).toInt ≤ (2 ^ k : Nat) - 1 := by
  obtain ⟨j, hj, e⟩ := pk_andE x k hm
  have h30 : 2 ^ k ≤ 2 ^ 30 := Nat.pow_le_pow_right (by decide) hk
  rw [e, nI_toInt (by omega)]
  omega
theorem jb_nz {v : Int32} (h : v = 0 ∨ v = 1) : narrow .boolean (.int v) = .int v := by
  rcases h with rfl | rfl <;> rfl
end
section
theorem jTot_same {H H1 : Heap} (hsz : H1.size = H.size) (h : ∀ q : Nat, (H1[q]?).map (·.slots.size) = (H[q]?).map (·.slots.size)) : jTot H1 = jTot H := by
  unfold jTot
  congr 1
  apply List.ext_getElem?
  intro i
  rw [List.getElem?_map, List.getElem?_map, Array.getElem?_toList, Array.getElem?_toList]
  exact h i
theorem jTot_set {H H1 : Heap} {a : Nat} {c c1 : Cell} (hsz : H1.size = H.size) (h1 : H[a]? = some c) (h2 : H1[a]? = some c1) (hs : c1.slots.size = c.slots.size) (ho : ∀ q, q ≠ a → H1[q]? = H[q]?) : jTot H1 = jTot H := by
  refine jTot_same hsz (fun q => ?_)
  by_cases e : q = a
  · rw [e, h1, h2]; simp [hs]
  · rw [ho q e]
theorem jSet_sz (c : Cell) (i : Nat) (v : Value) : (c.setSlot i v).slots.size = c.slots.size := by simp [Cell.setSlot]
section JR
variable {p : Program} {l : Launch} {e : Env} {R : Room} {s : State} {m : MethodId} {args : Array Value} {below : List Frame} {meth : Method} {c : Code} {H : Heap} {locs : List Loc} {cells slots : Nat} {Q : State → Prop}
variable {cc : ByteArray} {pc : Nat} {ls : Array Slot} {rest : List Value} {D : va_G} {cl : List vw_C} {A : Nat → Prop} {a : Nat} {tys : List (ClassId × FieldType)}
theorem jp_one {q : Nat × va_E} (h : va_at D cl q H) : va_P D cl [q] H := by
  intro k r hr
  match k, hr with
  | 0, hr => cases hr; exact h
  | k + 1, hr => simp at hr
theorem j_iast (hexec : p.tables.exec = Jvm.exec) (hb : c.code = cc) (hK : va_K D cl tys s) (t0 : Nat) {cA : ClassId} {n : Nat} {f : Nat → Int32} (hat : va_at D cl (a, .inl (cA, n, .inl f)) H) (hA : A a) (hL : ∀ q ∈ locs, A q.base) (ht : tys[t0]? = some (cA, .int)) {i : Int32} {x : Int32} (hin : vp_in i n) (hdg : decode cc pc = .ok (.iastore, 1))
    (kk : ∀ (H1 : Heap) (locs1 : List Loc), va_at D cl (a, .inl (cA, n, .inl (upd f i.toNatClampNeg x))) H1 → H1.size = H.size → (∀ q, q ≠ a → H1[q]? = H[q]?) → jTot H1 = jTot H → (∀ q ∈ locs1, A q.base) → W p l e R s m args below meth c H1 locs1 cells slots Q (F0 m (pc + 1) ls rest)) : W p l e R s m args below meth c H locs cells slots Q (F0 m pc ls (.int x :: .int i :: .ref a :: rest)) := by
  refine W.iast hexec hb hat ((hK.2 t0 _ ht).1 n (fun j => .int (f j))) (fun q => by cases q) (by show ¬ (i < 0 ∨ (arrV _ _ _).slots.size ≤ _); rw [arrV_size]; exact hin) rfl rfl hdg fun H1 e z oq => ?_
  refine kk H1 _ ?_ z oq (jTot_set z hat e (jSet_sz _ _ _) oq) ?_
  · show H1[a]? = some (vp_cell _ _)
    rw [e]
    rw [vp_cell_i, vp_cell_i, arrV_store]
    congr 2
    funext q
    by_cases hq : q = i.toNatClampNeg
    · subst hq
      simp [updV, upd]
    · simp [updV, upd, hq]
  · intro q hq
    rcases List.mem_append.mp hq with h | h
    · exact hL q h
    · cases List.mem_singleton.mp h; exact hA
end JR
end
section
-- what the walks take of the launch: the classes, the nest mates' links, the text constants, the statics (all outside of what a walk writes: addresses from base on)
theorem jb_fz {v : Int32} (h : v = 0 ∨ v = 1) : fits .boolean (.int v) = true := by
  rcases h with rfl | rfl <;> rfl
theorem jG.calling {dC : Nat → ClassId} {dI : Nat → Nat → Nat} {ca : Nat → ClassId} {base : Nat} {U : State} (g : JFrame) (mk : MethodId) (a : Array Value) (h : jG dC dI ca base U) : jG dC dI ca base (U.calling g mk a) := by
  obtain ⟨h1, h2, h3, h4, h5⟩ := h
  have hv : U.vm.Alike (U.calling g mk a).vm := Vm.Alike.refl U.vm
  refine ⟨va_K.moved hv h1, fun a i b n d h q => va_Nw.same rfl rfl (h2 a i b n d h q), fun a i y h q => va_Nw.same rfl rfl (h3 a i y h q), fun o k tx q => ?_, h5.moved hv⟩
  obtain ⟨a, h6, h7⟩ := h4 o k tx q
  exact ⟨a, h6.same rfl, h7.moved hv⟩
theorem jS_put {base a : Nat} {H0 H H1 : Heap} {locs locs1 : List Loc} (hS : va_S (jA base) H0 H locs) (hz : H1.size = H.size) (hfr : ∀ q, q ≠ a → H1[q]? = H[q]?) (hA : base ≤ a) (hL : ∀ q ∈ locs1, base ≤ q.base) : va_S (jA base) H0 H1 locs1 :=
  ⟨by rw [hz]; exact hS.1, fun q h1 h2 => (hfr q (fun h => h2 (by rw [h]; exact hA))).trans (hS.2.1 q h1 h2), hL⟩
theorem jb_ishr {x s : Int32} {a : Int} (k : Nat) (hx : x.toInt = a) (hs : ((s &&& 31).toBitVec.smod 32).toNat = k) : (x >>> (s &&& 31)).toInt = a / 2 ^ k := by
  rw [pk_shr _ _ k hs, hx, Int.shiftRight_eq_div_pow]; simp
theorem jb_char (x : Int32) : 0 ≤ ((x &&& 255).toUInt32 % 65536).toInt32.toInt ∧ ((x &&& 255).toUInt32 % 65536).toInt32.toInt ≤ 255 := by
  rw [sc_c2]
  exact jb_and x (m := 255) (k := 8) (by decide) (by decide)
theorem jb_01 {r : Int32} (h : r = 0 ∨ r = 1) : r.toInt = 0 ∨ r.toInt = 1 := h.elim (fun h => Or.inl (by rw [h]; decide)) (fun h => Or.inr (by rw [h]; decide))
theorem jStr_recv {base a n : Nat} {s : State} {H : Heap} {locs : List Loc} (h : jStr base a n s s.heap) (hS : va_S (jA base) s.heap H locs) : ∃ cell : Cell, H[a]? = some cell ∧ cell.vm.isStatics = false ∧ s.vm.findClass "java/lang/String" = some cell.cls := by
  obtain ⟨cell, h1, h2, h3, -⟩ := h.1.kept hS.2.1
  exact ⟨cell, h1, h2, h3⟩
theorem jb_nch {r : Int32} (h1 : 0 ≤ r.toInt) (h2 : r.toInt ≤ 255) : narrow .char (.int r) = .int r := by
  have h0 : (0 : Int32).toInt = 0 := by decide
  have h5 : (255 : Int32).toInt = 255 := by decide
  have a1 : ¬ r < 0 := fun h => by
    have h6 := Int32.lt_iff_toInt_lt.mp h
    omega
  have a2 : r ≤ 255 := Int32.le_iff_toInt_le.mpr (by omega)
  obtain ⟨j, hj, e⟩ := nI_of2 (M := 255) (n := 255) (by decide) a1 a2
  rw [e]
  exact (pk_charN (by omega)).1
theorem jG.strT {dC : Nat → ClassId} {dI : Nat → Nat → Nat} {ca : Nat → ClassId} {base : Nat} {U : State} (h : jG dC dI ca base U) {o tx : String} {k : Nat} (hm : Cond.stringRef o k tx ∈ tables_1) : ∃ a, vk_R o k tx a U ∧ jStrT base a tx U U.heap := h.2.2.2.1 o k tx hm
end
section
theorem dJ0_length_8abf5_0 : decode cJ0_length_8abf5 0 = .ok (.aload_n 0, 1) := by decide +kernel
theorem dJ0_length_8abf5_1 : decode cJ0_length_8abf5 1 = .ok (.getfield 9, 3) := by decide +kernel
theorem dJ0_length_8abf5_4 : decode cJ0_length_8abf5 4 = .ok (.arraylength, 1) := by decide +kernel
theorem dJ0_length_8abf5_5 : decode cJ0_length_8abf5 5 = .ok (.aload_n 0, 1) := by decide +kernel
theorem dJ0_length_8abf5_6 : decode cJ0_length_8abf5 6 = .ok (.invokevirtual 335, 3) := by decide +kernel
theorem dJ0_length_8abf5_9 : decode cJ0_length_8abf5 9 = .ok (.ishr, 1) := by decide +kernel
theorem dJ0_length_8abf5_10 : decode cJ0_length_8abf5 10 = .ok (.ireturn, 1) := by decide +kernel
theorem dJ0_charAt_5068e_0 : decode cJ0_charAt_5068e 0 = .ok (.aload_n 0, 1) := by decide +kernel
theorem dJ0_charAt_5068e_1 : decode cJ0_charAt_5068e 1 = .ok (.invokevirtual 492, 3) := by decide +kernel
theorem dJ0_charAt_5068e_4 : decode cJ0_charAt_5068e 4 = .ok (.ifCond .eq 12, 3) := by decide +kernel
theorem dJ0_charAt_5068e_7 : decode cJ0_charAt_5068e 7 = .ok (.aload_n 0, 1) := by decide +kernel
theorem dJ0_charAt_5068e_8 : decode cJ0_charAt_5068e 8 = .ok (.getfield 9, 3) := by decide +kernel
theorem dJ0_charAt_5068e_11 : decode cJ0_charAt_5068e 11 = .ok (.iload_n 1, 1) := by decide +kernel
theorem dJ0_charAt_5068e_12 : decode cJ0_charAt_5068e 12 = .ok (.invokestatic 495, 3) := by decide +kernel
theorem dJ0_charAt_5068e_15 : decode cJ0_charAt_5068e 15 = .ok (.ireturn, 1) := by decide +kernel
theorem dJ0_coder_7d493_0 : decode cJ0_coder_7d493 0 = .ok (.getstatic 38, 3) := by decide +kernel
theorem dJ0_coder_7d493_3 : decode cJ0_coder_7d493 3 = .ok (.ifCond .eq 10, 3) := by decide +kernel
theorem dJ0_coder_7d493_6 : decode cJ0_coder_7d493 6 = .ok (.aload_n 0, 1) := by decide +kernel
theorem dJ0_coder_7d493_7 : decode cJ0_coder_7d493 7 = .ok (.getfield 15, 3) := by decide +kernel
theorem dJ0_coder_7d493_10 : decode cJ0_coder_7d493 10 = .ok (.goto 4, 3) := by decide +kernel
theorem dJ0_coder_7d493_14 : decode cJ0_coder_7d493 14 = .ok (.ireturn, 1) := by decide +kernel
theorem dJ0_isLatin1_aae02_0 : decode cJ0_isLatin1_aae02 0 = .ok (.getstatic 38, 3) := by decide +kernel
theorem dJ0_isLatin1_aae02_3 : decode cJ0_isLatin1_aae02 3 = .ok (.ifCond .eq 14, 3) := by decide +kernel
theorem dJ0_isLatin1_aae02_6 : decode cJ0_isLatin1_aae02 6 = .ok (.aload_n 0, 1) := by decide +kernel
theorem dJ0_isLatin1_aae02_7 : decode cJ0_isLatin1_aae02 7 = .ok (.getfield 15, 3) := by decide +kernel
theorem dJ0_isLatin1_aae02_10 : decode cJ0_isLatin1_aae02 10 = .ok (.ifCond .ne 7, 3) := by decide +kernel
theorem dJ0_isLatin1_aae02_13 : decode cJ0_isLatin1_aae02 13 = .ok (.iconst 1, 1) := by decide +kernel
theorem dJ0_isLatin1_aae02_14 : decode cJ0_isLatin1_aae02 14 = .ok (.goto 4, 3) := by decide +kernel
theorem dJ0_isLatin1_aae02_18 : decode cJ0_isLatin1_aae02 18 = .ok (.ireturn, 1) := by decide +kernel
theorem dJ0_checkIndex_df160_0 : decode cJ0_checkIndex_df160 0 = .ok (.iload_n 0, 1) := by decide +kernel
theorem dJ0_checkIndex_df160_1 : decode cJ0_checkIndex_df160 1 = .ok (.iload_n 1, 1) := by decide +kernel
theorem dJ0_checkIndex_df160_2 : decode cJ0_checkIndex_df160 2 = .ok (.getstatic 1053, 3) := by decide +kernel
theorem dJ0_checkIndex_df160_5 : decode cJ0_checkIndex_df160 5 = .ok (.invokestatic 1059, 3) := by decide +kernel
theorem dJ0_checkIndex_df160_8 : decode cJ0_checkIndex_df160 8 = .ok (.pop, 1) := by decide +kernel
theorem dJ0_checkIndex_df160_9 : decode cJ0_checkIndex_df160 9 = .ok (.return_, 1) := by decide +kernel
theorem dJ1_charAt_3b067_0 : decode cJ1_charAt_3b067 0 = .ok (.iload_n 1, 1) := by decide +kernel
theorem dJ1_charAt_3b067_1 : decode cJ1_charAt_3b067 1 = .ok (.aload_n 0, 1) := by decide +kernel
theorem dJ1_charAt_3b067_2 : decode cJ1_charAt_3b067 2 = .ok (.arraylength, 1) := by decide +kernel
theorem dJ1_charAt_3b067_3 : decode cJ1_charAt_3b067 3 = .ok (.invokestatic 9, 3) := by decide +kernel
theorem dJ1_charAt_3b067_6 : decode cJ1_charAt_3b067 6 = .ok (.aload_n 0, 1) := by decide +kernel
theorem dJ1_charAt_3b067_7 : decode cJ1_charAt_3b067 7 = .ok (.iload_n 1, 1) := by decide +kernel
theorem dJ1_charAt_3b067_8 : decode cJ1_charAt_3b067 8 = .ok (.baload, 1) := by decide +kernel
theorem dJ1_charAt_3b067_9 : decode cJ1_charAt_3b067 9 = .ok (.sipush 255, 3) := by decide +kernel
theorem dJ1_charAt_3b067_12 : decode cJ1_charAt_3b067 12 = .ok (.iand, 1) := by decide +kernel
theorem dJ1_charAt_3b067_13 : decode cJ1_charAt_3b067 13 = .ok (.i2c, 1) := by decide +kernel
theorem dJ1_charAt_3b067_14 : decode cJ1_charAt_3b067 14 = .ok (.ireturn, 1) := by decide +kernel
theorem dJ3_checkIndex_8e157_0 : decode cJ3_checkIndex_8e157 0 = .ok (.iload_n 0, 1) := by decide +kernel
theorem dJ3_checkIndex_8e157_1 : decode cJ3_checkIndex_8e157 1 = .ok (.ifCond .lt 8, 3) := by decide +kernel
theorem dJ3_checkIndex_8e157_4 : decode cJ3_checkIndex_8e157 4 = .ok (.iload_n 0, 1) := by decide +kernel
theorem dJ3_checkIndex_8e157_5 : decode cJ3_checkIndex_8e157 5 = .ok (.iload_n 1, 1) := by decide +kernel
theorem dJ3_checkIndex_8e157_6 : decode cJ3_checkIndex_8e157 6 = .ok (.if_icmp .lt 10, 3) := by decide +kernel
theorem dJ3_checkIndex_8e157_16 : decode cJ3_checkIndex_8e157 16 = .ok (.iload_n 0, 1) := by decide +kernel
theorem dJ3_checkIndex_8e157_17 : decode cJ3_checkIndex_8e157 17 = .ok (.ireturn, 1) := by decide +kernel
end
section
-- the typed heap: a root has a kind below 1000; the cells that belong to a root are marked (1000 + place, root); B says what a root of a kind and its cells hold
theorem jX.fresh {B : jF} {base : Nat} {G : jT} {X : List Nat} {H : Heap} (h : jX B base G X H) : G H.size = none := by
  cases e : G H.size with
  | none => rfl
  | some t => exact absurd (h.2 _ _ e).2 (Nat.lt_irrefl _)
theorem jLe.new {G : jT} {q : Nat} {t : Nat × Nat} (h : G q = none) : jLe G (va_up G q (some t)) := by
  intro a u hu
  by_cases e : a = q
  · subst e; rw [h] at hu; cases hu
  · rw [va_up_ne _ _ e]; exact hu
/-- a new cell: a root that is still open, or a cell of a root -/
theorem jX.grow {B : jF} {base : Nat} {G : jT} {X : List Nat} {H H1 : Heap} (h : jX B base G X H) (hB : jBok B) (t : Nat × Nat) (hb : base ≤ H.size) (hsz : H1.size = H.size + 1) (hfr : ∀ p, p < H.size → H1[p]? = H[p]?) : jX B base (va_up G H.size (some t)) (H.size :: X) H1 := by
  have hn := h.fresh
  refine ⟨fun a k1 n1 h1 h2 h3 => ?_, fun a u hu => ?_⟩
  · have ha : a ≠ H.size := fun e => h3 (by rw [e]; exact List.mem_cons_self)
    rw [va_up_ne _ _ ha] at h1
    have h3' : a ∉ X := fun q => h3 (List.mem_cons_of_mem _ q)
    refine hB.2 k1 n1 G _ a H1 (jLe.new hn) (hB.1 k1 n1 G a H H1 (fun p hp => hfr p ?_) (h.1 a k1 n1 h1 h2 h3'))
    rcases hp with e | ⟨i, e⟩
    · rw [e]; exact (h.2 _ _ h1).2
    · exact (h.2 _ _ e).2
  · by_cases e : a = H.size
    · subst e; exact ⟨hb, by omega⟩
    · rw [va_up_ne _ _ e] at hu
      have := h.2 a u hu
      exact ⟨this.1, by omega⟩
theorem jUp_self {G : jT} {q : Nat} {t : Nat × Nat} : va_up G q (some t) q = some t := by simp [va_up]
theorem jb_cl {x : Int32} {a : Int} (hx : x.toInt = a) (h : 0 ≤ a) : x.toNatClampNeg = a.toNat := by
  show x.toInt.toNat = _
  rw [hx]
theorem jb_n0 {x : Int32} {a : Int} (hx : x.toInt = a) (h : 0 ≤ a) : ¬ x < 0 := by
  intro q
  have h1 := Int32.lt_iff_toInt_lt.mp q
  have h0 : (0 : Int32).toInt = 0 := by decide
  omega
theorem jb_min {x y z : Int32} (h : z = if y < x then y else x) : z.toInt ≤ x.toInt ∧ z.toInt ≤ y.toInt ∧ (z.toInt = x.toInt ∨ z.toInt = y.toInt) := by
  by_cases q : y < x
  · rw [if_pos q] at h
    have := jb_lt rfl rfl q
    rw [h]
    omega
  · rw [if_neg q] at h
    have := jb_lt_n rfl rfl q
    rw [h]
    omega
theorem jb_max {x y z : Int32} (h : z = if x < y then y else x) : x.toInt ≤ z.toInt ∧ y.toInt ≤ z.toInt ∧ (z.toInt = x.toInt ∨ z.toInt = y.toInt) := by
  by_cases q : x < y
  · rw [if_pos q] at h
    have := jb_lt rfl rfl q
    rw [h]
    omega
  · rw [if_neg q] at h
    have := jb_lt_n rfl rfl q
    rw [h]
    omega
end
section
theorem dX14_in_0 : decode cX14_in 0 = .ok (.iload_n 0, 1) := by decide +kernel
theorem dX14_in_1 : decode cX14_in 1 = .ok (.iload_n 1, 1) := by decide +kernel
theorem dX14_in_2 : decode cX14_in 2 = .ok (.if_icmp .lt 12, 3) := by decide +kernel
theorem dX14_in_5 : decode cX14_in 5 = .ok (.iload_n 0, 1) := by decide +kernel
theorem dX14_in_6 : decode cX14_in 6 = .ok (.iload_n 2, 1) := by decide +kernel
theorem dX14_in_7 : decode cX14_in 7 = .ok (.if_icmp .gt 7, 3) := by decide +kernel
theorem dX14_in_10 : decode cX14_in 10 = .ok (.iconst 1, 1) := by decide +kernel
theorem dX14_in_11 : decode cX14_in 11 = .ok (.goto 4, 3) := by decide +kernel
theorem dX14_in_14 : decode cX14_in 14 = .ok (.iconst 0, 1) := by decide +kernel
theorem dX14_in_15 : decode cX14_in 15 = .ok (.ireturn, 1) := by decide +kernel
theorem dX14_hex_0 : decode cX14_hex 0 = .ok (.iload_n 0, 1) := by decide +kernel
theorem dX14_hex_1 : decode cX14_hex 1 = .ok (.bipush 10, 2) := by decide +kernel
theorem dX14_hex_3 : decode cX14_hex 3 = .ok (.if_icmp .ge 10, 3) := by decide +kernel
theorem dX14_hex_6 : decode cX14_hex 6 = .ok (.bipush 48, 2) := by decide +kernel
theorem dX14_hex_8 : decode cX14_hex 8 = .ok (.iload_n 0, 1) := by decide +kernel
theorem dX14_hex_9 : decode cX14_hex 9 = .ok (.iadd, 1) := by decide +kernel
theorem dX14_hex_10 : decode cX14_hex 10 = .ok (.goto 10, 3) := by decide +kernel
theorem dX14_hex_13 : decode cX14_hex 13 = .ok (.bipush 97, 2) := by decide +kernel
theorem dX14_hex_15 : decode cX14_hex 15 = .ok (.iload_n 0, 1) := by decide +kernel
theorem dX14_hex_16 : decode cX14_hex 16 = .ok (.iadd, 1) := by decide +kernel
theorem dX14_hex_17 : decode cX14_hex 17 = .ok (.bipush 10, 2) := by decide +kernel
theorem dX14_hex_19 : decode cX14_hex 19 = .ok (.isub, 1) := by decide +kernel
theorem dX14_hex_20 : decode cX14_hex 20 = .ok (.ireturn, 1) := by decide +kernel
theorem dX14_isBlank_0 : decode cX14_isBlank 0 = .ok (.iload_n 0, 1) := by decide +kernel
theorem dX14_isBlank_1 : decode cX14_isBlank 1 = .ok (.bipush 32, 2) := by decide +kernel
theorem dX14_isBlank_3 : decode cX14_isBlank 3 = .ok (.if_icmp .eq 21, 3) := by decide +kernel
theorem dX14_isBlank_6 : decode cX14_isBlank 6 = .ok (.iload_n 0, 1) := by decide +kernel
theorem dX14_isBlank_7 : decode cX14_isBlank 7 = .ok (.bipush 9, 2) := by decide +kernel
theorem dX14_isBlank_9 : decode cX14_isBlank 9 = .ok (.if_icmp .eq 15, 3) := by decide +kernel
theorem dX14_isBlank_12 : decode cX14_isBlank 12 = .ok (.iload_n 0, 1) := by decide +kernel
theorem dX14_isBlank_13 : decode cX14_isBlank 13 = .ok (.bipush 10, 2) := by decide +kernel
theorem dX14_isBlank_15 : decode cX14_isBlank 15 = .ok (.if_icmp .eq 9, 3) := by decide +kernel
theorem dX14_isBlank_18 : decode cX14_isBlank 18 = .ok (.iload_n 0, 1) := by decide +kernel
theorem dX14_isBlank_19 : decode cX14_isBlank 19 = .ok (.bipush 13, 2) := by decide +kernel
theorem dX14_isBlank_21 : decode cX14_isBlank 21 = .ok (.if_icmp .ne 7, 3) := by decide +kernel
theorem dX14_isBlank_24 : decode cX14_isBlank 24 = .ok (.iconst 1, 1) := by decide +kernel
theorem dX14_isBlank_25 : decode cX14_isBlank 25 = .ok (.goto 4, 3) := by decide +kernel
theorem dX14_isBlank_28 : decode cX14_isBlank 28 = .ok (.iconst 0, 1) := by decide +kernel
theorem dX14_isBlank_29 : decode cX14_isBlank 29 = .ok (.ireturn, 1) := by decide +kernel
end
section
theorem W.room {p : Program} {l : Launch} {e : Env} {R : Room} {s : State} {m : MethodId} {args : Array Value} {below : List Frame} {meth : Method} {c : Code} {H : Heap} {locs : List Loc} {cells slots : Nat} {Q : State → Prop} {g : JFrame} (k : s.heap.size ≤ H.size → jTot s.heap ≤ jTot H → W p l e R s m args below meth c H locs (H.size - s.heap.size) (jTot H - jTot s.heap) Q g) : W p l e R s m args below meth c H locs cells slots Q g := by
  intro T hT X
  have e1 : (T.setVm s.vm).heap = H := hT
  obtain ⟨a1, a2, a3, a4, a5, a6⟩ := X.same
  rw [e1] at a2 a6
  have hkeep : (H.toList.take s.heap.size).map (·.slots.size) = s.heap.toList.map (·.slots.size) := by
    apply List.ext_getElem?
    intro i
    rw [List.getElem?_map, List.getElem?_map]
    by_cases hi : i < s.heap.size
    · rw [List.getElem?_take_of_lt hi]
      have hs : s.heap[i]? = some s.heap[i] := Array.getElem?_eq_getElem hi
      obtain ⟨c', h1, -, h3, -⟩ := a6 i _ hs
      rw [Array.getElem?_toList, Array.getElem?_toList, h1, hs]
      simp [h3]
    · have h1 : (H.toList.take s.heap.size)[i]? = none := by
        apply List.getElem?_eq_none
        simp; omega
      have h2 : s.heap.toList[i]? = none := by
        apply List.getElem?_eq_none
        simp; omega
      rw [h1, h2]
  have hsum : jTot H = jTot s.heap + ((H.toList.drop s.heap.size).map (·.slots.size)).sum := by
    unfold jTot
    rw [← hkeep, ← List.sum_append, ← List.map_append, List.take_append_drop]
  exact W.tight (c2 := H.size - s.heap.size) (n2 := jTot H - jTot s.heap) (by omega) (by omega) (k a2 (by omega)) T hT X
section JB2
variable {dC : Nat → ClassId} {dI : Nat → Nat → Nat} {ca : Nat → ClassId} {base : Nat} {B : jF} {LC LS : Nat} {G0 G G1 : jT} {X : List Nat} {a len0 len len1 : Nat} {cnt0 cnt cnt1 : Int32} {K K1 K2 : Nat} {H0 H H1 : Heap}
theorem jN2.cells (hN : jN2 LC LS len0 cnt0 K H0) (h : jPost2 dC dI ca base B G0 X a len0 cnt0 K1 H0 (G, len, cnt) H) (hK : K1 ≤ K) (kt : jTot H0 ≤ jTot H) : (H.size - H0.size) + (LC - H.size) ≤ LC - H0.size ∧ (jTot H - jTot H0) + (LS - jTot H) ≤ LS - jTot H0 ∧ H.size - H0.size ≤ LC - H0.size ∧ jTot H - jTot H0 ≤ LS - jTot H0 := by
  obtain ⟨a1, a2, a3, a4, a5, a6, a7, a8, a9, a10, a11, a12, a13⟩ := h
  obtain ⟨b1, b2, b3, b4, b5⟩ := hN
  simp only at *
  rcases b5 with e | ⟨e, e2, e3⟩
  · rcases a11 with e4 | ⟨e4, e5⟩
    · omega
    · omega
  · omega
theorem jBy.recv {s : State} (h : jBy dC dI ca G a len cnt H) (hK : va_K (dC, dI) vwCl (jty ca) s) : ∃ cell : Cell, H[a]? = some cell ∧ cell.vm.isStatics = false ∧ s.vm.findClass RX0 = some cell.cls := by
  obtain ⟨row, f, h1, -⟩ := h
  exact va_recv hK (jp_one h1) (ci := 2) (q0 := 0) rfl rfl
end JB2
end
section
-- contracts over the typed heap: which roots may change
theorem jModP.new {G0 : jT} {M : Nat → Prop} {H0 H H1 : Heap} {a : Nat} (h : jModP G0 M H0 H) (ha : H0.size ≤ a) (hfr : ∀ q, q ≠ a → H1[q]? = H[q]?) : jModP G0 M H0 H1 := fun q hq hn => (hfr q (by omega)).trans (h q hq hn)
section JL
variable {p : Program} {l : Launch} {e : Env} {R : Room} {s : State} {m : MethodId} {args : Array Value} {below : List Frame} {meth : Method} {c : Code} {H : Heap} {locs : List Loc} {cells slots : Nat} {Q : State → Prop}
variable {cc : ByteArray} {pc : Nat} {ls : Array Slot} {rest : List Value} {D : va_G} {cl : List vw_C} {A : Nat → Prop} {a : Nat} {tys : List (ClassId × FieldType)}
end JL
theorem jb_cl_lt {i : Int32} {a : Int} {n : Nat} (hi : i.toInt = a) (h1 : 0 ≤ a) (h2 : a < n) : i.toNatClampNeg < n := by
  rw [jb_cl hi h1]; omega
end
section
abbrev jw (y : MethodName) (c : ByteArray) (n : Nat) (r : Option FieldType) : List Cond := .code y c n r :: jWl
theorem jT1 : ∀ w ∈ jTl1, w ∈ jWl := fun w h => (List.mem_append_left _ (List.mem_append_left _ (List.mem_append_left _ (List.mem_append_left _ (List.mem_append_left _ (List.mem_append_left _ (List.mem_append_left _ (List.mem_append_left _ (List.mem_append_left _ (List.mem_append_left _ (List.mem_append_left _ (List.mem_append_left _ (List.mem_append_left _ (List.mem_append_left _ (List.mem_append_left _ (List.mem_append_left _ (List.mem_append_left _ (List.mem_append_left _ h))))))))))))))))))
theorem jT2 : ∀ w ∈ jTl2, w ∈ jWl := fun w h => jT1 w (List.mem_append_right _ h)
theorem jT3 : ∀ w ∈ jTl3, w ∈ jWl := fun w h => jT2 w (List.mem_append_right _ h)
theorem jT4 : ∀ w ∈ jTl4, w ∈ jWl := fun w h => jT3 w (List.mem_append_right _ h)
theorem jT5 : ∀ w ∈ jTl5, w ∈ jWl := fun w h => jT4 w (List.mem_append_right _ h)
theorem jT6 : ∀ w ∈ jTl6, w ∈ jWl := fun w h => jT5 w (List.mem_append_right _ h)
theorem jT7 : ∀ w ∈ jTl7, w ∈ jWl := fun w h => jT6 w (List.mem_append_right _ h)
theorem jT8 : ∀ w ∈ jTl8, w ∈ jWl := fun w h => jT7 w (List.mem_append_right _ h)
theorem jT9 : ∀ w ∈ jTl9, w ∈ jWl := fun w h => jT8 w (List.mem_append_right _ h)
theorem jT10 : ∀ w ∈ jTl10, w ∈ jWl := fun w h => jT9 w (List.mem_append_right _ h)
theorem jT11 : ∀ w ∈ jTl11, w ∈ jWl := fun w h => jT10 w (List.mem_append_right _ h)
theorem jT12 : ∀ w ∈ jTl12, w ∈ jWl := fun w h => jT11 w (List.mem_append_right _ h)
theorem jT13 : ∀ w ∈ jTl13, w ∈ jWl := fun w h => jT12 w (List.mem_append_right _ h)
theorem jT14 : ∀ w ∈ jTl14, w ∈ jWl := fun w h => jT13 w (List.mem_append_right _ h)
theorem jT15 : ∀ w ∈ jTl15, w ∈ jWl := fun w h => jT14 w (List.mem_append_right _ h)
theorem jT16 : ∀ w ∈ jTl16, w ∈ jWl := fun w h => jT15 w (List.mem_append_right _ h)
theorem jT17 : ∀ w ∈ jTl17, w ∈ jWl := fun w h => jT16 w (List.mem_append_right _ h)
theorem jT18 : ∀ w ∈ jTl18, w ∈ jWl := fun w h => jT17 w (List.mem_append_right _ h)
theorem jT19 : ∀ w ∈ jTl19, w ∈ jWl := fun w h => jT18 w (List.mem_append_right _ h)
theorem jT20 : ∀ w ∈ jTl20, w ∈ jWl := fun w h => jT19 w (List.mem_append_right _ h)
theorem jT21 : ∀ w ∈ jTl21, w ∈ jWl := fun w h => jT20 w (List.mem_append_right _ h)
theorem jT22 : ∀ w ∈ jTl22, w ∈ jWl := fun w h => jT21 w (List.mem_append_right _ h)
theorem jT23 : ∀ w ∈ jTl23, w ∈ jWl := fun w h => jT22 w (List.mem_append_right _ h)
theorem jT24 : ∀ w ∈ jTl24, w ∈ jWl := fun w h => jT23 w (List.mem_append_right _ h)
theorem jT25 : ∀ w ∈ jTl25, w ∈ jWl := fun w h => jT24 w (List.mem_append_right _ h)
theorem jT26 : ∀ w ∈ jTl26, w ∈ jWl := fun w h => jT25 w (List.mem_append_right _ h)
theorem jT27 : ∀ w ∈ jTl27, w ∈ jWl := fun w h => jT26 w (List.mem_append_right _ h)
theorem jT28 : ∀ w ∈ jTl28, w ∈ jWl := fun w h => jT27 w (List.mem_append_right _ h)
theorem jT29 : ∀ w ∈ jTl29, w ∈ jWl := fun w h => jT28 w (List.mem_append_right _ h)
theorem jT30 : ∀ w ∈ jTl30, w ∈ jWl := fun w h => jT29 w (List.mem_append_right _ h)
theorem jT31 : ∀ w ∈ jTl31, w ∈ jWl := fun w h => jT30 w (List.mem_append_right _ h)
theorem jT32 : ∀ w ∈ jTl32, w ∈ jWl := fun w h => jT31 w (List.mem_append_right _ h)
theorem jT33 : ∀ w ∈ jTl33, w ∈ jWl := fun w h => jT32 w (List.mem_append_right _ h)
theorem jT34 : ∀ w ∈ jTl34, w ∈ jWl := fun w h => jT33 w (List.mem_append_right _ h)
theorem jT35 : ∀ w ∈ jTl35, w ∈ jWl := fun w h => jT34 w (List.mem_append_right _ h)
theorem jT36 : ∀ w ∈ jTl36, w ∈ jWl := fun w h => jT35 w (List.mem_append_right _ h)
theorem jT37 : ∀ w ∈ jTl37, w ∈ jWl := fun w h => jT36 w (List.mem_append_right _ h)
theorem jT38 : ∀ w ∈ jTl38, w ∈ jWl := fun w h => jT37 w (List.mem_append_right _ h)
theorem jT39 : ∀ w ∈ jTl39, w ∈ jWl := fun w h => jT38 w (List.mem_append_right _ h)
theorem jT40 : ∀ w ∈ jTl40, w ∈ jWl := fun w h => jT39 w (List.mem_append_right _ h)
theorem jT41 : ∀ w ∈ jTl41, w ∈ jWl := fun w h => jT40 w (List.mem_append_right _ h)
theorem jT42 : ∀ w ∈ jTl42, w ∈ jWl := fun w h => jT41 w (List.mem_append_right _ h)
theorem jT43 : ∀ w ∈ jTl43, w ∈ jWl := fun w h => jT42 w (List.mem_append_right _ h)
theorem jT44 : ∀ w ∈ jTl44, w ∈ jWl := fun w h => jT43 w (List.mem_append_right _ h)
theorem jT45 : ∀ w ∈ jTl45, w ∈ jWl := fun w h => jT44 w (List.mem_append_right _ h)
theorem jT46 : ∀ w ∈ jTl46, w ∈ jWl := fun w h => jT45 w (List.mem_append_right _ h)
theorem jT47 : ∀ w ∈ jTl47, w ∈ jWl := fun w h => jT46 w (List.mem_append_right _ h)
theorem jT48 : ∀ w ∈ jTl48, w ∈ jWl := fun w h => jT47 w (List.mem_append_right _ h)
theorem jT49 : ∀ w ∈ jTl49, w ∈ jWl := fun w h => jT48 w (List.mem_append_right _ h)
theorem jT50 : ∀ w ∈ jTl50, w ∈ jWl := fun w h => jT49 w (List.mem_append_right _ h)
theorem jT51 : ∀ w ∈ jTl51, w ∈ jWl := fun w h => jT50 w (List.mem_append_right _ h)
theorem jT52 : ∀ w ∈ jTl52, w ∈ jWl := fun w h => jT51 w (List.mem_append_right _ h)
theorem jT53 : ∀ w ∈ jTl53, w ∈ jWl := fun w h => jT52 w (List.mem_append_right _ h)
theorem jT54 : ∀ w ∈ jTl54, w ∈ jWl := fun w h => jT53 w (List.mem_append_right _ h)
theorem jT55 : ∀ w ∈ jTl55, w ∈ jWl := fun w h => jT54 w (List.mem_append_right _ h)
theorem jT56 : ∀ w ∈ jTl56, w ∈ jWl := fun w h => jT55 w (List.mem_append_right _ h)
theorem jT57 : ∀ w ∈ jTl57, w ∈ jWl := fun w h => jT56 w (List.mem_append_right _ h)
theorem jT58 : ∀ w ∈ jTl58, w ∈ jWl := fun w h => jT57 w (List.mem_append_right _ h)
theorem jT59 : ∀ w ∈ jTl59, w ∈ jWl := fun w h => jT58 w (List.mem_append_right _ h)
theorem jT60 : ∀ w ∈ jTl60, w ∈ jWl := fun w h => jT59 w (List.mem_append_right _ h)
theorem jT61 : ∀ w ∈ jTl61, w ∈ jWl := fun w h => jT60 w (List.mem_append_right _ h)
theorem jT62 : ∀ w ∈ jTl62, w ∈ jWl := fun w h => jT61 w (List.mem_append_right _ h)
theorem jT63 : ∀ w ∈ jTl63, w ∈ jWl := fun w h => jT62 w (List.mem_append_right _ h)
theorem jT64 : ∀ w ∈ jTl64, w ∈ jWl := fun w h => jT63 w (List.mem_append_right _ h)
theorem jT65 : ∀ w ∈ jTl65, w ∈ jWl := fun w h => jT64 w (List.mem_append_right _ h)
theorem jT66 : ∀ w ∈ jTl66, w ∈ jWl := fun w h => jT65 w (List.mem_append_right _ h)
theorem jT67 : ∀ w ∈ jTl67, w ∈ jWl := fun w h => jT66 w (List.mem_append_right _ h)
theorem jT68 : ∀ w ∈ jTl68, w ∈ jWl := fun w h => jT67 w (List.mem_append_right _ h)
theorem jT69 : ∀ w ∈ jTl69, w ∈ jWl := fun w h => jT68 w (List.mem_append_right _ h)
theorem jT70 : ∀ w ∈ jTl70, w ∈ jWl := fun w h => jT69 w (List.mem_append_right _ h)
theorem jT71 : ∀ w ∈ jTl71, w ∈ jWl := fun w h => jT70 w (List.mem_append_right _ h)
theorem jT72 : ∀ w ∈ jTl72, w ∈ jWl := fun w h => jT71 w (List.mem_append_right _ h)
theorem jT73 : ∀ w ∈ jTl73, w ∈ jWl := fun w h => jT72 w (List.mem_append_right _ h)
theorem jT74 : ∀ w ∈ jTl74, w ∈ jWl := fun w h => jT73 w (List.mem_append_right _ h)
theorem jT75 : ∀ w ∈ jTl75, w ∈ jWl := fun w h => jT74 w (List.mem_append_right _ h)
theorem jT76 : ∀ w ∈ jTl76, w ∈ jWl := fun w h => jT75 w (List.mem_append_right _ h)
theorem jT77 : ∀ w ∈ jTl77, w ∈ jWl := fun w h => jT76 w (List.mem_append_right _ h)
theorem jT78 : ∀ w ∈ jTl78, w ∈ jWl := fun w h => jT77 w (List.mem_append_right _ h)
theorem jT79 : ∀ w ∈ jTl79, w ∈ jWl := fun w h => jT78 w (List.mem_append_right _ h)
theorem jT80 : ∀ w ∈ jTl80, w ∈ jWl := fun w h => jT79 w (List.mem_append_right _ h)
theorem jT81 : ∀ w ∈ jTl81, w ∈ jWl := fun w h => jT80 w (List.mem_append_right _ h)
theorem jT82 : ∀ w ∈ jTl82, w ∈ jWl := fun w h => jT81 w (List.mem_append_right _ h)
theorem jT83 : ∀ w ∈ jTl83, w ∈ jWl := fun w h => jT82 w (List.mem_append_right _ h)
theorem jT84 : ∀ w ∈ jTl84, w ∈ jWl := fun w h => jT83 w (List.mem_append_right _ h)
theorem jT85 : ∀ w ∈ jTl85, w ∈ jWl := fun w h => jT84 w (List.mem_append_right _ h)
theorem jT86 : ∀ w ∈ jTl86, w ∈ jWl := fun w h => jT85 w (List.mem_append_right _ h)
theorem jT87 : ∀ w ∈ jTl87, w ∈ jWl := fun w h => jT86 w (List.mem_append_right _ h)
theorem jT88 : ∀ w ∈ jTl88, w ∈ jWl := fun w h => jT87 w (List.mem_append_right _ h)
theorem jT89 : ∀ w ∈ jTl89, w ∈ jWl := fun w h => jT88 w (List.mem_append_right _ h)
theorem jT90 : ∀ w ∈ jTl90, w ∈ jWl := fun w h => jT89 w (List.mem_append_right _ h)
theorem jT91 : ∀ w ∈ jTl91, w ∈ jWl := fun w h => jT90 w (List.mem_append_right _ h)
theorem jWr_1 : ∀ w ∈ wsL_law_r1, w ∈ jWl := fun w h => jT1 w (List.mem_append_left _ h)
theorem jWr_3 : ∀ w ∈ wsL_law_r3, w ∈ jWl := fun w h => jT3 w (List.mem_append_left _ h)
theorem jWr_5 : ∀ w ∈ wsL_law_r5, w ∈ jWl := fun w h => jT5 w (List.mem_append_left _ h)
theorem jWr_6 : ∀ w ∈ wsL_law_r6, w ∈ jWl := fun w h => jT6 w (List.mem_append_left _ h)
theorem jWr_10 : ∀ w ∈ wsL_law_r10, w ∈ jWl := fun w h => jT10 w (List.mem_append_left _ h)
theorem jWr_11 : ∀ w ∈ wsL_law_r11, w ∈ jWl := fun w h => jT11 w (List.mem_append_left _ h)
theorem jWr_12 : ∀ w ∈ wsL_law_r12, w ∈ jWl := fun w h => jT12 w (List.mem_append_left _ h)
theorem jWr_14 : ∀ w ∈ wsL_law_r14, w ∈ jWl := fun w h => jT14 w (List.mem_append_left _ h)
theorem jWr_15 : ∀ w ∈ wsL_law_r15, w ∈ jWl := fun w h => jT15 w (List.mem_append_left _ h)
theorem jWr_16 : ∀ w ∈ wsL_law_r16, w ∈ jWl := fun w h => jT16 w (List.mem_append_left _ h)
theorem jWr_37 : ∀ w ∈ wsL_law_r37, w ∈ jWl := fun w h => jT37 w (List.mem_append_left _ h)
theorem jWr_38 : ∀ w ∈ wsL_law_r38, w ∈ jWl := fun w h => jT38 w (List.mem_append_left _ h)
theorem jWr_44 : ∀ w ∈ wsL_law_r44, w ∈ jWl := fun w h => jT44 w (List.mem_append_left _ h)
theorem jWr_48 : ∀ w ∈ wsL_law_r48, w ∈ jWl := fun w h => jT48 w (List.mem_append_left _ h)
theorem jWr_49 : ∀ w ∈ wsL_law_r49, w ∈ jWl := fun w h => jT49 w (List.mem_append_left _ h)
theorem jWr_50 : ∀ w ∈ wsL_law_r50, w ∈ jWl := fun w h => jT50 w (List.mem_append_left _ h)
theorem jWr_51 : ∀ w ∈ wsL_law_r51, w ∈ jWl := fun w h => jT51 w (List.mem_append_left _ h)
theorem jWr_52 : ∀ w ∈ wsL_law_r52, w ∈ jWl := fun w h => jT52 w (List.mem_append_left _ h)
theorem jWr_53 : ∀ w ∈ wsL_law_r53, w ∈ jWl := fun w h => jT53 w (List.mem_append_left _ h)
theorem jWr_54 : ∀ w ∈ wsL_law_r54, w ∈ jWl := fun w h => jT54 w (List.mem_append_left _ h)
theorem jWr_55 : ∀ w ∈ wsL_law_r55, w ∈ jWl := fun w h => jT55 w (List.mem_append_left _ h)
theorem jWr_57 : ∀ w ∈ wsL_law_r57, w ∈ jWl := fun w h => jT57 w (List.mem_append_left _ h)
theorem jWr_58 : ∀ w ∈ wsL_law_r58, w ∈ jWl := fun w h => jT58 w (List.mem_append_left _ h)
theorem jWr_59 : ∀ w ∈ wsL_law_r59, w ∈ jWl := fun w h => jT59 w (List.mem_append_left _ h)
theorem jWr_60 : ∀ w ∈ wsL_law_r60, w ∈ jWl := fun w h => jT60 w (List.mem_append_left _ h)
theorem jWr_61 : ∀ w ∈ wsL_law_r61, w ∈ jWl := fun w h => jT61 w (List.mem_append_left _ h)
theorem jWr_62 : ∀ w ∈ wsL_law_r62, w ∈ jWl := fun w h => jT62 w (List.mem_append_left _ h)
theorem jWr_63 : ∀ w ∈ wsL_law_r63, w ∈ jWl := fun w h => jT63 w (List.mem_append_left _ h)
theorem jWr_64 : ∀ w ∈ wsL_law_r64, w ∈ jWl := fun w h => jT64 w (List.mem_append_left _ h)
theorem jWr_65 : ∀ w ∈ wsL_law_r65, w ∈ jWl := fun w h => jT65 w (List.mem_append_left _ h)
theorem jWr_66 : ∀ w ∈ wsL_law_r66, w ∈ jWl := fun w h => jT66 w (List.mem_append_left _ h)
theorem jWr_67 : ∀ w ∈ wsL_law_r67, w ∈ jWl := fun w h => jT67 w (List.mem_append_left _ h)
theorem jWr_68 : ∀ w ∈ wsL_law_r68, w ∈ jWl := fun w h => jT68 w (List.mem_append_left _ h)
theorem jWr_69 : ∀ w ∈ wsL_law_r69, w ∈ jWl := fun w h => jT69 w (List.mem_append_left _ h)
theorem jWr_70 : ∀ w ∈ wsL_law_r70, w ∈ jWl := fun w h => jT70 w (List.mem_append_left _ h)
theorem jWr_71 : ∀ w ∈ wsL_law_r71, w ∈ jWl := fun w h => jT71 w (List.mem_append_left _ h)
theorem jWr_72 : ∀ w ∈ wsL_law_r72, w ∈ jWl := fun w h => jT72 w (List.mem_append_left _ h)
theorem jWr_89 : ∀ w ∈ wsL_law_r89, w ∈ jWl := fun w h => jT89 w (List.mem_append_left _ h)
theorem jWr_90 : ∀ w ∈ wsL_law_r90, w ∈ jWl := fun w h => jT90 w (List.mem_append_left _ h)
theorem jWr_91 : ∀ w ∈ wsL_law_r91, w ∈ jWl := fun w h => jT91 w (List.mem_append_left _ h)
theorem jWg_1 : wsL_law_r1.all goodWord = true := by decide +kernel
theorem jWg_2 : wsL_law_r2.all goodWord = true := by decide +kernel
theorem jWg_3 : wsL_law_r3.all goodWord = true := by decide +kernel
theorem jWg_4 : wsL_law_r4.all goodWord = true := by decide +kernel
theorem jWg_5 : wsL_law_r5.all goodWord = true := by decide +kernel
theorem jWg_6 : wsL_law_r6.all goodWord = true := by decide +kernel
theorem jWg_7 : wsL_law_r7.all goodWord = true := by decide +kernel
theorem jWg_8 : wsL_law_r8.all goodWord = true := by decide +kernel
theorem jWg_9 : wsL_law_r9.all goodWord = true := by decide +kernel
theorem jWg_10 : wsL_law_r10.all goodWord = true := by decide +kernel
theorem jWg_11 : wsL_law_r11.all goodWord = true := by decide +kernel
theorem jWg_12 : wsL_law_r12.all goodWord = true := by decide +kernel
theorem jWg_13 : wsL_law_r13.all goodWord = true := by decide +kernel
theorem jWg_14 : wsL_law_r14.all goodWord = true := by decide +kernel
theorem jWg_15 : wsL_law_r15.all goodWord = true := by decide +kernel
theorem jWg_16 : wsL_law_r16.all goodWord = true := by decide +kernel
theorem jWg_17 : wsL_law_r17.all goodWord = true := by decide +kernel
theorem jWg_18 : wsL_law_r18.all goodWord = true := by decide +kernel
theorem jWg_19 : wsL_law_r19.all goodWord = true := by decide +kernel
theorem jWg_20 : wsL_law_r20.all goodWord = true := by decide +kernel
theorem jWg_21 : wsL_law_r21.all goodWord = true := by decide +kernel
theorem jWg_22 : wsL_law_r22.all goodWord = true := by decide +kernel
theorem jWg_23 : wsL_law_r23.all goodWord = true := by decide +kernel
theorem jWg_24 : wsL_law_r24.all goodWord = true := by decide +kernel
theorem jWg_25 : wsL_law_r25.all goodWord = true := by decide +kernel
theorem jWg_26 : wsL_law_r26.all goodWord = true := by decide +kernel
theorem jWg_27 : wsL_law_r27.all goodWord = true := by decide +kernel
theorem jWg_28 : wsL_law_r28.all goodWord = true := by decide +kernel
theorem jWg_29 : wsL_law_r29.all goodWord = true := by decide +kernel
theorem jWg_30 : wsL_law_r30.all goodWord = true := by decide +kernel
theorem jWg_31 : wsL_law_r31.all goodWord = true := by decide +kernel
theorem jWg_32 : wsL_law_r32.all goodWord = true := by decide +kernel
theorem jWg_33 : wsL_law_r33.all goodWord = true := by decide +kernel
theorem jWg_34 : wsL_law_r34.all goodWord = true := by decide +kernel
theorem jWg_35 : wsL_law_r35.all goodWord = true := by decide +kernel
theorem jWg_36 : wsL_law_r36.all goodWord = true := by decide +kernel
theorem jWg_37 : wsL_law_r37.all goodWord = true := by decide +kernel
theorem jWg_38 : wsL_law_r38.all goodWord = true := by decide +kernel
theorem jWg_39 : wsL_law_r39.all goodWord = true := by decide +kernel
theorem jWg_40 : wsL_law_r40.all goodWord = true := by decide +kernel
theorem jWg_41 : wsL_law_r41.all goodWord = true := by decide +kernel
theorem jWg_42 : wsL_law_r42.all goodWord = true := by decide +kernel
theorem jWg_43 : wsL_law_r43.all goodWord = true := by decide +kernel
theorem jWg_44 : wsL_law_r44.all goodWord = true := by decide +kernel
theorem jWg_45 : wsL_law_r45.all goodWord = true := by decide +kernel
theorem jWg_46 : wsL_law_r46.all goodWord = true := by decide +kernel
theorem jWg_47 : wsL_law_r47.all goodWord = true := by decide +kernel
theorem jWg_48 : wsL_law_r48.all goodWord = true := by decide +kernel
theorem jWg_49 : wsL_law_r49.all goodWord = true := by decide +kernel
theorem jWg_50 : wsL_law_r50.all goodWord = true := by decide +kernel
theorem jWg_51 : wsL_law_r51.all goodWord = true := by decide +kernel
theorem jWg_52 : wsL_law_r52.all goodWord = true := by decide +kernel
theorem jWg_53 : wsL_law_r53.all goodWord = true := by decide +kernel
theorem jWg_54 : wsL_law_r54.all goodWord = true := by decide +kernel
theorem jWg_55 : wsL_law_r55.all goodWord = true := by decide +kernel
theorem jWg_56 : wsL_law_r56.all goodWord = true := by decide +kernel
theorem jWg_57 : wsL_law_r57.all goodWord = true := by decide +kernel
theorem jWg_58 : wsL_law_r58.all goodWord = true := by decide +kernel
theorem jWg_59 : wsL_law_r59.all goodWord = true := by decide +kernel
theorem jWg_60 : wsL_law_r60.all goodWord = true := by decide +kernel
theorem jWg_61 : wsL_law_r61.all goodWord = true := by decide +kernel
theorem jWg_62 : wsL_law_r62.all goodWord = true := by decide +kernel
theorem jWg_63 : wsL_law_r63.all goodWord = true := by decide +kernel
theorem jWg_64 : wsL_law_r64.all goodWord = true := by decide +kernel
theorem jWg_65 : wsL_law_r65.all goodWord = true := by decide +kernel
theorem jWg_66 : wsL_law_r66.all goodWord = true := by decide +kernel
theorem jWg_67 : wsL_law_r67.all goodWord = true := by decide +kernel
theorem jWg_68 : wsL_law_r68.all goodWord = true := by decide +kernel
theorem jWg_69 : wsL_law_r69.all goodWord = true := by decide +kernel
theorem jWg_70 : wsL_law_r70.all goodWord = true := by decide +kernel
theorem jWg_71 : wsL_law_r71.all goodWord = true := by decide +kernel
theorem jWg_72 : wsL_law_r72.all goodWord = true := by decide +kernel
theorem jWg_73 : wsL_law_r73.all goodWord = true := by decide +kernel
theorem jWg_74 : wsL_law_r74.all goodWord = true := by decide +kernel
theorem jWg_75 : wsL_law_r75.all goodWord = true := by decide +kernel
theorem jWg_76 : wsL_law_r76.all goodWord = true := by decide +kernel
theorem jWg_77 : wsL_law_r77.all goodWord = true := by decide +kernel
theorem jWg_78 : wsL_law_r78.all goodWord = true := by decide +kernel
theorem jWg_79 : wsL_law_r79.all goodWord = true := by decide +kernel
theorem jWg_80 : wsL_law_r80.all goodWord = true := by decide +kernel
theorem jWg_81 : wsL_law_r81.all goodWord = true := by decide +kernel
theorem jWg_82 : wsL_law_r82.all goodWord = true := by decide +kernel
theorem jWg_83 : wsL_law_r83.all goodWord = true := by decide +kernel
theorem jWg_84 : wsL_law_r84.all goodWord = true := by decide +kernel
theorem jWg_85 : wsL_law_r85.all goodWord = true := by decide +kernel
theorem jWg_86 : wsL_law_r86.all goodWord = true := by decide +kernel
theorem jWg_87 : wsL_law_r87.all goodWord = true := by decide +kernel
theorem jWg_88 : wsL_law_r88.all goodWord = true := by decide +kernel
theorem jWg_89 : wsL_law_r89.all goodWord = true := by decide +kernel
theorem jWg_90 : wsL_law_r90.all goodWord = true := by decide +kernel
theorem jWg_91 : wsL_law_r91.all goodWord = true := by decide +kernel
theorem jWg_92 : wsL_law_r92.all goodWord = true := by decide +kernel
theorem jWg_93 : wsL_law_r93.all goodWord = true := by decide +kernel
theorem jWg_94 : wsL_law_r94.all goodWord = true := by decide +kernel
theorem jWg_95 : wsL_law_r95.all goodWord = true := by decide +kernel
theorem jWg_wsX110 : wsX110.all goodWord = true := by decide +kernel
theorem jWg_wsX140 : wsX140.all goodWord = true := by decide +kernel
theorem jWg_wsX00 : wsX00.all goodWord = true := by decide +kernel
theorem jWg_wsX20 : wsX20.all goodWord = true := by decide +kernel
theorem jWg_wsX40 : wsX40.all goodWord = true := by decide +kernel
theorem jWg_wsX50 : wsX50.all goodWord = true := by decide +kernel
theorem jWg_wsX70 : wsX70.all goodWord = true := by decide +kernel
theorem jWg_wsJx4a65c0 : wsJx4a65c0.all goodWord = true := by decide +kernel
theorem jWg_wsX10 : wsX10.all goodWord = true := by decide +kernel
theorem jWg_wsX60 : wsX60.all goodWord = true := by decide +kernel
theorem jWg_wsX100 : wsX100.all goodWord = true := by decide +kernel
theorem jWg_wsX90 : wsX90.all goodWord = true := by decide +kernel
theorem jWg_wsJ40 : wsJ40.all goodWord = true := by decide +kernel
theorem jWg_wsX120 : wsX120.all goodWord = true := by decide +kernel
theorem jWg_wsX130 : wsX130.all goodWord = true := by decide +kernel
theorem jWg_wsX80 : wsX80.all goodWord = true := by decide +kernel
theorem jWg_wsX30 : wsX30.all goodWord = true := by decide +kernel
theorem jTg95 : jTl95.all goodWord = true := jWg_95
theorem jTg94 : jTl94.all goodWord = true := by unfold jTl94; rw [List.all_append, jWg_94, jTg95]; rfl
theorem jTg93 : jTl93.all goodWord = true := by unfold jTl93; rw [List.all_append, jWg_93, jTg94]; rfl
theorem jTg92 : jTl92.all goodWord = true := by unfold jTl92; rw [List.all_append, jWg_92, jTg93]; rfl
theorem jTg91 : jTl91.all goodWord = true := by unfold jTl91; rw [List.all_append, jWg_91, jTg92]; rfl
theorem jTg90 : jTl90.all goodWord = true := by unfold jTl90; rw [List.all_append, jWg_90, jTg91]; rfl
theorem jTg89 : jTl89.all goodWord = true := by unfold jTl89; rw [List.all_append, jWg_89, jTg90]; rfl
theorem jTg88 : jTl88.all goodWord = true := by unfold jTl88; rw [List.all_append, jWg_88, jTg89]; rfl
theorem jTg87 : jTl87.all goodWord = true := by unfold jTl87; rw [List.all_append, jWg_87, jTg88]; rfl
theorem jTg86 : jTl86.all goodWord = true := by unfold jTl86; rw [List.all_append, jWg_86, jTg87]; rfl
theorem jTg85 : jTl85.all goodWord = true := by unfold jTl85; rw [List.all_append, jWg_85, jTg86]; rfl
theorem jTg84 : jTl84.all goodWord = true := by unfold jTl84; rw [List.all_append, jWg_84, jTg85]; rfl
theorem jTg83 : jTl83.all goodWord = true := by unfold jTl83; rw [List.all_append, jWg_83, jTg84]; rfl
theorem jTg82 : jTl82.all goodWord = true := by unfold jTl82; rw [List.all_append, jWg_82, jTg83]; rfl
theorem jTg81 : jTl81.all goodWord = true := by unfold jTl81; rw [List.all_append, jWg_81, jTg82]; rfl
theorem jTg80 : jTl80.all goodWord = true := by unfold jTl80; rw [List.all_append, jWg_80, jTg81]; rfl
theorem jTg79 : jTl79.all goodWord = true := by unfold jTl79; rw [List.all_append, jWg_79, jTg80]; rfl
theorem jTg78 : jTl78.all goodWord = true := by unfold jTl78; rw [List.all_append, jWg_78, jTg79]; rfl
theorem jTg77 : jTl77.all goodWord = true := by unfold jTl77; rw [List.all_append, jWg_77, jTg78]; rfl
theorem jTg76 : jTl76.all goodWord = true := by unfold jTl76; rw [List.all_append, jWg_76, jTg77]; rfl
theorem jTg75 : jTl75.all goodWord = true := by unfold jTl75; rw [List.all_append, jWg_75, jTg76]; rfl
theorem jTg74 : jTl74.all goodWord = true := by unfold jTl74; rw [List.all_append, jWg_74, jTg75]; rfl
theorem jTg73 : jTl73.all goodWord = true := by unfold jTl73; rw [List.all_append, jWg_73, jTg74]; rfl
theorem jTg72 : jTl72.all goodWord = true := by unfold jTl72; rw [List.all_append, jWg_72, jTg73]; rfl
theorem jTg71 : jTl71.all goodWord = true := by unfold jTl71; rw [List.all_append, jWg_71, jTg72]; rfl
theorem jTg70 : jTl70.all goodWord = true := by unfold jTl70; rw [List.all_append, jWg_70, jTg71]; rfl
theorem jTg69 : jTl69.all goodWord = true := by unfold jTl69; rw [List.all_append, jWg_69, jTg70]; rfl
theorem jTg68 : jTl68.all goodWord = true := by unfold jTl68; rw [List.all_append, jWg_68, jTg69]; rfl
theorem jTg67 : jTl67.all goodWord = true := by unfold jTl67; rw [List.all_append, jWg_67, jTg68]; rfl
theorem jTg66 : jTl66.all goodWord = true := by unfold jTl66; rw [List.all_append, jWg_66, jTg67]; rfl
theorem jTg65 : jTl65.all goodWord = true := by unfold jTl65; rw [List.all_append, jWg_65, jTg66]; rfl
theorem jTg64 : jTl64.all goodWord = true := by unfold jTl64; rw [List.all_append, jWg_64, jTg65]; rfl
theorem jTg63 : jTl63.all goodWord = true := by unfold jTl63; rw [List.all_append, jWg_63, jTg64]; rfl
theorem jTg62 : jTl62.all goodWord = true := by unfold jTl62; rw [List.all_append, jWg_62, jTg63]; rfl
theorem jTg61 : jTl61.all goodWord = true := by unfold jTl61; rw [List.all_append, jWg_61, jTg62]; rfl
theorem jTg60 : jTl60.all goodWord = true := by unfold jTl60; rw [List.all_append, jWg_60, jTg61]; rfl
theorem jTg59 : jTl59.all goodWord = true := by unfold jTl59; rw [List.all_append, jWg_59, jTg60]; rfl
theorem jTg58 : jTl58.all goodWord = true := by unfold jTl58; rw [List.all_append, jWg_58, jTg59]; rfl
theorem jTg57 : jTl57.all goodWord = true := by unfold jTl57; rw [List.all_append, jWg_57, jTg58]; rfl
theorem jTg56 : jTl56.all goodWord = true := by unfold jTl56; rw [List.all_append, jWg_56, jTg57]; rfl
theorem jTg55 : jTl55.all goodWord = true := by unfold jTl55; rw [List.all_append, jWg_55, jTg56]; rfl
theorem jTg54 : jTl54.all goodWord = true := by unfold jTl54; rw [List.all_append, jWg_54, jTg55]; rfl
theorem jTg53 : jTl53.all goodWord = true := by unfold jTl53; rw [List.all_append, jWg_53, jTg54]; rfl
theorem jTg52 : jTl52.all goodWord = true := by unfold jTl52; rw [List.all_append, jWg_52, jTg53]; rfl
theorem jTg51 : jTl51.all goodWord = true := by unfold jTl51; rw [List.all_append, jWg_51, jTg52]; rfl
theorem jTg50 : jTl50.all goodWord = true := by unfold jTl50; rw [List.all_append, jWg_50, jTg51]; rfl
theorem jTg49 : jTl49.all goodWord = true := by unfold jTl49; rw [List.all_append, jWg_49, jTg50]; rfl
theorem jTg48 : jTl48.all goodWord = true := by unfold jTl48; rw [List.all_append, jWg_48, jTg49]; rfl
theorem jTg47 : jTl47.all goodWord = true := by unfold jTl47; rw [List.all_append, jWg_47, jTg48]; rfl
theorem jTg46 : jTl46.all goodWord = true := by unfold jTl46; rw [List.all_append, jWg_46, jTg47]; rfl
theorem jTg45 : jTl45.all goodWord = true := by unfold jTl45; rw [List.all_append, jWg_45, jTg46]; rfl
theorem jTg44 : jTl44.all goodWord = true := by unfold jTl44; rw [List.all_append, jWg_44, jTg45]; rfl
theorem jTg43 : jTl43.all goodWord = true := by unfold jTl43; rw [List.all_append, jWg_43, jTg44]; rfl
theorem jTg42 : jTl42.all goodWord = true := by unfold jTl42; rw [List.all_append, jWg_42, jTg43]; rfl
theorem jTg41 : jTl41.all goodWord = true := by unfold jTl41; rw [List.all_append, jWg_41, jTg42]; rfl
theorem jTg40 : jTl40.all goodWord = true := by unfold jTl40; rw [List.all_append, jWg_40, jTg41]; rfl
theorem jTg39 : jTl39.all goodWord = true := by unfold jTl39; rw [List.all_append, jWg_39, jTg40]; rfl
theorem jTg38 : jTl38.all goodWord = true := by unfold jTl38; rw [List.all_append, jWg_38, jTg39]; rfl
theorem jTg37 : jTl37.all goodWord = true := by unfold jTl37; rw [List.all_append, jWg_37, jTg38]; rfl
theorem jTg36 : jTl36.all goodWord = true := by unfold jTl36; rw [List.all_append, jWg_36, jTg37]; rfl
theorem jTg35 : jTl35.all goodWord = true := by unfold jTl35; rw [List.all_append, jWg_35, jTg36]; rfl
theorem jTg34 : jTl34.all goodWord = true := by unfold jTl34; rw [List.all_append, jWg_34, jTg35]; rfl
theorem jTg33 : jTl33.all goodWord = true := by unfold jTl33; rw [List.all_append, jWg_33, jTg34]; rfl
theorem jTg32 : jTl32.all goodWord = true := by unfold jTl32; rw [List.all_append, jWg_32, jTg33]; rfl
theorem jTg31 : jTl31.all goodWord = true := by unfold jTl31; rw [List.all_append, jWg_31, jTg32]; rfl
theorem jTg30 : jTl30.all goodWord = true := by unfold jTl30; rw [List.all_append, jWg_30, jTg31]; rfl
theorem jTg29 : jTl29.all goodWord = true := by unfold jTl29; rw [List.all_append, jWg_29, jTg30]; rfl
theorem jTg28 : jTl28.all goodWord = true := by unfold jTl28; rw [List.all_append, jWg_28, jTg29]; rfl
theorem jTg27 : jTl27.all goodWord = true := by unfold jTl27; rw [List.all_append, jWg_27, jTg28]; rfl
theorem jTg26 : jTl26.all goodWord = true := by unfold jTl26; rw [List.all_append, jWg_26, jTg27]; rfl
theorem jTg25 : jTl25.all goodWord = true := by unfold jTl25; rw [List.all_append, jWg_25, jTg26]; rfl
theorem jTg24 : jTl24.all goodWord = true := by unfold jTl24; rw [List.all_append, jWg_24, jTg25]; rfl
theorem jTg23 : jTl23.all goodWord = true := by unfold jTl23; rw [List.all_append, jWg_23, jTg24]; rfl
theorem jTg22 : jTl22.all goodWord = true := by unfold jTl22; rw [List.all_append, jWg_22, jTg23]; rfl
theorem jTg21 : jTl21.all goodWord = true := by unfold jTl21; rw [List.all_append, jWg_21, jTg22]; rfl
theorem jTg20 : jTl20.all goodWord = true := by unfold jTl20; rw [List.all_append, jWg_20, jTg21]; rfl
theorem jTg19 : jTl19.all goodWord = true := by unfold jTl19; rw [List.all_append, jWg_19, jTg20]; rfl
theorem jTg18 : jTl18.all goodWord = true := by unfold jTl18; rw [List.all_append, jWg_18, jTg19]; rfl
theorem jTg17 : jTl17.all goodWord = true := by unfold jTl17; rw [List.all_append, jWg_17, jTg18]; rfl
theorem jTg16 : jTl16.all goodWord = true := by unfold jTl16; rw [List.all_append, jWg_16, jTg17]; rfl
theorem jTg15 : jTl15.all goodWord = true := by unfold jTl15; rw [List.all_append, jWg_15, jTg16]; rfl
theorem jTg14 : jTl14.all goodWord = true := by unfold jTl14; rw [List.all_append, jWg_14, jTg15]; rfl
theorem jTg13 : jTl13.all goodWord = true := by unfold jTl13; rw [List.all_append, jWg_13, jTg14]; rfl
theorem jTg12 : jTl12.all goodWord = true := by unfold jTl12; rw [List.all_append, jWg_12, jTg13]; rfl
theorem jTg11 : jTl11.all goodWord = true := by unfold jTl11; rw [List.all_append, jWg_11, jTg12]; rfl
theorem jTg10 : jTl10.all goodWord = true := by unfold jTl10; rw [List.all_append, jWg_10, jTg11]; rfl
theorem jTg9 : jTl9.all goodWord = true := by unfold jTl9; rw [List.all_append, jWg_9, jTg10]; rfl
theorem jTg8 : jTl8.all goodWord = true := by unfold jTl8; rw [List.all_append, jWg_8, jTg9]; rfl
theorem jTg7 : jTl7.all goodWord = true := by unfold jTl7; rw [List.all_append, jWg_7, jTg8]; rfl
theorem jTg6 : jTl6.all goodWord = true := by unfold jTl6; rw [List.all_append, jWg_6, jTg7]; rfl
theorem jTg5 : jTl5.all goodWord = true := by unfold jTl5; rw [List.all_append, jWg_5, jTg6]; rfl
theorem jTg4 : jTl4.all goodWord = true := by unfold jTl4; rw [List.all_append, jWg_4, jTg5]; rfl
theorem jTg3 : jTl3.all goodWord = true := by unfold jTl3; rw [List.all_append, jWg_3, jTg4]; rfl
theorem jTg2 : jTl2.all goodWord = true := by unfold jTl2; rw [List.all_append, jWg_2, jTg3]; rfl
theorem jTg1 : jTl1.all goodWord = true := by unfold jTl1; rw [List.all_append, jWg_1, jTg2]; rfl
theorem jWl_good : jWl.all goodWord = true := by
  unfold jWl
  simp only [List.all_append, Bool.and_eq_true]
  refine ⟨⟨⟨⟨⟨⟨⟨⟨⟨⟨⟨⟨⟨⟨⟨⟨⟨⟨jTg1, jWg_wsX110⟩, jWg_wsX140⟩, jWg_wsX00⟩, jWg_wsX20⟩, jWg_wsX40⟩, jWg_wsX50⟩, jWg_wsX70⟩, jWg_wsJx4a65c0⟩, jWg_wsX10⟩, jWg_wsX60⟩, jWg_wsX100⟩, jWg_wsX90⟩, jWg_wsJ40⟩, jWg_wsX120⟩, jWg_wsX130⟩, jWg_wsX80⟩, jWg_wsX30⟩, rfl⟩
theorem jgW {h : Cond} {y : MethodName} {c : ByteArray} {n : Nat} {r : Option FieldType} (hc : Cond.code y c n r ∈ jWl) : GoodIn (h :: jWl) (jw y c n r) := fun w hw => by
  have hm : w ∈ jWl := (List.mem_cons.mp hw).elim (fun e => by rw [e]; exact hc) id
  exact ⟨List.mem_cons_of_mem _ hm, good_of_word (List.all_eq_true.mp jWl_good w hm)⟩
theorem jgL {h : Cond} {ls ws : List Cond} (hl : ∀ w ∈ ls, w ∈ jWl) (hw : GoodIn (h :: jWl) ws) : GoodIn (h :: jWl) (ls ++ ws) := fun w hw1 => (List.mem_append.mp hw1).elim (fun g => ⟨List.mem_cons_of_mem _ (hl w g), good_of_word (List.all_eq_true.mp jWl_good w (hl w g))⟩) (hw w)
theorem jgV {h : Cond} {own C : String} {idx : Nat} {y : MethodName} {c : ByteArray} {n : Nat} {r : Option FieldType} (h1 : Cond.methodLink own idx y ∈ jWl) (h2 : Cond.instanceMethod y ∈ jWl) (h3 : Cond.selects C y y ∈ jWl) (h4 : Cond.initialized C ∈ jWl) (hc : Cond.code y c n r ∈ jWl) : GoodIn (h :: jWl) (wsV own idx C y (jw y c n r)) :=
  jgL (fun w hw => by
    rcases List.mem_cons.mp hw with e | hw
    · rw [e]; exact h1
    rcases List.mem_cons.mp hw with e | hw
    · rw [e]; exact h2
    rcases List.mem_cons.mp hw with e | hw
    · rw [e]; exact h3
    rw [List.mem_singleton.mp hw]; exact h4) (jgW hc)
theorem jgS {h : Cond} {own : String} {idx : Nat} {y : MethodName} {c : ByteArray} {n : Nat} {r : Option FieldType} (h1 : Cond.methodLink own idx y ∈ jWl) (h2 : Cond.static y ∈ jWl) (h4 : Cond.initialized y.cls ∈ jWl) (hc : Cond.code y c n r ∈ jWl) : GoodIn (h :: jWl) (va_wsS own idx y (jw y c n r)) :=
  jgL (fun w hw => by
    rcases List.mem_cons.mp hw with e | hw
    · rw [e]; exact h1
    rcases List.mem_cons.mp hw with e | hw
    · rw [e]; exact h2
    rw [List.mem_singleton.mp hw]; exact h4) (jgW hc)
end
section
-- the refined heap: every field of a typed object holds a value of its own predicate, every element of a typed array too; what is known of a field just now is a pin (address, kind, field, value)
theorem jMc.over {D : va_G} {G G1 : jT} {E1 : List (Nat × Nat)} {H H1 : Heap} {L L1 : List jCt} (h : jMc D G H L) (hk : jKp D G E1 H H1) (hG : jLe G G1) (is : List Nat) (hs : is.map (fun i => L[i]?) = L1.map some) (hn : L1.all (fun q => !(E1.contains (q.2.1, 0))) = true) : jMc D G1 H1 L1 := by
  intro q hq
  obtain ⟨g1, g2, g3, g4⟩ := h.sub is hs q hq
  have h2 := List.all_eq_true.mp hn q hq
  refine ⟨hG _ _ g1, g2, g3, g4.kept (hk.2 _ _ _ g1 g2 g3 ?_)⟩
  cases h3 : E1.contains (q.2.1, 0) with
  | false => rfl
  | true => rw [h3] at h2; cases h2
/-- pins behind a step that keeps all fields but those of E1 -/
theorem jP.over {D : va_G} {G G1 : jT} {E1 : List (Nat × Nat)} {H H1 : Heap} {L L1 : List jPin} (h : jP D G H L) (hk : jKp D G E1 H H1) (hG : jLe G G1) (is : List Nat) (hs : is.map (fun i => L[i]?) = L1.map some) (hn : L1.all (fun q => !(E1.contains (q.2.1, q.2.2.1))) = true) : jP D G1 H1 L1 := by
  intro q hq
  obtain ⟨⟨n, g1⟩, g2⟩ := h.sub is hs q hq
  have h2 := List.all_eq_true.mp hn q hq
  refine ⟨⟨n, hG _ _ g1⟩, hk.1 _ _ n _ _ g1 ?_ g2⟩
  cases h3 : E1.contains (q.2.1, q.2.2.1) with
  | false => rfl
  | true => rw [h3] at h2; cases h2
section J7
variable {p : Program} {l : Launch} {e : Env} {R : Room} {s : State} {m : MethodId} {args : Array Value} {below : List Frame} {meth : Method} {c : Code} {H : Heap} {locs : List Loc} {cells slots : Nat} {Q : State → Prop}
variable {cc : ByteArray} {pc : Nat} {ls : Array Slot} {rest : List Value} {dC : Nat → ClassId} {dI : Nat → Nat → Nat} {ca : Nat → ClassId} {B : jF} {base : Nat} {G0 G : jT} {E : List (Nat × Nat)} {H0 : Heap} {zc zs : Nat} {L : List jPin} {M : List jCt} {I : List jIv} {a k n i index N : Nat} {tys : List (ClassId × FieldType)} {own C : String} {T : u_T}
theorem j7_lay {args : Array Value} {s : State} {C : String} {T : u_T} {i : Nat} (h : (u_lay C T i).before args s = true) : (Cond.lays C (T i).1 (T i).2.1 (T i).2.2.1).before args s = true ∨ (Cond.laysFinal C (T i).1 (T i).2.1 (T i).2.2.1).before args s = true := by
  unfold u_lay at h
  split at h
  · exact Or.inr h
  · exact Or.inl h
theorem j7_read (hexec : p.tables.exec = Jvm.exec) (hb : c.code = cc) (hown : s.vm.findClass own = some m.cls) (hK : va_K (dC, dI) vwCl tys s) (hc : vwCl[k]? = some (C, T, N)) (hlay : (u_lay C T i).before args s = true) (hlink : (Cond.fieldLink own index (T i).1 (T i).2.1 (T i).2.2.1).before args s = true) {v : Value} (hf : jf (dC, dI) k a i v H) (hdg : decode cc pc = .ok (.getfield index, 3))
    (kk : W p l e R s m args below meth c H locs cells slots Q (F0 m (pc + 3) ls (v :: rest))) : W p l e R s m args below meth c H locs cells slots Q (F0 m pc ls (.ref a :: rest)) := by
  obtain ⟨r, h1, hi, cell, q1, q2, q3, q4⟩ := hf
  have hr : r = (C, T, N) := Option.some.inj (h1.symm.trans hc)
  subst hr
  obtain ⟨hS, hfc, kC, hkC, hkind⟩ := hK.1 k _ hc
  obtain ⟨cf, kf, fi, f, hfi, hsl⟩ := hS i hi
  exact W.getf hexec hb hown hlink hfi (u_facts hfc hkC (j7_lay hlay) hfi).1 q1 (by rw [q3]; exact fun h => by cases h) (v := v) (by rw [hsl]; exact q4) rfl rfl hdg kk
theorem j7_readN (hexec : p.tables.exec = Jvm.exec) (hb : c.code = cc) (hown : s.vm.findClass own = some m.cls) (hK : va_K (dC, dI) vwCl tys s) (hc : vwCl[k]? = some (C, T, N)) (hlay : (u_lay C T i).before args s = true) {host : String} (hlink : (Cond.fieldLinkNest own index (T i).1 (T i).2.1 (T i).2.2.1 host).before args s = true) {v : Value} (hf : jf (dC, dI) k a i v H) (hdg : decode cc pc = .ok (.getfield index, 3))
    (kk : W p l e R s m args below meth c H locs cells slots Q (F0 m (pc + 3) ls (v :: rest))) : W p l e R s m args below meth c H locs cells slots Q (F0 m pc ls (.ref a :: rest)) := by
  obtain ⟨r, h1, hi, cell, q1, q2, q3, q4⟩ := hf
  have hr : r = (C, T, N) := Option.some.inj (h1.symm.trans hc)
  subst hr
  obtain ⟨hS, hfc, kC, hkC, hkind⟩ := hK.1 k _ hc
  obtain ⟨cf, kf, fi, f, hfi, hsl⟩ := hS i hi
  exact va_Wgetf hexec hb hown hlink hfi (u_facts hfc hkC (j7_lay hlay) hfi).1 q1 (by rw [q3]; exact fun h => by cases h) (v := v) (by rw [hsl]; exact q4) rfl rfl hdg kk
/-- a field that isn't pinned: its value holds its predicate, and is pinned from now on -/
theorem jSt.pin (hh : jSt (dC, dI) B base G0 G E H0 zc zs L M I H locs) {F : Nat → jT → List (Value → Prop)} (hBk : ∀ n G a H, B k n G a H ↔ jOb (dC, dI) k N (F n G) a H) (hc : vwCl[k]? = some (C, T, N)) (hk : k < 1000) (ha : G a = some (k, n)) (hi : i < N) {P : Value → Prop} (hp : (F n G)[i]? = some P) : ∃ v, P v ∧ jSt (dC, dI) B base G0 G E H0 zc zs ((a, k, i, v) :: L) M I H locs := by
  obtain ⟨h1, h2, h3, h4⟩ := hh
  obtain ⟨V, ⟨cell, q1, q2, q3, q4⟩, hV⟩ := (hBk _ _ _ _).mp (h2.1 a k n ha hk (fun h => by cases h))
  refine ⟨V i, hV i P hp, h1, h2, fun q hq => ?_, h4⟩
  rcases List.mem_cons.mp hq with e | e
  · subst e; exact ⟨⟨n, ha⟩, _, hc, hi, cell, q1, q2, q3, q4 i hi⟩
  · exact h3 q e
theorem jX.set {B : jF} {base : Nat} {G : jT} {H H1 : Heap} {a k n : Nat} (h : jX B base G [] H) (hB : jBok B) (ha : G a = some (k, n)) (hk : k < 1000) (hsz : H1.size = H.size) (hfr : ∀ p, p ≠ a → H1[p]? = H[p]?) (hb : B k n G a H1) : jX B base G [] H1 :=
  ((h.opn a).put hB ha hk jSup.root List.mem_cons_self hsz hfr).cls ha hb
/-- a write to a cell that is no object: all pins stay -/
theorem jSt.arr (hh : jSt (dC, dI) B base G0 G E H0 zc zs L M I H locs) (hB : jBok B) (ha : G a = some (k, n)) (hk : k < 1000) (hk2 : 18 ≤ k) (hE : E.contains (k, 0) = true) (hM : M.all (fun q => !(q.2.1 == k)) = true) (hI : I.all (fun q => !(q.1.contains (k, 0))) = true) {H1 : Heap} {locs1 : List Loc} (hsz : H1.size = H.size) (hfr : ∀ p, p ≠ a → H1[p]? = H[p]?) (ht : jTot H1 = jTot H) (hL : ∀ q ∈ locs1, jA base q.base) (hb : B k n G a H1) : jSt (dC, dI) B base G0 G E H0 zc zs L M I H1 locs1 := by
  obtain ⟨h1, h2, h3, h4, h5, h6, h7, h8, h9⟩ := hh
  have key : ∀ b kb nb ib v, G b = some (kb, nb) → jf (dC, dI) kb b ib v H → jf (dC, dI) kb b ib v H1 := by
    intro b kb nb ib v hb1 hf
    refine hf.kept (hfr b (fun e => ?_))
    subst e
    rw [ha] at hb1; cases hb1
    obtain ⟨r, g1, -⟩ := hf
    have : k < vwCl.length := (List.getElem?_eq_some_iff.mp g1).1
    have h17 : vwCl.length = 18 := rfl
    omega
  refine ⟨jS_put h1 hsz hfr (h2.2 a _ ha).1 hL, h2.set hB ha hk hsz hfr hb, fun q hq => ?_, ⟨fun b kb nb ib v hb1 he hf => key b kb nb ib v (h5 _ _ hb1) (h4.1 b kb nb ib v hb1 he hf), fun b kb nb hb1 g1 g2 he => (hfr b (fun e => ?_)).trans (h4.2 b kb nb hb1 g1 g2 he)⟩, h5, by omega, by omega, fun q hq => ?_, h9.ag (fun q hq => ⟨fun b kb nb ib v hb1 _ hf => key b kb nb ib v hb1 hf, fun b kb nb hb1 g1 g2 hf => hfr b (fun e => ?_)⟩)⟩
  · obtain ⟨⟨nq, g1⟩, g2⟩ := h3 q hq
    exact ⟨⟨nq, g1⟩, key _ _ nq _ _ g1 g2⟩
  · subst e
    have e1 := (h5 _ _ hb1).symm.trans ha
    cases e1
    rw [hE] at he; cases he
  · obtain ⟨g1, g2, g3, g4⟩ := h8 q hq
    refine ⟨g1, g2, g3, g4.kept (hfr _ (fun e => ?_))⟩
    have hm9 := List.all_eq_true.mp hM q hq
    rw [e, ha] at g1
    have e2 := (Prod.mk.inj (Option.some.inj g1)).1
    rw [← e2] at hm9
    simp at hm9
  · subst e
    have e1 := hb1.symm.trans ha
    cases e1
    have hi9 := List.all_eq_true.mp hI q hq
    rw [hf] at hi9; cases hi9
/-- a write to a field -/
theorem jSt.fld (hh : jSt (dC, dI) B base G0 G E H0 zc zs L M I H locs) (hB : jBok B) (hAp : jAp (dC, dI)) {F : Nat → jT → List (Value → Prop)} (hBk : ∀ n G a H, B k n G a H ↔ jOb (dC, dI) k N (F n G) a H) (hc : vwCl[k]? = some (C, T, N)) (hk : k < 1000) (ha : G a = some (k, n)) (hi : i < N) {P : Value → Prop} (hp : (F n G)[i]? = some P) {v : Value} (hv : P v) (hE : E.contains (k, i) = true)
    {L1 : List jPin} (is : List Nat) (hs : is.map (fun i => L[i]?) = L1.map some) (hn : L1.all (fun q => !(q.2.1 == k && q.2.2.1 == i)) = true) (hI : I.all (fun q => !(q.1.contains (k, i))) = true) {H1 : Heap} {locs1 : List Loc} {cell : Cell} (hcell : H[a]? = some cell) (h1c : H1[a]? = some (cell.setSlot (dI k i) v)) (hsz : H1.size = H.size) (hfr : ∀ p, p ≠ a → H1[p]? = H[p]?) (ht : jTot H1 = jTot H) (hL : ∀ q ∈ locs1, jA base q.base) :
    jSt (dC, dI) B base G0 G E H0 zc zs ((a, k, i, v) :: L1) M I H1 locs1 := by
  obtain ⟨h1, h2, h3, h4, h5, h6, h7, h8, h9⟩ := hh
  have hk17 : k < 18 := (List.getElem?_eq_some_iff.mp hc).1
  obtain ⟨V, ⟨cell', q1, q2, q3, q4⟩, hV⟩ := (hBk _ _ _ _).mp (h2.1 a k n ha hk (fun h => by cases h))
  cases hcell.symm.trans q1
  have hap : ∀ x y, x < N → y < N → x ≠ y → dI k x ≠ dI k y := fun x y hx hy => hAp k _ hc x y hx hy
  have hset : ∀ j, j < N → (cell.setSlot (dI k i) v).slots[dI k j]? = some (updV V i v j) := fun j hj => t_set q4 hap hi v j hj
  have hvi : updV V i v i = v := by simp [updV]
  have key : ∀ b kb nb ib w, G b = some (kb, nb) → ¬ (kb = k ∧ ib = i) → jf (dC, dI) kb b ib w H → jf (dC, dI) kb b ib w H1 := by
    intro b kb nb ib w hb1 hne hf
    by_cases e : b = a
    · subst e
      rw [ha] at hb1; cases hb1
      obtain ⟨r, g1, g2, cell2, g3, g4, g5, g6⟩ := hf
      have hr : r = (C, T, N) := Option.some.inj (g1.symm.trans hc)
      subst hr
      cases q1.symm.trans g3
      have hib : ib ≠ i := fun q => hne ⟨rfl, q⟩
      have e1 := hset ib g2
      have e2 : updV V i v ib = V ib := by simp [updV, hib]
      rw [e2] at e1
      have e3 : V ib = w := Option.some.inj ((q4 ib g2).symm.trans g6)
      exact ⟨_, hc, g2, _, h1c, g4, g5, by rw [← e3]; exact e1⟩
    · exact hf.kept (hfr b e)
  refine ⟨jS_put h1 hsz hfr (h2.2 a _ ha).1 hL, h2.set hB ha hk hsz hfr ((hBk _ _ _ _).mpr ⟨updV V i v, ⟨_, h1c, q2, q3, hset⟩, fun j p hj => ?_⟩), fun q hq => ?_, ⟨fun b kb nb ib w hb1 he hf => key b kb nb ib w (h5 _ _ hb1) (fun q => ?_) (h4.1 b kb nb ib w hb1 he hf), fun b kb nb hb1 g1 g2 he => (hfr b (fun e => ?_)).trans (h4.2 b kb nb hb1 g1 g2 he)⟩, h5, by omega, by omega, fun q hq => ?_, h9.ag (fun q hq => ⟨fun b kb nb ib w hb1 hf1 hf => key b kb nb ib w hb1 (fun g => ?_) hf, fun b kb nb hb1 g1 g2 hf => hfr b (fun e => ?_)⟩)⟩
  · by_cases e : j = i
    · subst e
      rw [hvi]
      cases hp.symm.trans hj
      exact hv
    · have e2 : updV V i v j = V j := by simp [updV, e]
      rw [e2]; exact hV j p hj
  · rcases List.mem_cons.mp hq with e | e
    · subst e
      refine ⟨⟨n, ha⟩, _, hc, hi, _, h1c, q2, q3, ?_⟩
      have e1 := hset i hi
      rw [hvi] at e1
      exact e1
    · obtain ⟨⟨nq, g1⟩, g2⟩ := (jP.sub h3 is hs) q e
      have g3 := List.all_eq_true.mp hn q e
      refine ⟨⟨nq, g1⟩, key _ _ nq _ _ g1 (fun g => ?_) g2⟩
      rw [g.1, g.2] at g3
      simp at g3
  · rw [q.1, q.2, hE] at he; cases he
  · subst e
    have e1 := (h5 _ _ hb1).symm.trans ha
    cases e1
    omega
  · obtain ⟨g1, g2, g3, g4⟩ := h8 q hq
    refine ⟨g1, g2, g3, g4.kept (hfr _ (fun e => ?_))⟩
    rw [e, ha] at g1
    have e2 := (Prod.mk.inj (Option.some.inj g1)).1
    omega
  · have hi9 := List.all_eq_true.mp hI q hq
    rw [g.1, g.2] at hf1
    rw [hf1] at hi9; cases hi9
  · subst e
    have e1 := hb1.symm.trans ha
    cases e1
    omega
theorem j7_put (hexec : p.tables.exec = Jvm.exec) (hb : c.code = cc) (hown : s.vm.findClass own = some m.cls) (hK : va_K (dC, dI) vwCl tys s) (hh : jSt (dC, dI) B base G0 G E H0 zc zs L M I H locs) (hB : jBok B) (hAp : jAp (dC, dI)) {F : Nat → jT → List (Value → Prop)} (hBk : ∀ n G a H, B k n G a H ↔ jOb (dC, dI) k N (F n G) a H) (hc : vwCl[k]? = some (C, T, N)) (hk : k < 1000) (ha : G a = some (k, n)) (hi : i < N) (hlay : (u_lay C T i).before args s = true) (hfin : (T i).2.2.2 = false) (hlink : (Cond.fieldLink own index (T i).1 (T i).2.1 (T i).2.2.1).before args s = true) {P : Value → Prop} (hp : (F n G)[i]? = some P) {ty : FieldType} {v : Value} (hd : parseFieldDescriptor (T i).2.2.1 = some ty) (hnar : narrow ty v = v) (hfit : fits ty v = true) (hv : P v) (hE : E.contains (k, i) = true)
    {L1 : List jPin} (is : List Nat) (hs : is.map (fun i => L[i]?) = L1.map some) (hn : L1.all (fun q => !(q.2.1 == k && q.2.2.1 == i)) = true) (hI : I.all (fun q => !(q.1.contains (k, i))) = true) (hdg : decode cc pc = .ok (.putfield index, 3))
    (kk : ∀ (H1 : Heap) (locs1 : List Loc), jSt (dC, dI) B base G0 G E H0 zc zs ((a, k, i, v) :: L1) M I H1 locs1 → W p l e R s m args below meth c H1 locs1 cells slots Q (F0 m (pc + 3) ls rest)) : W p l e R s m args below meth c H locs cells slots Q (F0 m pc ls (v :: .ref a :: rest)) := by
  obtain ⟨V, ⟨cell, q1, q2, q3, q4⟩, hV⟩ := (hBk _ _ _ _).mp (hh.2.1.1 a k n ha hk (fun h => by cases h))
  obtain ⟨hS, hfc, kC, hkC, hkind⟩ := hK.1 k _ hc
  obtain ⟨cf, kf, fi, f, hfi, hsl⟩ := hS i hi
  have hst := (u_facts hfc hkC (j7_lay hlay) hfi).1
  unfold u_lay at hlay
  rw [if_neg (by rw [hfin]; decide)] at hlay
  have h6 := u_store hfc hkC hkind hlay hfi hd hnar hfit
  refine W.putK hexec hb (f := f) ⟨hown, hlink, ⟨_, _, _, hfi⟩, hst⟩ (by rw [q2]; exact h6) q1 q3 (by rw [hsl]; exact k2_hasslot (q4 i hi)) rfl rfl hdg fun H1 e1 e2 e3 => ?_
  rw [hsl] at e1 ⊢
  refine kk H1 _ (hh.fld hB hAp hBk hc hk ha hi hp hv hE is hs hn hI q1 e1 e2 e3 (jTot_set e2 q1 e1 (jSet_sz _ _ _) e3) (fun q hq => ?_))
  rcases List.mem_append.mp hq with h | h
  · exact hh.1.2.2 q h
  · cases List.mem_singleton.mp h; exact (hh.ab ha).1
theorem j7_putN (hexec : p.tables.exec = Jvm.exec) (hb : c.code = cc) (hown : s.vm.findClass own = some m.cls) (hK : va_K (dC, dI) vwCl tys s) (hh : jSt (dC, dI) B base G0 G E H0 zc zs L M I H locs) (hB : jBok B) (hAp : jAp (dC, dI)) {F : Nat → jT → List (Value → Prop)} (hBk : ∀ n G a H, B k n G a H ↔ jOb (dC, dI) k N (F n G) a H) (hc : vwCl[k]? = some (C, T, N)) (hk : k < 1000) (ha : G a = some (k, n)) (hi : i < N) (hlay : (u_lay C T i).before args s = true) (hfin : (T i).2.2.2 = false) {host : String} (hlink : (Cond.fieldLinkNest own index (T i).1 (T i).2.1 (T i).2.2.1 host).before args s = true) {P : Value → Prop} (hp : (F n G)[i]? = some P) {ty : FieldType} {v : Value} (hd : parseFieldDescriptor (T i).2.2.1 = some ty) (hnar : narrow ty v = v) (hfit : fits ty v = true) (hv : P v) (hE : E.contains (k, i) = true)
    {L1 : List jPin} (is : List Nat) (hs : is.map (fun i => L[i]?) = L1.map some) (hn : L1.all (fun q => !(q.2.1 == k && q.2.2.1 == i)) = true) (hI : I.all (fun q => !(q.1.contains (k, i))) = true) (hdg : decode cc pc = .ok (.putfield index, 3))
    (kk : ∀ (H1 : Heap) (locs1 : List Loc), jSt (dC, dI) B base G0 G E H0 zc zs ((a, k, i, v) :: L1) M I H1 locs1 → W p l e R s m args below meth c H1 locs1 cells slots Q (F0 m (pc + 3) ls rest)) : W p l e R s m args below meth c H locs cells slots Q (F0 m pc ls (v :: .ref a :: rest)) := by
  obtain ⟨V, ⟨cell, q1, q2, q3, q4⟩, hV⟩ := (hBk _ _ _ _).mp (hh.2.1.1 a k n ha hk (fun h => by cases h))
  obtain ⟨hS, hfc, kC, hkC, hkind⟩ := hK.1 k _ hc
  obtain ⟨cf, kf, fi, f, hfi, hsl⟩ := hS i hi
  have hst := (u_facts hfc hkC (j7_lay hlay) hfi).1
  unfold u_lay at hlay
  rw [if_neg (by rw [hfin]; decide)] at hlay
  have h6 := u_store hfc hkC hkind hlay hfi hd hnar hfit
  refine va_WputK hexec hb (f := f) hown hlink hfi hst (by rw [q2]; exact h6) q1 q3 (by rw [hsl]; exact k2_hasslot (q4 i hi)) rfl rfl hdg fun H1 e1 e2 e3 => ?_
  rw [hsl] at e1 ⊢
  refine kk H1 _ (hh.fld hB hAp hBk hc hk ha hi hp hv hE is hs hn hI q1 e1 e2 e3 (jTot_set e2 q1 e1 (jSet_sz _ _ _) e3) (fun q hq => ?_))
  rcases List.mem_append.mp hq with h | h
  · exact hh.1.2.2 q h
  · cases List.mem_singleton.mp h; exact (hh.ab ha).1
end J7
theorem j_zast {p : Program} {l : Launch} {e : Env} {R : Room} {s : State} {m : MethodId} {args : Array Value} {below : List Frame} {meth : Method} {c : Code} {H : Heap} {locs : List Loc} {cells slots : Nat} {Q : State → Prop} {cc : ByteArray} {pc : Nat} {ls : Array Slot} {rest : List Value} {D : va_G} {cl : List vw_C} {A : Nat → Prop} {a : Nat} {tys : List (ClassId × FieldType)} (hexec : p.tables.exec = Jvm.exec) (hb : c.code = cc) (hK : va_K D cl tys s) (t0 : Nat) {cA : ClassId} {n : Nat} {f : Nat → Int32} (hat : va_at D cl (a, .inl (cA, n, .inl f)) H) (hA : A a) (hL : ∀ q ∈ locs, A q.base) (ht : tys[t0]? = some (cA, .boolean)) {i : Int32} {x : Int32} (hx : x = 0 ∨ x = 1) (hin : vp_in i n) (hdg : decode cc pc = .ok (.bastore, 1))
    (kk : ∀ (H1 : Heap) (locs1 : List Loc), va_at D cl (a, .inl (cA, n, .inl (upd f i.toNatClampNeg x))) H1 → H1.size = H.size → (∀ q, q ≠ a → H1[q]? = H[q]?) → jTot H1 = jTot H → (∀ q ∈ locs1, A q.base) → W p l e R s m args below meth c H1 locs1 cells slots Q (F0 m (pc + 1) ls rest)) : W p l e R s m args below meth c H locs cells slots Q (F0 m pc ls (.int x :: .int i :: .ref a :: rest)) := by
  refine W.zast hexec hb hat ((hK.2 t0 _ ht).1 n (fun j => .int (f j))) (fun q => by cases q) (by show ¬ (i < 0 ∨ (arrV _ _ _).slots.size ≤ _); rw [arrV_size]; exact hin) rfl rfl hdg fun H1 e z oq => ?_
  rw [jb_nz hx] at e
  refine kk H1 _ ?_ z oq (jTot_set z hat e (jSet_sz _ _ _) oq) ?_
  · show H1[a]? = some (vp_cell _ _)
    rw [e]
    rw [vp_cell_i, vp_cell_i, arrV_store]
    congr 2
    funext q
    by_cases hq : q = i.toNatClampNeg
    · subst hq
      simp [updV, upd]
    · simp [updV, upd, hq]
  · intro q hq
    rcases List.mem_append.mp hq with h | h
    · exact hL q h
    · cases List.mem_singleton.mp h; exact hA
-- arrays: of ints (c = ca 1), booleans (ca 3), bytes (ca 0), each element of its predicate
section J8
variable {p : Program} {l : Launch} {e : Env} {R : Room} {s : State} {m : MethodId} {args : Array Value} {below : List Frame} {meth : Method} {c : Code} {H : Heap} {locs : List Loc} {cells slots : Nat} {Q : State → Prop}
variable {cc : ByteArray} {pc : Nat} {ls : Array Slot} {rest : List Value} {dC : Nat → ClassId} {dI : Nat → Nat → Nat} {ca : Nat → ClassId} {B : jF} {base : Nat} {G0 G : jT} {E : List (Nat × Nat)} {H0 : Heap} {zc zs : Nat} {L : List jPin} {M : List jCt} {I : List jIv} {a k n : Nat} {P : Nat → Int32 → Prop} {cA : ClassId} {tys : List (ClassId × FieldType)}
theorem j7_iald (hexec : p.tables.exec = Jvm.exec) (hb : c.code = cc) (hK : va_K (dC, dI) vwCl tys s) (hh : jSt (dC, dI) B base G0 G E H0 zc zs L M I H locs) (hBk : ∀ n G a H, B k n G a H ↔ jAr (dC, dI) cA P n a H) (t0 : Nat) (ht : tys[t0]? = some (cA, .int)) (hk : k < 1000) (ha : G a = some (k, n)) {i : Int32} {x : Int} (hi : i.toInt = x) (h12 : 0 ≤ x ∧ x < n) (hdg : decode cc pc = .ok (.iaload, 1))
    (kk : ∀ z : Int32, P x.toNat z → W p l e R s m args below meth c H locs cells slots Q (F0 m (pc + 1) ls (.int z :: rest))) : W p l e R s m args below meth c H locs cells slots Q (F0 m pc ls (.int i :: .ref a :: rest)) := by
  obtain ⟨h1, h2⟩ := h12
  obtain ⟨f, g1, g2⟩ := hh.ar hBk hk ha
  exact va_iald hexec hb hK (jp_one g1) 0 t0 rfl ht (jb_in hi h1 h2) hdg (kk _ (by rw [← jb_cl hi h1]; exact g2 _ (jb_cl_lt hi h1 h2)))
theorem j7_zald (hexec : p.tables.exec = Jvm.exec) (hb : c.code = cc) (hK : va_K (dC, dI) vwCl tys s) (hh : jSt (dC, dI) B base G0 G E H0 zc zs L M I H locs) (hBk : ∀ n G a H, B k n G a H ↔ jAr (dC, dI) cA P n a H) (t0 : Nat) (ht : tys[t0]? = some (cA, .boolean)) (hk : k < 1000) (ha : G a = some (k, n)) {i : Int32} {x : Int} (hi : i.toInt = x) (h12 : 0 ≤ x ∧ x < n) (hdg : decode cc pc = .ok (.baload, 1))
    (kk : ∀ z : Int32, P x.toNat z → W p l e R s m args below meth c H locs cells slots Q (F0 m (pc + 1) ls (.int z :: rest))) : W p l e R s m args below meth c H locs cells slots Q (F0 m pc ls (.int i :: .ref a :: rest)) := by
  obtain ⟨h1, h2⟩ := h12
  obtain ⟨f, g1, g2⟩ := hh.ar hBk hk ha
  exact va_zald hexec hb hK (jp_one g1) 0 t0 rfl ht (jb_in hi h1 h2) hdg (kk _ (by rw [← jb_cl hi h1]; exact g2 _ (jb_cl_lt hi h1 h2)))
theorem jAr_upd {f : Nat → Int32} {n : Nat} {i v : Int32} {x : Int} (h : ∀ j, j < n → P j (f j)) (hi : i.toInt = x) (h1 : 0 ≤ x) (hx : P x.toNat v) : ∀ j, j < n → P j (upd f i.toNatClampNeg v j) := by
  intro j hj
  by_cases e : j = i.toNatClampNeg
  · rw [e, jb_cl hi h1]; simp only [upd, if_pos]; exact hx
  · simp only [upd, if_neg e]; exact h j hj
theorem j7_iast (hexec : p.tables.exec = Jvm.exec) (hb : c.code = cc) (hK : va_K (dC, dI) vwCl tys s) (hh : jSt (dC, dI) B base G0 G E H0 zc zs L M I H locs) (hB : jBok B) (hBk : ∀ n G a H, B k n G a H ↔ jAr (dC, dI) cA P n a H) (t0 : Nat) (ht : tys[t0]? = some (cA, .int)) (hk : k < 1000) (hk2 : 18 ≤ k) (hE : E.contains (k, 0) = true) (hM : M.all (fun q => !(q.2.1 == k)) = true) (hI : I.all (fun q => !(q.1.contains (k, 0))) = true) (ha : G a = some (k, n)) {i v : Int32} {x : Int} (hi : i.toInt = x) (h12 : 0 ≤ x ∧ x < n) (hv : P x.toNat v) (hdg : decode cc pc = .ok (.iastore, 1))
    (kk : ∀ (H1 : Heap) (locs1 : List Loc), jSt (dC, dI) B base G0 G E H0 zc zs L M I H1 locs1 → W p l e R s m args below meth c H1 locs1 cells slots Q (F0 m (pc + 1) ls rest)) : W p l e R s m args below meth c H locs cells slots Q (F0 m pc ls (.int v :: .int i :: .ref a :: rest)) := by
  obtain ⟨h1, h2⟩ := h12
  obtain ⟨f, g1, g2⟩ := hh.ar hBk hk ha
  exact j_iast (A := jA base) hexec hb hK t0 g1 (hh.ab ha).1 hh.1.2.2 ht (jb_in hi h1 h2) hdg (fun H1 locs1 hat hsz hfr hT hL => kk H1 locs1 (hh.arr hB ha hk hk2 hE hM hI hsz hfr hT hL ((hBk _ _ _ _).mpr ⟨_, hat, jAr_upd g2 hi h1 hv⟩)))
theorem j7_zast (hexec : p.tables.exec = Jvm.exec) (hb : c.code = cc) (hK : va_K (dC, dI) vwCl tys s) (hh : jSt (dC, dI) B base G0 G E H0 zc zs L M I H locs) (hB : jBok B) (hBk : ∀ n G a H, B k n G a H ↔ jAr (dC, dI) cA P n a H) (t0 : Nat) (ht : tys[t0]? = some (cA, .boolean)) (hk : k < 1000) (hk2 : 18 ≤ k) (hE : E.contains (k, 0) = true) (hM : M.all (fun q => !(q.2.1 == k)) = true) (hI : I.all (fun q => !(q.1.contains (k, 0))) = true) (ha : G a = some (k, n)) {i v : Int32} {x : Int} (hi : i.toInt = x) (h12 : 0 ≤ x ∧ x < n) (hb1 : v = 0 ∨ v = 1) (hv : P x.toNat v) (hdg : decode cc pc = .ok (.bastore, 1))
    (kk : ∀ (H1 : Heap) (locs1 : List Loc), jSt (dC, dI) B base G0 G E H0 zc zs L M I H1 locs1 → W p l e R s m args below meth c H1 locs1 cells slots Q (F0 m (pc + 1) ls rest)) : W p l e R s m args below meth c H locs cells slots Q (F0 m pc ls (.int v :: .int i :: .ref a :: rest)) := by
  obtain ⟨h1, h2⟩ := h12
  obtain ⟨f, g1, g2⟩ := hh.ar hBk hk ha
  exact j_zast (A := jA base) hexec hb hK t0 g1 (hh.ab ha).1 hh.1.2.2 ht hb1 (jb_in hi h1 h2) hdg (fun H1 locs1 hat hsz hfr hT hL => kk H1 locs1 (hh.arr hB ha hk hk2 hE hM hI hsz hfr hT hL ((hBk _ _ _ _).mpr ⟨_, hat, jAr_upd g2 hi h1 hv⟩)))
/-- behind a call that makes no cells -/
theorem jSt.call (hh : jSt (dC, dI) B base G0 G E H0 zc zs L M I H locs) {E1 : List (Nat × Nat)} {H1 : Heap} {locs1 : List Loc} (hX : jX B base G [] H1) (hk : jKp (dC, dI) G E1 H H1) (hz : H1.size ≤ H.size) (ht : jTot H1 ≤ jTot H) (hS : va_S (jA base) H0 H1 locs1) (hE : E1.all (fun q => E.contains q) = true) {L1 : List jPin} (is : List Nat) (hs : is.map (fun i => L[i]?) = L1.map some) (hn : L1.all (fun q => !(E1.contains (q.2.1, q.2.2.1))) = true) {M1 : List jCt} (js : List Nat) (hjs : js.map (fun i => M[i]?) = M1.map some) (hjn : M1.all (fun q => !(E1.contains (q.2.1, 0))) = true) {I1 : List jIv} (ks : List Nat) (hks : ks.map (fun i => I[i]?) = I1.map some) (hkn : I1.all (fun q => E1.all (fun x => !(q.1.contains x))) = true) : jSt (dC, dI) B base G0 G E H0 zc zs L1 M1 I1 H1 locs1 := by
  obtain ⟨h1, h2, h3, h4, h5, h6, h7, h8, h9⟩ := hh
  exact ⟨hS, hX, h3.over hk jLe.rf is hs hn, h4.tr (hk.sub h5 hE), h5, by omega, by omega, h8.over hk jLe.rf js hjs hjn, (h9.sub ks hks).ag (fun q hq => jAg.of hk (List.all_eq_true.mp hkn q hq))⟩
theorem jSt.more (hh : jSt (dC, dI) B base G0 G E H0 zc zs L M I H locs) {P1 : List jPin} (h : jP (dC, dI) G H P1) : jSt (dC, dI) B base G0 G E H0 zc zs (P1 ++ L) M I H locs := by
  obtain ⟨h1, h2, h3, h4⟩ := hh
  exact ⟨h1, h2, h.app h3, h4⟩
/-- what a method that makes no cells leaves -/
def jRt (D : va_G) (B : jF) (base : Nat) (G : jT) (E : List (Nat × Nat)) (H0 : Heap) (M : List jPin) (H1 : Heap) : Prop := jX B base G [] H1 ∧ jKp D G E H0 H1 ∧ H1.size ≤ H0.size ∧ jTot H1 ≤ jTot H0 ∧ jP D G H1 M
theorem jSt.rt (hh : jSt (dC, dI) B base G G E H0 0 0 L M I H locs) {M1 : List jPin} (is : List Nat) (hs : is.map (fun i => L[i]?) = M1.map some) {t : State} (ht : t.heap = H) : jRt (dC, dI) B base G E H0 M1 t.heap := by
  rw [ht]
  obtain ⟨h1, h2, h3, h4, h5, h6, h7, h8, h9⟩ := hh
  exact ⟨h2, h4, h6, h7, h3.sub is hs⟩
theorem jSt.recv (hh : jSt (dC, dI) B base G0 G E H0 zc zs L M I H locs) {N : Nat} {C : String} {T : u_T} {F : Nat → jT → List (Value → Prop)} (hBk : ∀ n G a H, B k n G a H ↔ jOb (dC, dI) k N (F n G) a H) (hc : vwCl[k]? = some (C, T, N)) (hk : k < 1000) (ha : G a = some (k, n)) (hK : va_K (dC, dI) vwCl tys s) : ∃ cell : Cell, H[a]? = some cell ∧ cell.vm.isStatics = false ∧ s.vm.findClass C = some cell.cls := by
  obtain ⟨V, ⟨cell, q1, q2, q3, q4⟩, hV⟩ := (hBk _ _ _ _).mp (hh.2.1.1 a k n ha hk (fun h => by cases h))
  obtain ⟨hS, hfc, -⟩ := hK.1 k _ hc
  exact ⟨cell, q1, by rw [q3]; rfl, by rw [q2]; exact hfc⟩
end J8
theorem jb_idiv {x y z : Int32} {n : Int} (h : z = x / y) (hy : y.toInt = n) (hn : 0 < n) : (0 ≤ x.toInt ∧ z.toInt = x.toInt / n) ∨ (x.toInt ≤ 0 ∧ z.toInt = -((-x.toInt) / n)) := by
  have hb := jb_rng x
  have key : ∀ a : Int, 0 ≤ a → a ≤ 2147483648 → 0 ≤ a / n ∧ a / n ≤ a := fun a h1 _ => ⟨Int.ediv_nonneg h1 (by omega), Int.ediv_le_self _ h1⟩
  rw [h, Int32.toInt_div, hy]
  by_cases q : 0 ≤ x.toInt
  · left
    rw [Int.tdiv_eq_ediv_of_nonneg q]
    obtain ⟨k1, k2⟩ := key _ q (by omega)
    exact ⟨q, jb_bm (by omega) (by omega)⟩
  · right
    have e : x.toInt.tdiv n = -((-x.toInt) / n) := by
      have h1 := Int.neg_tdiv x.toInt n
      rw [Int.tdiv_eq_ediv_of_nonneg (by omega : 0 ≤ -x.toInt)] at h1
      omega
    obtain ⟨k1, k2⟩ := key (-x.toInt) (by omega) (by omega)
    rw [e]
    exact ⟨by omega, jb_bm (by omega) (by omega)⟩
theorem jb_irem {x y z : Int32} {n : Int} (h : z = x - x / y * y) (hy : y.toInt = n) (hn : 0 < n) : (0 ≤ x.toInt ∧ z.toInt = x.toInt % n) ∨ (x.toInt ≤ 0 ∧ z.toInt = -((-x.toInt) % n)) := by
  have hb := jb_rng x
  have key : ∀ a : Int, 0 ≤ a → a / n * n = a - a % n ∧ 0 ≤ a % n ∧ a % n ≤ a := by
    intro a ha
    have e1 := Int.emod_def a n
    have b1 := Int.emod_nonneg a (by omega : n ≠ 0)
    have b3 : 0 ≤ n * (a / n) := Int.mul_nonneg (by omega) (Int.ediv_nonneg ha (by omega))
    rw [Int.mul_comm]
    exact ⟨by omega, b1, by omega⟩
  rcases jb_idiv (z := x / y) rfl hy hn with ⟨q, hq⟩ | ⟨q, hq⟩
  · left
    obtain ⟨k1, k2, k3⟩ := key x.toInt q
    have hm : (x / y * y).toInt = x.toInt - x.toInt % n := by
      rw [Int32.toInt_mul, hq, hy, k1]
      exact jb_bm (by omega) (by omega)
    rw [h, Int32.toInt_sub, hm]
    have e : x.toInt - (x.toInt - x.toInt % n) = x.toInt % n := by omega
    rw [e]
    exact ⟨q, jb_bm (by omega) (by omega)⟩
  · right
    obtain ⟨k1, k2, k3⟩ := key (-x.toInt) (by omega)
    have hm : (x / y * y).toInt = x.toInt + (-x.toInt) % n := by
      rw [Int32.toInt_mul, hq, hy, Int.neg_mul, k1]
      have e : -(-x.toInt - -x.toInt % n) = x.toInt + -x.toInt % n := by omega
      rw [e]
      exact jb_bm (by omega) (by omega)
    rw [h, Int32.toInt_sub, hm]
    have e : x.toInt - (x.toInt + -x.toInt % n) = -(-x.toInt % n) := by omega
    rw [e]
    exact ⟨by omega, jb_bm (by omega) (by omega)⟩
theorem jb_ineg {x : Int32} {a : Int} (hx : x.toInt = a) (h : -2147483648 < a) : (-x).toInt = -a := by
  have hb := jb_rng x
  rw [Int32.toInt_neg, hx]
  exact jb_bm (by omega) (by omega)
def jpw : Nat → Int
  | 0 => 10
  | n + 1 => 10 * jpw n
theorem jpw_s (n : Nat) : (n = 0 ∧ jpw n = 10) ∨ (0 < n ∧ jpw n = 10 * jpw (n - 1)) := by
  cases n with
  | zero => exact Or.inl ⟨rfl, rfl⟩
  | succ k => exact Or.inr ⟨Nat.succ_pos _, rfl⟩
theorem j_ldcwS {p : Program} {l : Launch} {e : Env} {R : Room} {s : State} {m : MethodId} {args : Array Value} {below : List Frame} {meth : Method} {c : Code} {T : State} {locs : List Loc} {cells slots : Nat} (X : Stand p l e R s m args below meth c T locs cells slots) (hexec : p.tables.exec = Jvm.exec) {own text : String} {index : Nat} {a : Addr} (hown : s.vm.findClass own = some m.cls)
    (hconst : (Cond.stringRef own index text).before args s = true) (hev : (Term.string own index).eval args s none [] s = some (.ref a)) {g : JFrame} (hg : g.method = m) (hdg : decode c.code g.pc = .ok (.ldc_w index, 3)) :
    ∀ target, Steps p.tables e below (T.setTop { g with pc := g.pc + 3, stack := .ref a :: g.stack }) target → Steps p.tables e below (T.setTop g) target := by
  obtain ⟨k, cf, i, a', hk, hcf, hcp, -, hr, hev'⟩ := Cond.stringRef_spec hown hconst
  cases hev.symm.trans hev'
  obtain ⟨k', hk', he⟩ := X.warmed.alike.2.2 _ _ hk
  have hr' : k'.resolved[index]? = some (some (.string a)) := by
    rcases X.warmed.entry hk hk' index with h | ⟨h, -⟩
    · rw [h]; exact hr
    · rw [hr] at h; cases h
  intro target hrest
  subst hg
  jvm_step X.here [hexec, hdg, ldc_w.wp_string (e := e) (s := T) (f := g) X.here.top hk' (by rw [he]; exact hcf) hcp hr']
  exact hrest
theorem j_ldcSw {p : Program} {l : Launch} {e : Env} {R : Room} {s : State} {m : MethodId} {args : Array Value} {below : List Frame} {meth : Method} {c : Code} {H : Heap} {locs : List Loc} {cells slots : Nat} {Q : State → Prop} {cc : ByteArray} {pc : Nat} {ls : Array Slot} {rest : List Value} (hexec : p.tables.exec = Jvm.exec) (hb : c.code = cc) {own tx : String} {index q : Nat} (hown : s.vm.findClass own = some m.cls) (hZ : vk_R own index tx q s) (hdg : decode cc pc = .ok (.ldc_w index, 3))
    (k : W p l e R s m args below meth c H locs cells slots Q (F0 m (pc + 3) ls (.ref q :: rest))) : W p l e R s m args below meth c H locs cells slots Q (F0 m pc ls rest) := by
  intro T hT X
  obtain ⟨t, a1, b1⟩ := k T hT X
  exact ⟨t, j_ldcwS X hexec hown (text := tx) (a := q) hZ.1 hZ.2 (g := F0 m pc ls rest) rfl (by rw [hb]; exact hdg) t a1, b1⟩
theorem jb_iadd2 {x y : Int32} {a b : Int} (hx : x.toInt = a) (hy : y.toInt = b) (h : -2147483648 ≤ a + b ∧ a + b ≤ 2147483647) : (x + y).toInt = a + b := jb_iadd hx hy h.1 h.2
theorem jb_isub2 {x y : Int32} {a b : Int} (hx : x.toInt = a) (hy : y.toInt = b) (h : -2147483648 ≤ a - b ∧ a - b ≤ 2147483647) : (x - y).toInt = a - b := jb_isub hx hy h.1 h.2
theorem jb_imul2 {x y : Int32} {a b : Int} (hx : x.toInt = a) (hy : y.toInt = b) (h : -2147483648 ≤ a * b ∧ a * b ≤ 2147483647) : (x * y).toInt = a * b := jb_imul hx hy h.1 h.2
end
section
-- contents of arrays that are known for a while
theorem jCt_eq {D : va_G} {a n j : Nat} {cA cB : ClassId} {f g : Nat → Int32} {H : Heap} (h1 : va_at D vwCl (a, .inl (cA, n, .inl f)) H) (h2 : va_at D vwCl (a, .inl (cB, n, .inl g)) H) (hj : j < n) : f j = g j := by
  have e1 : H[a]? = some (vp_cell cA (n, .inl f)) := h1
  have e2 : H[a]? = some (vp_cell cB (n, .inl g)) := h2
  have e := Option.some.inj (e1.symm.trans e2)
  have r1 : (vp_cell cA (n, .inl f)).slots[j]? = some (.int (f j)) := by rw [vp_cell_i, arrV_read _ _ hj]
  have r2 : (vp_cell cB (n, .inl g)).slots[j]? = some (.int (g j)) := by rw [vp_cell_i, arrV_read _ _ hj]
  rw [e, r2] at r1
  exact (Value.int.inj (Option.some.inj r1)).symm
section J9
variable {p : Program} {l : Launch} {e : Env} {R : Room} {s : State} {m : MethodId} {args : Array Value} {below : List Frame} {meth : Method} {c : Code} {H : Heap} {locs : List Loc} {cells slots : Nat} {Q : State → Prop}
variable {cc : ByteArray} {pc : Nat} {ls : Array Slot} {rest : List Value} {dC : Nat → ClassId} {dI : Nat → Nat → Nat} {ca : Nat → ClassId} {B : jF} {base : Nat} {G0 G : jT} {E : List (Nat × Nat)} {H0 : Heap} {zc zs : Nat} {L : List jPin} {M : List jCt} {I : List jIv} {a k n : Nat} {P : Nat → Int32 → Prop} {cA : ClassId} {tys : List (ClassId × FieldType)}
theorem jSt.cpin (hh : jSt (dC, dI) B base G0 G E H0 zc zs L M I H locs) (hBk : ∀ n G a H, B k n G a H ↔ jAr (dC, dI) cA P n a H) (hk : k < 1000) (hk2 : 18 ≤ k) (ha : G a = some (k, n)) : ∃ f : Nat → Int32, jSt (dC, dI) B base G0 G E H0 zc zs L ((a, k, n, cA, f) :: M) I H locs := by
  obtain ⟨f, g1, g2⟩ := hh.ar hBk hk ha
  obtain ⟨h1, h2, h3, h4, h5, h6, h7, h8, h9⟩ := hh
  refine ⟨f, h1, h2, h3, h4, h5, h6, h7, fun q hq => ?_, h9⟩
  rcases List.mem_cons.mp hq with e | e
  · subst e; exact ⟨ha, hk2, hk, g1⟩
  · exact h8 q e
theorem j7_ialdM (hexec : p.tables.exec = Jvm.exec) (hb : c.code = cc) (hK : va_K (dC, dI) vwCl tys s) (hh : jSt (dC, dI) B base G0 G E H0 zc zs L M I H locs) (hBk : ∀ n G a H, B k n G a H ↔ jAr (dC, dI) cA P n a H) (t0 : Nat) (ht : tys[t0]? = some (cA, .int)) (hk : k < 1000) (ha : G a = some (k, n)) {i : Int32} {x : Int} (hi : i.toInt = x) (h12 : 0 ≤ x ∧ x < n) {j : Nat} {kk1 : Nat} {cB : ClassId} {f : Nat → Int32} (hj : M[j]? = some (a, kk1, n, cB, f)) (hdg : decode cc pc = .ok (.iaload, 1))
    (kk : ∀ z : Int32, z = f x.toNat → P x.toNat z → W p l e R s m args below meth c H locs cells slots Q (F0 m (pc + 1) ls (.int z :: rest))) : W p l e R s m args below meth c H locs cells slots Q (F0 m pc ls (.int i :: .ref a :: rest)) := by
  obtain ⟨h1, h2⟩ := h12
  obtain ⟨f', g1, g2⟩ := hh.ar hBk hk ha
  obtain ⟨-, -, -, q4⟩ := hh.2.2.2.2.2.2.2.1 _ (List.mem_of_getElem? hj)
  have hlt := jb_cl_lt hi h1 h2
  have hP := g2 _ hlt
  have e1 := jCt_eq q4 g1 hlt
  rw [jb_cl hi h1] at e1 hP
  exact va_iald hexec hb hK (jp_one g1) 0 t0 rfl ht (jb_in hi h1 h2) hdg (by rw [jb_cl hi h1]; exact kk _ e1.symm hP)
theorem j7_zaldM (hexec : p.tables.exec = Jvm.exec) (hb : c.code = cc) (hK : va_K (dC, dI) vwCl tys s) (hh : jSt (dC, dI) B base G0 G E H0 zc zs L M I H locs) (hBk : ∀ n G a H, B k n G a H ↔ jAr (dC, dI) cA P n a H) (t0 : Nat) (ht : tys[t0]? = some (cA, .boolean)) (hk : k < 1000) (ha : G a = some (k, n)) {i : Int32} {x : Int} (hi : i.toInt = x) (h12 : 0 ≤ x ∧ x < n) {j : Nat} {kk1 : Nat} {cB : ClassId} {f : Nat → Int32} (hj : M[j]? = some (a, kk1, n, cB, f)) (hdg : decode cc pc = .ok (.baload, 1))
    (kk : ∀ z : Int32, z = f x.toNat → P x.toNat z → W p l e R s m args below meth c H locs cells slots Q (F0 m (pc + 1) ls (.int z :: rest))) : W p l e R s m args below meth c H locs cells slots Q (F0 m pc ls (.int i :: .ref a :: rest)) := by
  obtain ⟨h1, h2⟩ := h12
  obtain ⟨f', g1, g2⟩ := hh.ar hBk hk ha
  obtain ⟨-, -, -, q4⟩ := hh.2.2.2.2.2.2.2.1 _ (List.mem_of_getElem? hj)
  have hlt := jb_cl_lt hi h1 h2
  have hP := g2 _ hlt
  have e1 := jCt_eq q4 g1 hlt
  rw [jb_cl hi h1] at e1 hP
  exact va_zald hexec hb hK (jp_one g1) 0 t0 rfl ht (jb_in hi h1 h2) hdg (by rw [jb_cl hi h1]; exact kk _ e1.symm hP)
theorem j7_iastE (hexec : p.tables.exec = Jvm.exec) (hb : c.code = cc) (hK : va_K (dC, dI) vwCl tys s) (hh : jSt (dC, dI) B base G0 G E H0 zc zs L M I H locs) (hB : jBok B) (hBk : ∀ n G a H, B k n G a H ↔ jAr (dC, dI) cA P n a H) (t0 : Nat) (ht : tys[t0]? = some (cA, .int)) (hk : k < 1000) (hk2 : 18 ≤ k) (hE : E.contains (k, 0) = true) (hM : M.all (fun q => !(q.2.1 == k)) = true) (hI : I.all (fun q => !(q.1.contains (k, 0))) = true) (ha : G a = some (k, n)) {i v : Int32} {x : Int} (hi : i.toInt = x) (h12 : 0 ≤ x ∧ x < n) (hv : P x.toNat v) (hdg : decode cc pc = .ok (.iastore, 1))
    (kk : ∀ (H1 : Heap) (locs1 : List Loc) (f : Nat → Int32), f x.toNat = v → jSt (dC, dI) B base G0 G E H0 zc zs L ((a, k, n, cA, f) :: M) I H1 locs1 → W p l e R s m args below meth c H1 locs1 cells slots Q (F0 m (pc + 1) ls rest)) : W p l e R s m args below meth c H locs cells slots Q (F0 m pc ls (.int v :: .int i :: .ref a :: rest)) := by
  obtain ⟨h1, h2⟩ := h12
  obtain ⟨f, g1, g2⟩ := hh.ar hBk hk ha
  refine j_iast (A := jA base) hexec hb hK t0 g1 (hh.ab ha).1 hh.1.2.2 ht (jb_in hi h1 h2) hdg (fun H1 locs1 hat hsz hfr hT hL => ?_)
  have h9 := hh.arr hB ha hk hk2 hE hM hI hsz hfr hT hL ((hBk _ _ _ _).mpr ⟨_, hat, jAr_upd g2 hi h1 hv⟩)
  refine kk H1 locs1 (upd f i.toNatClampNeg v) (by rw [← jb_cl hi h1]; simp [upd]) ?_
  obtain ⟨e1, e2, e3, e4, e5, e6, e7, e8, e9⟩ := h9
  refine ⟨e1, e2, e3, e4, e5, e6, e7, fun q hq => ?_, e9⟩
  rcases List.mem_cons.mp hq with e | e
  · subst e; exact ⟨ha, hk2, hk, hat⟩
  · exact e8 q e
end J9
end
section
-- arrays of references
section J10
variable {p : Program} {l : Launch} {e : Env} {R : Room} {s : State} {m : MethodId} {args : Array Value} {below : List Frame} {meth : Method} {c : Code} {H : Heap} {locs : List Loc} {cells slots : Nat} {Q : State → Prop}
variable {cc : ByteArray} {pc : Nat} {ls : Array Slot} {rest : List Value} {dC : Nat → ClassId} {dI : Nat → Nat → Nat} {ca : Nat → ClassId} {B : jF} {base : Nat} {G0 G : jT} {E : List (Nat × Nat)} {H0 : Heap} {zc zs : Nat} {L : List jPin} {M : List jCt} {I : List jIv} {a k n : Nat} {P : jT → Option Nat → Prop} {cA : ClassId} {tys : List (ClassId × FieldType)} {C : String}
theorem jAq_up {f : Nat → Option Nat} {n j : Nat} {o : Option Nat} (h : ∀ j, j < n → P G (f j)) (ho : P G o) : ∀ i, i < n → P G (va_up f j o i) := by
  intro i hi
  by_cases e : i = j
  · subst e; simp only [va_up, if_pos]; exact ho
  · rw [va_up_ne _ _ e]; exact h i hi
end J10
def jQx {S : Type} (post : Value → S → Prop) (B : S → State → Prop) (A : Nat → Prop) : Array Value → State → Outcome → State → Prop := fun _ st oc t => (∃ (r : Value) (u : S), oc = .returned (some r) ∧ post r u ∧ B u t) ∧ va_F A st t
theorem j_callx {p : Program} {l : Launch} {e : Env} {R : Room} {s : State} {m : MethodId} {args : Array Value} {below : List Frame} {meth : Method} {c : Code} {H : Heap} {locs : List Loc} {cells slots : Nat} {Q : State → Prop} {pc : Nat} {ls : Array Slot} {rest st0 : List Value} {a : Array Value} {A0 A1 : Nat → Prop} {H0 : Heap} {mc ms : Nat} {free : Addr → Prop} {S : Type} {post : Value → S → Prop} {B : S → State → Prop} (hr : va_Run p l e R s m args below meth c H locs cells slots mc ms (F0 m pc ls st0) rest (jQx post B A1 a) free) (hS : va_S A0 H0 H locs) (hA : ∀ q, q < H.size → A1 q → A0 q) (hf : ∀ q, free q → A0 q)
    (kk : ∀ (r : Value) (u : S) (t : State) (H1 : Heap) (locs1 : List Loc), t.heap = H1 → s.vm.Alike t.vm → post r u → B u t → H.size ≤ H1.size → (∀ q : Nat, q < H.size → ¬ A1 q → H1[q]? = H[q]?) → va_S A0 H0 H1 locs1 → W p l e R s m args below meth c H1 locs1 (cells + mc) (slots + ms) Q (F0 m (pc + 3) ls (r :: rest))) : W p l e R s m args below meth c H locs cells slots Q (F0 m pc ls st0) := by
  intro T hT X
  obtain ⟨v, st₀, t, T', L, h0, X', hL, e1, e2, ⟨⟨r, u, hv, hp, hb⟩, hz, hk⟩, st⟩ := hr T hT X
  cases hv
  rw [h0] at hz hk
  obtain ⟨t2, a1, b1⟩ := kk r u t T'.heap (locs ++ L) e1.symm (by rw [← e2]; exact X'.warmed.alike) hp hb (by rw [e1]; exact hz) (fun q h1 h2 => by rw [e1]; exact hk q h1 h2)
    ⟨Nat.le_trans hS.1 (by rw [e1]; exact hz), fun q h1 h2 => by rw [e1, hk q (Nat.lt_of_lt_of_le h1 hS.1) (fun z => h2 (hA q (Nat.lt_of_lt_of_le h1 hS.1) z))]; exact hS.2.1 q h1 h2, fun q hq => by
      rcases List.mem_append.mp hq with h | h
      · exact hS.2.2 q h
      · exact hf _ (hL q h)⟩ T' rfl X'
  exact ⟨t2, st t2 a1, b1⟩
end
section
theorem dJ0_indexOf_7cf53_0 : decode cJ0_indexOf_7cf53 0 = .ok (.aload_n 0, 1) := by decide +kernel
theorem dJ0_indexOf_7cf53_1 : decode cJ0_indexOf_7cf53 1 = .ok (.invokevirtual 492, 3) := by decide +kernel
theorem dJ0_indexOf_7cf53_4 : decode cJ0_indexOf_7cf53 4 = .ok (.ifCond .eq 19, 3) := by decide +kernel
theorem dJ0_indexOf_7cf53_7 : decode cJ0_indexOf_7cf53 7 = .ok (.aload_n 0, 1) := by decide +kernel
theorem dJ0_indexOf_7cf53_8 : decode cJ0_indexOf_7cf53 8 = .ok (.getfield 9, 3) := by decide +kernel
theorem dJ0_indexOf_7cf53_11 : decode cJ0_indexOf_7cf53 11 = .ok (.iload_n 1, 1) := by decide +kernel
theorem dJ0_indexOf_7cf53_12 : decode cJ0_indexOf_7cf53 12 = .ok (.iload_n 2, 1) := by decide +kernel
theorem dJ0_indexOf_7cf53_13 : decode cJ0_indexOf_7cf53 13 = .ok (.aload_n 0, 1) := by decide +kernel
theorem dJ0_indexOf_7cf53_14 : decode cJ0_indexOf_7cf53 14 = .ok (.invokevirtual 505, 3) := by decide +kernel
theorem dJ0_indexOf_7cf53_17 : decode cJ0_indexOf_7cf53 17 = .ok (.invokestatic 637, 3) := by decide +kernel
theorem dJ0_indexOf_7cf53_20 : decode cJ0_indexOf_7cf53 20 = .ok (.goto 16, 3) := by decide +kernel
theorem dJ0_indexOf_7cf53_36 : decode cJ0_indexOf_7cf53 36 = .ok (.ireturn, 1) := by decide +kernel
theorem dJ1_canEncode_9a6ad_0 : decode cJ1_canEncode_9a6ad 0 = .ok (.iload_n 0, 1) := by decide +kernel
theorem dJ1_canEncode_9a6ad_1 : decode cJ1_canEncode_9a6ad 1 = .ok (.ifCond .lt 14, 3) := by decide +kernel
theorem dJ1_canEncode_9a6ad_4 : decode cJ1_canEncode_9a6ad 4 = .ok (.iload_n 0, 1) := by decide +kernel
theorem dJ1_canEncode_9a6ad_5 : decode cJ1_canEncode_9a6ad 5 = .ok (.sipush 255, 3) := by decide +kernel
theorem dJ1_canEncode_9a6ad_8 : decode cJ1_canEncode_9a6ad 8 = .ok (.if_icmp .gt 7, 3) := by decide +kernel
theorem dJ1_canEncode_9a6ad_11 : decode cJ1_canEncode_9a6ad 11 = .ok (.iconst 1, 1) := by decide +kernel
theorem dJ1_canEncode_9a6ad_12 : decode cJ1_canEncode_9a6ad 12 = .ok (.goto 4, 3) := by decide +kernel
theorem dJ1_canEncode_9a6ad_15 : decode cJ1_canEncode_9a6ad 15 = .ok (.iconst 0, 1) := by decide +kernel
theorem dJ1_canEncode_9a6ad_16 : decode cJ1_canEncode_9a6ad 16 = .ok (.ireturn, 1) := by decide +kernel
theorem dJ1_indexOf_4cfef_0 : decode cJ1_indexOf_4cfef 0 = .ok (.iload_n 1, 1) := by decide +kernel
theorem dJ1_indexOf_4cfef_1 : decode cJ1_indexOf_4cfef 1 = .ok (.invokestatic 88, 3) := by decide +kernel
theorem dJ1_indexOf_4cfef_4 : decode cJ1_indexOf_4cfef 4 = .ok (.ifCond .ne 5, 3) := by decide +kernel
theorem dJ1_indexOf_4cfef_7 : decode cJ1_indexOf_4cfef 7 = .ok (.iconst (-1), 1) := by decide +kernel
theorem dJ1_indexOf_4cfef_8 : decode cJ1_indexOf_4cfef 8 = .ok (.ireturn, 1) := by decide +kernel
theorem dJ1_indexOf_4cfef_9 : decode cJ1_indexOf_4cfef 9 = .ok (.iload_n 2, 1) := by decide +kernel
theorem dJ1_indexOf_4cfef_10 : decode cJ1_indexOf_4cfef 10 = .ok (.iconst 0, 1) := by decide +kernel
theorem dJ1_indexOf_4cfef_11 : decode cJ1_indexOf_4cfef 11 = .ok (.invokestatic 92, 3) := by decide +kernel
theorem dJ1_indexOf_4cfef_14 : decode cJ1_indexOf_4cfef 14 = .ok (.istore_n 2, 1) := by decide +kernel
theorem dJ1_indexOf_4cfef_15 : decode cJ1_indexOf_4cfef 15 = .ok (.iload_n 3, 1) := by decide +kernel
theorem dJ1_indexOf_4cfef_16 : decode cJ1_indexOf_4cfef 16 = .ok (.aload_n 0, 1) := by decide +kernel
theorem dJ1_indexOf_4cfef_17 : decode cJ1_indexOf_4cfef 17 = .ok (.arraylength, 1) := by decide +kernel
theorem dJ1_indexOf_4cfef_18 : decode cJ1_indexOf_4cfef 18 = .ok (.invokestatic 38, 3) := by decide +kernel
theorem dJ1_indexOf_4cfef_21 : decode cJ1_indexOf_4cfef 21 = .ok (.istore_n 3, 1) := by decide +kernel
theorem dJ1_indexOf_4cfef_22 : decode cJ1_indexOf_4cfef 22 = .ok (.iload_n 2, 1) := by decide +kernel
theorem dJ1_indexOf_4cfef_23 : decode cJ1_indexOf_4cfef 23 = .ok (.iload_n 3, 1) := by decide +kernel
theorem dJ1_indexOf_4cfef_24 : decode cJ1_indexOf_4cfef 24 = .ok (.if_icmp .lt 5, 3) := by decide +kernel
theorem dJ1_indexOf_4cfef_27 : decode cJ1_indexOf_4cfef 27 = .ok (.iconst (-1), 1) := by decide +kernel
theorem dJ1_indexOf_4cfef_28 : decode cJ1_indexOf_4cfef 28 = .ok (.ireturn, 1) := by decide +kernel
theorem dJ1_indexOf_4cfef_29 : decode cJ1_indexOf_4cfef 29 = .ok (.aload_n 0, 1) := by decide +kernel
theorem dJ1_indexOf_4cfef_30 : decode cJ1_indexOf_4cfef 30 = .ok (.iload_n 1, 1) := by decide +kernel
theorem dJ1_indexOf_4cfef_31 : decode cJ1_indexOf_4cfef 31 = .ok (.iload_n 2, 1) := by decide +kernel
theorem dJ1_indexOf_4cfef_32 : decode cJ1_indexOf_4cfef 32 = .ok (.iload_n 3, 1) := by decide +kernel
theorem dJ1_indexOf_4cfef_33 : decode cJ1_indexOf_4cfef 33 = .ok (.invokestatic 95, 3) := by decide +kernel
theorem dJ1_indexOf_4cfef_36 : decode cJ1_indexOf_4cfef 36 = .ok (.ireturn, 1) := by decide +kernel
theorem dJ1_indexOfChar_4cfef_0 : decode cJ1_indexOfChar_4cfef 0 = .ok (.iload_n 1, 1) := by decide +kernel
theorem dJ1_indexOfChar_4cfef_1 : decode cJ1_indexOfChar_4cfef 1 = .ok (.i2b, 1) := by decide +kernel
theorem dJ1_indexOfChar_4cfef_2 : decode cJ1_indexOfChar_4cfef 2 = .ok (.istore 4, 2) := by decide +kernel
theorem dJ1_indexOfChar_4cfef_4 : decode cJ1_indexOfChar_4cfef 4 = .ok (.iload_n 2, 1) := by decide +kernel
theorem dJ1_indexOfChar_4cfef_5 : decode cJ1_indexOfChar_4cfef 5 = .ok (.istore 5, 2) := by decide +kernel
theorem dJ1_indexOfChar_4cfef_7 : decode cJ1_indexOfChar_4cfef 7 = .ok (.iload 5, 2) := by decide +kernel
theorem dJ1_indexOfChar_4cfef_9 : decode cJ1_indexOfChar_4cfef 9 = .ok (.iload_n 3, 1) := by decide +kernel
theorem dJ1_indexOfChar_4cfef_10 : decode cJ1_indexOfChar_4cfef 10 = .ok (.if_icmp .ge 21, 3) := by decide +kernel
theorem dJ1_indexOfChar_4cfef_13 : decode cJ1_indexOfChar_4cfef 13 = .ok (.aload_n 0, 1) := by decide +kernel
theorem dJ1_indexOfChar_4cfef_14 : decode cJ1_indexOfChar_4cfef 14 = .ok (.iload 5, 2) := by decide +kernel
theorem dJ1_indexOfChar_4cfef_16 : decode cJ1_indexOfChar_4cfef 16 = .ok (.baload, 1) := by decide +kernel
theorem dJ1_indexOfChar_4cfef_17 : decode cJ1_indexOfChar_4cfef 17 = .ok (.iload 4, 2) := by decide +kernel
theorem dJ1_indexOfChar_4cfef_19 : decode cJ1_indexOfChar_4cfef 19 = .ok (.if_icmp .ne 6, 3) := by decide +kernel
theorem dJ1_indexOfChar_4cfef_22 : decode cJ1_indexOfChar_4cfef 22 = .ok (.iload 5, 2) := by decide +kernel
theorem dJ1_indexOfChar_4cfef_24 : decode cJ1_indexOfChar_4cfef 24 = .ok (.ireturn, 1) := by decide +kernel
theorem dJ1_indexOfChar_4cfef_25 : decode cJ1_indexOfChar_4cfef 25 = .ok (.iinc 5 1, 3) := by decide +kernel
theorem dJ1_indexOfChar_4cfef_28 : decode cJ1_indexOfChar_4cfef 28 = .ok (.goto (-21), 3) := by decide +kernel
theorem dJ1_indexOfChar_4cfef_31 : decode cJ1_indexOfChar_4cfef 31 = .ok (.iconst (-1), 1) := by decide +kernel
theorem dJ1_indexOfChar_4cfef_32 : decode cJ1_indexOfChar_4cfef 32 = .ok (.ireturn, 1) := by decide +kernel
set_option maxHeartbeats 4000000 in
set_option maxRecDepth 20000 in
theorem wJ0_coder_7d493 (l : Launch) (dC : Nat → ClassId) (dI : Nat → Nat → Nat) (ca : Nat → ClassId) (base : Nat) (H0 : Heap) (h0 n : Nat) : Met l yJ0_coder_7d493 (jw yJ0_coder_7d493 cJ0_coder_7d493 1 (some .byte)) ({ frames := 0, cells := 0, slots := 0, locals := 0 }) (va_Pc [.ref h0] (fun U => U.heap = H0 ∧ jStr base h0 n U H0 ∧ jG dC dI ca base U ∧ (n < 2147483648))) (vp_Si (fun r => r = 0)) 0 0 (fun _ => False) := by
  refine Met.ofW (cc := cJ0_coder_7d493) (maxL := 1) (ret := (some .byte)) (by decide) rfl ?_
  intro p e s m args below meth c s₁ B hml hv
  obtain ⟨rfl, hH0, hstr_h0, hG, hpre⟩ := hv
  have hK := hG.1
  have hx := B.exec
  have hb := B.bytes
  have hr := B.returns
  have hts := atoms_spec (ws := (jw yJ0_coder_7d493 cJ0_coder_7d493 1 (some .byte))) B.pre
  have htw : ∀ w ∈ jWl, w.before _ s = true := fun w h => hts w (List.mem_cons_of_mem _ h)
  have hown : s.vm.findClass RJ0 = some m.cls := findClass_of_methodNamed B.named
  have hlocks := B.notSynchronized
  obtain ⟨Q, hQ⟩ : ∃ Q, Q = MQ below (vp_Si (fun r => r = 0)) ([.ref h0] : List Value).toArray s 0 0 (fun _ => False) := ⟨_, rfl⟩
  rw [← hQ]
  have hl := lv_entry ([.ref h0]) (n := 1) (Nat.le_of_ble_eq_true rfl)
  rw [lg_entry_eq]
  generalize (lg_sl ([.ref h0]) ++ List.replicate (1 - (lg_sl ([.ref h0])).length) Slot.unset).toArray = ls at hl ⊢
  have hl : lv_has ls 1 [(0, .ref h0)] := hl
  generalize hR : (headSpec (jw yJ0_coder_7d493 cJ0_coder_7d493 1 (some .byte)) ({ frames := 0, cells := 0, slots := 0, locals := 0 })).room = R
  subst hH0
  have hS : va_S (jA base) s.heap s.heap [] := va_S.rf
  have hk0 : (0 : Int32).toInt = 0 := by decide
  have hk1 : (1 : Int32).toInt = 1 := by decide
  refine va_gets hx hb hG.2.2.2.2.1 hS hown (htw (.fieldLink RJ0 38 "java/lang/String" "COMPACT_STRINGS" "Z") (jWr_5 _ (List.mem_of_getElem? (i := 22) rfl))) (fun _ h9 => h9) dJ0_coder_7d493_0 ?_
  refine lv_if_eq (tgt := 13) hx hb dJ0_coder_7d493_3 (by decide) (fun c_1 => ?_) (fun c_1 => ?_)
  · skip
    exact absurd c_1 (by decide)
  · skip
    refine lv_aload_n hx hb dJ0_coder_7d493_6 rfl (lv_at hl 0 rfl) ?_
    refine vk_getf hx hb hstr_h0.2.1 hS hown (htw (.fieldLink RJ0 15 "java/lang/String" "coder" "B") (jWr_5 _ (List.mem_of_getElem? (i := 23) rfl))) (fun _ h9 => h9) dJ0_coder_7d493_7 ?_
    refine lv_goto (tgt := 14) hx hb dJ0_coder_7d493_10 (by decide) ?_
    rw [hQ]
    exact W.zret (v := 0) hx hb hr rfl (fun t ht hW => ⟨0, rfl, rfl, ht⟩) (fun _ h => nomatch h) dJ0_coder_7d493_14
set_option maxHeartbeats 4000000 in
set_option maxRecDepth 20000 in
theorem wJ0_isLatin1_aae02 (l : Launch) (dC : Nat → ClassId) (dI : Nat → Nat → Nat) (ca : Nat → ClassId) (base : Nat) (H0 : Heap) (h0 n : Nat) : Met l yJ0_isLatin1_aae02 (jw yJ0_isLatin1_aae02 cJ0_isLatin1_aae02 1 (some .boolean)) ({ frames := 0, cells := 0, slots := 0, locals := 0 }) (va_Pc [.ref h0] (fun U => U.heap = H0 ∧ jStr base h0 n U H0 ∧ jG dC dI ca base U ∧ (n < 2147483648))) (vp_Si (fun r => r = 1)) 0 0 (fun _ => False) := by
  refine Met.ofW (cc := cJ0_isLatin1_aae02) (maxL := 1) (ret := (some .boolean)) (by decide) rfl ?_
  intro p e s m args below meth c s₁ B hml hv
  obtain ⟨rfl, hH0, hstr_h0, hG, hpre⟩ := hv
  have hK := hG.1
  have hx := B.exec
  have hb := B.bytes
  have hr := B.returns
  have hts := atoms_spec (ws := (jw yJ0_isLatin1_aae02 cJ0_isLatin1_aae02 1 (some .boolean))) B.pre
  have htw : ∀ w ∈ jWl, w.before _ s = true := fun w h => hts w (List.mem_cons_of_mem _ h)
  have hown : s.vm.findClass RJ0 = some m.cls := findClass_of_methodNamed B.named
  have hlocks := B.notSynchronized
  obtain ⟨Q, hQ⟩ : ∃ Q, Q = MQ below (vp_Si (fun r => r = 1)) ([.ref h0] : List Value).toArray s 0 0 (fun _ => False) := ⟨_, rfl⟩
  rw [← hQ]
  have hl := lv_entry ([.ref h0]) (n := 1) (Nat.le_of_ble_eq_true rfl)
  rw [lg_entry_eq]
  generalize (lg_sl ([.ref h0]) ++ List.replicate (1 - (lg_sl ([.ref h0])).length) Slot.unset).toArray = ls at hl ⊢
  have hl : lv_has ls 1 [(0, .ref h0)] := hl
  generalize hR : (headSpec (jw yJ0_isLatin1_aae02 cJ0_isLatin1_aae02 1 (some .boolean)) ({ frames := 0, cells := 0, slots := 0, locals := 0 })).room = R
  subst hH0
  have hS : va_S (jA base) s.heap s.heap [] := va_S.rf
  have hk0 : (0 : Int32).toInt = 0 := by decide
  have hk1 : (1 : Int32).toInt = 1 := by decide
  refine va_gets hx hb hG.2.2.2.2.1 hS hown (htw (.fieldLink RJ0 38 "java/lang/String" "COMPACT_STRINGS" "Z") (jWr_5 _ (List.mem_of_getElem? (i := 22) rfl))) (fun _ h9 => h9) dJ0_isLatin1_aae02_0 ?_
  refine lv_if_eq (tgt := 17) hx hb dJ0_isLatin1_aae02_3 (by decide) (fun c_1 => ?_) (fun c_1 => ?_)
  · skip
    exact absurd c_1 (by decide)
  · skip
    refine lv_aload_n hx hb dJ0_isLatin1_aae02_6 rfl (lv_at hl 0 rfl) ?_
    refine vk_getf hx hb hstr_h0.2.1 hS hown (htw (.fieldLink RJ0 15 "java/lang/String" "coder" "B") (jWr_5 _ (List.mem_of_getElem? (i := 23) rfl))) (fun _ h9 => h9) dJ0_isLatin1_aae02_7 ?_
    refine lv_if_ne (tgt := 17) hx hb dJ0_isLatin1_aae02_10 (by decide) (fun c_2 => ?_) (fun c_2 => ?_)
    · skip
      exact absurd c_2 (by decide)
    · skip
      refine lv_iconst (v := 1) hx hb dJ0_isLatin1_aae02_13 (by decide) ?_
      refine lv_goto (tgt := 18) hx hb dJ0_isLatin1_aae02_14 (by decide) ?_
      rw [hQ]
      exact W.zret (v := 1) hx hb hr (jb_nz (Or.inr rfl)) (fun t ht hW => ⟨1, rfl, rfl, ht⟩) (fun _ h => nomatch h) dJ0_isLatin1_aae02_18
set_option maxHeartbeats 4000000 in
set_option maxRecDepth 20000 in
theorem wJ0_length_8abf5 (l : Launch) (dC : Nat → ClassId) (dI : Nat → Nat → Nat) (ca : Nat → ClassId) (base : Nat) (H0 : Heap) (h0 n : Nat) : Met l yJ0_length_8abf5 (jw yJ0_length_8abf5 cJ0_length_8abf5 1 (some .int)) ({ frames := 1, cells := 0, slots := 0, locals := 20 }) (va_Pc [.ref h0] (fun U => U.heap = H0 ∧ jStr base h0 n U H0 ∧ jG dC dI ca base U ∧ (n < 2147483648))) (vp_Si (fun r => r.toInt = n)) 0 0 (fun _ => False) := by
  refine Met.ofW (cc := cJ0_length_8abf5) (maxL := 1) (ret := (some .int)) (by decide) rfl ?_
  intro p e s m args below meth c s₁ B hml hv
  obtain ⟨rfl, hH0, hstr_h0, hG, hpre⟩ := hv
  have hK := hG.1
  have hx := B.exec
  have hb := B.bytes
  have hr := B.returns
  have hts := atoms_spec (ws := (jw yJ0_length_8abf5 cJ0_length_8abf5 1 (some .int))) B.pre
  have htw : ∀ w ∈ jWl, w.before _ s = true := fun w h => hts w (List.mem_cons_of_mem _ h)
  have hown : s.vm.findClass RJ0 = some m.cls := findClass_of_methodNamed B.named
  have hlocks := B.notSynchronized
  obtain ⟨Q, hQ⟩ : ∃ Q, Q = MQ below (vp_Si (fun r => r.toInt = n)) ([.ref h0] : List Value).toArray s 0 0 (fun _ => False) := ⟨_, rfl⟩
  rw [← hQ]
  have hl := lv_entry ([.ref h0]) (n := 1) (Nat.le_of_ble_eq_true rfl)
  rw [lg_entry_eq]
  generalize (lg_sl ([.ref h0]) ++ List.replicate (1 - (lg_sl ([.ref h0])).length) Slot.unset).toArray = ls at hl ⊢
  have hl : lv_has ls 1 [(0, .ref h0)] := hl
  generalize hR : (headSpec (jw yJ0_length_8abf5 cJ0_length_8abf5 1 (some .int)) ({ frames := 1, cells := 0, slots := 0, locals := 20 })).room = R
  subst hH0
  have hS : va_S (jA base) s.heap s.heap [] := va_S.rf
  have hk0 : (0 : Int32).toInt = 0 := by decide
  have hk1 : (1 : Int32).toInt = 1 := by decide
  refine lv_aload_n hx hb dJ0_length_8abf5_0 rfl (lv_at hl 0 rfl) ?_
  obtain ⟨sv_1, fsv_1, gsv_1, hsv_1⟩ := hstr_h0.2.2
  refine vk_getf hx hb gsv_1 hS hown (htw (.fieldLink RJ0 9 "java/lang/String" "value" "[B") (jWr_5 _ (List.mem_of_getElem? (i := 17) rfl))) (fun _ h9 => h9) dJ0_length_8abf5_1 ?_
  refine va_tlen hx hb hsv_1 hS (v := Int32.ofNat n) rfl dJ0_length_8abf5_4 ?_
  refine lv_topi (fun z_2 ez_2 => ?_)
  have hz_2 : z_2.toInt = n := by rw [ez_2]; exact jb_nat (by omega)
  refine lv_aload_n hx hb dJ0_length_8abf5_5 rfl (lv_at hl 0 rfl) ?_
  refine vp_callSi (W.runV (As := []) (rest := [.int z_2]) ⟨hx, hb, hml, hown, hts⟩ (wJ0_coder_7d493 l dC dI ca base s.heap h0 n) (cwV 0 hts (jgV (jWr_5 _ (List.mem_of_getElem? (i := 18) rfl)) (jWr_5 _ (List.mem_of_getElem? (i := 19) rfl)) (jWr_5 _ (List.mem_of_getElem? (i := 20) rfl)) (jWr_5 _ (List.mem_of_getElem? (i := 15) rfl)) (jWr_5 _ (List.mem_of_getElem? (i := 21) rfl))) rfl rfl rfl (by decide +kernel) ⟨by rw [← hR]; exact Nat.le_of_ble_eq_true rfl, by rw [← hR]; exact Nat.le_of_ble_eq_true rfl⟩) ⟨fun a U g mk q => by obtain ⟨q0, q1, q2, qK, q9⟩ := q; exact ⟨q0, q1, (q2.moved (Vm.Alike.refl U.vm)), jG.calling g mk a qK, q9⟩, jStr_recv hstr_h0 hS, fun U hU hW => ⟨rfl, hU, (hstr_h0.moved hW.alike).kept hS.2.1, hG.step hW hU hS, by omega⟩⟩ rfl rfl hl.1 rfl (lv_room (Nat.le_of_ble_eq_true rfl)) dJ0_length_8abf5_6 ⟨Nat.zero_le _, Nat.zero_le _⟩) (fun r_3 hr_3 => ?_)
  subst hr_3
  refine lv_ishr hx hb dJ0_length_8abf5_9 ?_
  refine lv_topi (fun z_4 ez_4 => ?_)
  have hz_4 : z_4.toInt = z_2.toInt / 2 ^ 0 := by rw [ez_4]; exact jb_ishr 0 (rfl) (by decide)
  rw [hQ]
  exact W.iret (v := z_4) hx hb hr (fun t ht hW => ⟨z_4, rfl, by first | trivial | omega | (constructor <;> omega), ht⟩) (fun _ h => nomatch h) dJ0_length_8abf5_10
set_option maxHeartbeats 4000000 in
set_option maxRecDepth 20000 in
theorem wJ3_checkIndex_8e157_z (l : Launch) (dC : Nat → ClassId) (dI : Nat → Nat → Nat) (ca : Nat → ClassId) (base : Nat) (H0 : Heap) (a0 : Int32) (a1 : Int32) : Met l yJ3_checkIndex_8e157 (jw yJ3_checkIndex_8e157 cJ3_checkIndex_8e157 3 (some .int)) ({ frames := 0, cells := 0, slots := 0, locals := 0 }) (va_Pc [.int a0, .int a1, .null] (fun U => U.heap = H0 ∧ jG dC dI ca base U ∧ (0 ≤ a0.toInt ∧ a0.toInt < a1.toInt))) (vp_Si (fun r => r = a0)) 0 0 (fun _ => False) := by
  refine Met.ofW (cc := cJ3_checkIndex_8e157) (maxL := 3) (ret := (some .int)) (by decide) rfl ?_
  intro p e s m args below meth c s₁ B hml hv
  obtain ⟨rfl, hH0, hG, hp1, hp2⟩ := hv
  have hK := hG.1
  have hx := B.exec
  have hb := B.bytes
  have hr := B.returns
  have hts := atoms_spec (ws := (jw yJ3_checkIndex_8e157 cJ3_checkIndex_8e157 3 (some .int))) B.pre
  have htw : ∀ w ∈ jWl, w.before _ s = true := fun w h => hts w (List.mem_cons_of_mem _ h)
  have hown : s.vm.findClass RJ3 = some m.cls := findClass_of_methodNamed B.named
  have hlocks := B.notSynchronized
  obtain ⟨Q, hQ⟩ : ∃ Q, Q = MQ below (vp_Si (fun r => r = a0)) ([.int a0, .int a1, .null] : List Value).toArray s 0 0 (fun _ => False) := ⟨_, rfl⟩
  rw [← hQ]
  have hl := lv_entry ([.int a0, .int a1, .null]) (n := 3) (Nat.le_of_ble_eq_true rfl)
  rw [lg_entry_eq]
  generalize (lg_sl ([.int a0, .int a1, .null]) ++ List.replicate (3 - (lg_sl ([.int a0, .int a1, .null])).length) Slot.unset).toArray = ls at hl ⊢
  have hl : lv_has ls 3 [(0, .int a0), (1, .int a1), (2, .null)] := hl
  generalize hR : (headSpec (jw yJ3_checkIndex_8e157 cJ3_checkIndex_8e157 3 (some .int)) ({ frames := 0, cells := 0, slots := 0, locals := 0 })).room = R
  subst hH0
  have hS : va_S (jA base) s.heap s.heap [] := va_S.rf
  have hk0 : (0 : Int32).toInt = 0 := by decide
  have hk1 : (1 : Int32).toInt = 1 := by decide
  refine lv_iload_n hx hb dJ3_checkIndex_8e157_0 rfl (lv_at hl 0 rfl) ?_
  refine lv_if_lt (tgt := 9) hx hb dJ3_checkIndex_8e157_1 (by decide) (fun c_1 => ?_) (fun c_1 => ?_)
  · skip
    have c_1' : a0.toInt < 0 := jb_lt (rfl) ((by decide)) c_1
    exact absurd c_1' (by omega)
  · skip
    have c_1' : a0.toInt ≥ 0 := jb_lt_n (rfl) ((by decide)) c_1
    refine lv_iload_n hx hb dJ3_checkIndex_8e157_4 rfl (lv_at hl 0 rfl) ?_
    refine lv_iload_n hx hb dJ3_checkIndex_8e157_5 rfl (lv_at hl 1 rfl) ?_
    refine lv_icmp_lt (tgt := 16) hx hb dJ3_checkIndex_8e157_6 (by decide) (fun c_2 => ?_) (fun c_2 => ?_)
    · skip
      have c_2' : a0.toInt < a1.toInt := jb_lt (rfl) (rfl) c_2
      refine lv_iload_n hx hb dJ3_checkIndex_8e157_16 rfl (lv_at hl 0 rfl) ?_
      rw [hQ]
      exact W.iret (v := a0) hx hb hr (fun t ht hW => ⟨a0, rfl, rfl, ht⟩) (fun _ h => nomatch h) dJ3_checkIndex_8e157_17
    · skip
      have c_2' : a0.toInt ≥ a1.toInt := jb_lt_n (rfl) (rfl) c_2
      exact absurd c_2' (by omega)
set_option maxHeartbeats 4000000 in
set_option maxRecDepth 20000 in
theorem wJ3_checkIndex_8e157_a (l : Launch) (dC : Nat → ClassId) (dI : Nat → Nat → Nat) (ca : Nat → ClassId) (base : Nat) (H0 : Heap) (a0 : Int32) (a1 : Int32) (a2 : Nat) : Met l yJ3_checkIndex_8e157 (jw yJ3_checkIndex_8e157 cJ3_checkIndex_8e157 3 (some .int)) ({ frames := 0, cells := 0, slots := 0, locals := 0 }) (va_Pc [.int a0, .int a1, .ref a2] (fun U => U.heap = H0 ∧ jG dC dI ca base U ∧ (0 ≤ a0.toInt ∧ a0.toInt < a1.toInt))) (vp_Si (fun r => r = a0)) 0 0 (fun _ => False) := by
  refine Met.ofW (cc := cJ3_checkIndex_8e157) (maxL := 3) (ret := (some .int)) (by decide) rfl ?_
  intro p e s m args below meth c s₁ B hml hv
  obtain ⟨rfl, hH0, hG, hp1, hp2⟩ := hv
  have hK := hG.1
  have hx := B.exec
  have hb := B.bytes
  have hr := B.returns
  have hts := atoms_spec (ws := (jw yJ3_checkIndex_8e157 cJ3_checkIndex_8e157 3 (some .int))) B.pre
  have htw : ∀ w ∈ jWl, w.before _ s = true := fun w h => hts w (List.mem_cons_of_mem _ h)
  have hown : s.vm.findClass RJ3 = some m.cls := findClass_of_methodNamed B.named
  have hlocks := B.notSynchronized
  obtain ⟨Q, hQ⟩ : ∃ Q, Q = MQ below (vp_Si (fun r => r = a0)) ([.int a0, .int a1, .ref a2] : List Value).toArray s 0 0 (fun _ => False) := ⟨_, rfl⟩
  rw [← hQ]
  have hl := lv_entry ([.int a0, .int a1, .ref a2]) (n := 3) (Nat.le_of_ble_eq_true rfl)
  rw [lg_entry_eq]
  generalize (lg_sl ([.int a0, .int a1, .ref a2]) ++ List.replicate (3 - (lg_sl ([.int a0, .int a1, .ref a2])).length) Slot.unset).toArray = ls at hl ⊢
  have hl : lv_has ls 3 [(0, .int a0), (1, .int a1), (2, .ref a2)] := hl
  generalize hR : (headSpec (jw yJ3_checkIndex_8e157 cJ3_checkIndex_8e157 3 (some .int)) ({ frames := 0, cells := 0, slots := 0, locals := 0 })).room = R
  subst hH0
  have hS : va_S (jA base) s.heap s.heap [] := va_S.rf
  have hk0 : (0 : Int32).toInt = 0 := by decide
  have hk1 : (1 : Int32).toInt = 1 := by decide
  refine lv_iload_n hx hb dJ3_checkIndex_8e157_0 rfl (lv_at hl 0 rfl) ?_
  refine lv_if_lt (tgt := 9) hx hb dJ3_checkIndex_8e157_1 (by decide) (fun c_1 => ?_) (fun c_1 => ?_)
  · skip
    have c_1' : a0.toInt < 0 := jb_lt (rfl) ((by decide)) c_1
    exact absurd c_1' (by omega)
  · skip
    have c_1' : a0.toInt ≥ 0 := jb_lt_n (rfl) ((by decide)) c_1
    refine lv_iload_n hx hb dJ3_checkIndex_8e157_4 rfl (lv_at hl 0 rfl) ?_
    refine lv_iload_n hx hb dJ3_checkIndex_8e157_5 rfl (lv_at hl 1 rfl) ?_
    refine lv_icmp_lt (tgt := 16) hx hb dJ3_checkIndex_8e157_6 (by decide) (fun c_2 => ?_) (fun c_2 => ?_)
    · skip
      have c_2' : a0.toInt < a1.toInt := jb_lt (rfl) (rfl) c_2
      refine lv_iload_n hx hb dJ3_checkIndex_8e157_16 rfl (lv_at hl 0 rfl) ?_
      rw [hQ]
      exact W.iret (v := a0) hx hb hr (fun t ht hW => ⟨a0, rfl, rfl, ht⟩) (fun _ h => nomatch h) dJ3_checkIndex_8e157_17
    · skip
      have c_2' : a0.toInt ≥ a1.toInt := jb_lt_n (rfl) (rfl) c_2
      exact absurd c_2' (by omega)
set_option maxHeartbeats 4000000 in
set_option maxRecDepth 20000 in
theorem wJ0_checkIndex_df160 (l : Launch) (dC : Nat → ClassId) (dI : Nat → Nat → Nat) (ca : Nat → ClassId) (base : Nat) (H0 : Heap) (a0 : Int32) (a1 : Int32) : Met l yJ0_checkIndex_df160 (jw yJ0_checkIndex_df160 cJ0_checkIndex_df160 2 none) ({ frames := 1, cells := 0, slots := 0, locals := 40 }) (va_Pc [.int a0, .int a1] (fun U => U.heap = H0 ∧ jG dC dI ca base U ∧ (0 ≤ a0.toInt ∧ a0.toInt < a1.toInt))) (va_Sv (fun _ => True)) 0 0 (fun _ => False) := by
  refine Met.ofW (cc := cJ0_checkIndex_df160) (maxL := 2) (ret := none) (by decide) rfl ?_
  intro p e s m args below meth c s₁ B hml hv
  obtain ⟨rfl, hH0, hG, hp1, hp2⟩ := hv
  have hK := hG.1
  have hx := B.exec
  have hb := B.bytes
  have hr := B.returns
  have hts := atoms_spec (ws := (jw yJ0_checkIndex_df160 cJ0_checkIndex_df160 2 none)) B.pre
  have htw : ∀ w ∈ jWl, w.before _ s = true := fun w h => hts w (List.mem_cons_of_mem _ h)
  have hown : s.vm.findClass RJ0 = some m.cls := findClass_of_methodNamed B.named
  have hlocks := B.notSynchronized
  obtain ⟨Q, hQ⟩ : ∃ Q, Q = MQ below (va_Sv (fun _ => True)) ([.int a0, .int a1] : List Value).toArray s 0 0 (fun _ => False) := ⟨_, rfl⟩
  rw [← hQ]
  have hl := lv_entry ([.int a0, .int a1]) (n := 2) (Nat.le_of_ble_eq_true rfl)
  rw [lg_entry_eq]
  generalize (lg_sl ([.int a0, .int a1]) ++ List.replicate (2 - (lg_sl ([.int a0, .int a1])).length) Slot.unset).toArray = ls at hl ⊢
  have hl : lv_has ls 2 [(0, .int a0), (1, .int a1)] := hl
  generalize hR : (headSpec (jw yJ0_checkIndex_df160 cJ0_checkIndex_df160 2 none) ({ frames := 1, cells := 0, slots := 0, locals := 40 })).room = R
  subst hH0
  have hS : va_S (jA base) s.heap s.heap [] := va_S.rf
  have hk0 : (0 : Int32).toInt = 0 := by decide
  have hk1 : (1 : Int32).toInt = 1 := by decide
  refine lv_iload_n hx hb dJ0_checkIndex_df160_0 rfl (lv_at hl 0 rfl) ?_
  refine lv_iload_n hx hb dJ0_checkIndex_df160_1 rfl (lv_at hl 1 rfl) ?_
  rcases hG.2.2.2.2.2.2.2 with hz9 | ⟨t9, hz9⟩
  · refine va_gets hx hb hz9 hS hown (htw (.fieldLink RJ0 1053 "jdk/internal/util/Preconditions" "SIOOBE_FORMATTER" "Ljava/util/function/BiFunction;") (jWr_6 _ (List.mem_of_getElem? (i := 15) rfl))) (fun _ h9 => h9) dJ0_checkIndex_df160_2 ?_
    refine vp_callSi (W.runS (As := [.int a0, .int a1, .null]) (rest := []) ⟨hx, hb, hml, hown, hts⟩ (wJ3_checkIndex_8e157_z l dC dI ca base s.heap a0 a1) (va_cwS 3 hts (jgS (jWr_6 _ (List.mem_of_getElem? (i := 16) rfl)) (jWr_6 _ (List.mem_of_getElem? (i := 17) rfl)) (jWr_6 _ (List.mem_of_getElem? (i := 18) rfl)) (jWr_6 _ (List.mem_of_getElem? (i := 19) rfl))) rfl rfl rfl (by decide +kernel) ⟨by rw [← hR]; exact Nat.le_of_ble_eq_true rfl, by rw [← hR]; exact Nat.le_of_ble_eq_true rfl⟩) ⟨fun a U g mk q => by obtain ⟨q0, q1, qK, q9⟩ := q; exact ⟨q0, q1, jG.calling g mk a qK, q9⟩, fun U hU hW => ⟨rfl, hU, hG.step hW hU hS, by first | trivial | omega | (constructor <;> omega)⟩⟩ rfl rfl hl.1 rfl (lv_room (Nat.le_of_ble_eq_true rfl)) dJ0_checkIndex_df160_5 ⟨Nat.zero_le _, Nat.zero_le _⟩) (fun r_1 hr_1 => ?_)
    refine lv_pop hx hb dJ0_checkIndex_df160_8 rfl ?_
    rw [hQ]
    exact W.vret hx hb hr (fun t ht hW => ⟨rfl, trivial, ht⟩) (fun _ h => nomatch h) dJ0_checkIndex_df160_9
  · refine va_gets hx hb hz9 hS hown (htw (.fieldLink RJ0 1053 "jdk/internal/util/Preconditions" "SIOOBE_FORMATTER" "Ljava/util/function/BiFunction;") (jWr_6 _ (List.mem_of_getElem? (i := 15) rfl))) (fun _ h9 => h9) dJ0_checkIndex_df160_2 ?_
    refine vp_callSi (W.runS (As := [.int a0, .int a1, .ref t9]) (rest := []) ⟨hx, hb, hml, hown, hts⟩ (wJ3_checkIndex_8e157_a l dC dI ca base s.heap a0 a1 t9) (va_cwS 3 hts (jgS (jWr_6 _ (List.mem_of_getElem? (i := 16) rfl)) (jWr_6 _ (List.mem_of_getElem? (i := 17) rfl)) (jWr_6 _ (List.mem_of_getElem? (i := 18) rfl)) (jWr_6 _ (List.mem_of_getElem? (i := 19) rfl))) rfl rfl rfl (by decide +kernel) ⟨by rw [← hR]; exact Nat.le_of_ble_eq_true rfl, by rw [← hR]; exact Nat.le_of_ble_eq_true rfl⟩) ⟨fun a U g mk q => by obtain ⟨q0, q1, qK, q9⟩ := q; exact ⟨q0, q1, jG.calling g mk a qK, q9⟩, fun U hU hW => ⟨rfl, hU, hG.step hW hU hS, by first | trivial | omega | (constructor <;> omega)⟩⟩ rfl rfl hl.1 rfl (lv_room (Nat.le_of_ble_eq_true rfl)) dJ0_checkIndex_df160_5 ⟨Nat.zero_le _, Nat.zero_le _⟩) (fun r_2 hr_2 => ?_)
    refine lv_pop hx hb dJ0_checkIndex_df160_8 rfl ?_
    rw [hQ]
    exact W.vret hx hb hr (fun t ht hW => ⟨rfl, trivial, ht⟩) (fun _ h => nomatch h) dJ0_checkIndex_df160_9
set_option maxHeartbeats 4000000 in
set_option maxRecDepth 20000 in
theorem wJ1_charAt_3b067 (l : Launch) (dC : Nat → ClassId) (dI : Nat → Nat → Nat) (ca : Nat → ClassId) (base : Nat) (H0 : Heap) (h0 n : Nat) (f : Nat → Int32) (a1 : Int32) : Met l yJ1_charAt_3b067 (jw yJ1_charAt_3b067 cJ1_charAt_3b067 2 (some .char)) ({ frames := 2, cells := 0, slots := 0, locals := 80 }) (va_Pc [.ref h0, .int a1] (fun U => U.heap = H0 ∧ va_T .byte h0 n (fun j => .int (f j)) (jA base) U H0 ∧ jG dC dI ca base U ∧ (n < 2147483648 ∧ 0 ≤ a1.toInt ∧ a1.toInt < n))) (vp_Si (fun r => 0 ≤ r.toInt ∧ r.toInt ≤ 255)) 0 0 (fun _ => False) := by
  refine Met.ofW (cc := cJ1_charAt_3b067) (maxL := 2) (ret := (some .char)) (by decide) rfl ?_
  intro p e s m args below meth c s₁ B hml hv
  obtain ⟨rfl, hH0, hsa_h0, hG, hp1, hp2, hp3⟩ := hv
  have hK := hG.1
  have hx := B.exec
  have hb := B.bytes
  have hr := B.returns
  have hts := atoms_spec (ws := (jw yJ1_charAt_3b067 cJ1_charAt_3b067 2 (some .char))) B.pre
  have htw : ∀ w ∈ jWl, w.before _ s = true := fun w h => hts w (List.mem_cons_of_mem _ h)
  have hown : s.vm.findClass RJ1 = some m.cls := findClass_of_methodNamed B.named
  have hlocks := B.notSynchronized
  obtain ⟨Q, hQ⟩ : ∃ Q, Q = MQ below (vp_Si (fun r => 0 ≤ r.toInt ∧ r.toInt ≤ 255)) ([.ref h0, .int a1] : List Value).toArray s 0 0 (fun _ => False) := ⟨_, rfl⟩
  rw [← hQ]
  have hl := lv_entry ([.ref h0, .int a1]) (n := 2) (Nat.le_of_ble_eq_true rfl)
  rw [lg_entry_eq]
  generalize (lg_sl ([.ref h0, .int a1]) ++ List.replicate (2 - (lg_sl ([.ref h0, .int a1])).length) Slot.unset).toArray = ls at hl ⊢
  have hl : lv_has ls 2 [(0, .ref h0), (1, .int a1)] := hl
  generalize hR : (headSpec (jw yJ1_charAt_3b067 cJ1_charAt_3b067 2 (some .char)) ({ frames := 2, cells := 0, slots := 0, locals := 80 })).room = R
  subst hH0
  have hS : va_S (jA base) s.heap s.heap [] := va_S.rf
  have hk0 : (0 : Int32).toInt = 0 := by decide
  have hk1 : (1 : Int32).toInt = 1 := by decide
  have hk255 : (255 : Int32).toInt = 255 := by decide
  refine lv_iload_n hx hb dJ1_charAt_3b067_0 rfl (lv_at hl 1 rfl) ?_
  refine lv_aload_n hx hb dJ1_charAt_3b067_1 rfl (lv_at hl 0 rfl) ?_
  refine va_tlen hx hb hsa_h0 hS (v := Int32.ofNat n) rfl dJ1_charAt_3b067_2 ?_
  refine lv_topi (fun z_1 ez_1 => ?_)
  have hz_1 : z_1.toInt = n := by rw [ez_1]; exact jb_nat (by omega)
  refine va_csv (W.runS (As := [.int a1, .int z_1]) (rest := []) ⟨hx, hb, hml, hown, hts⟩ (wJ0_checkIndex_df160 l dC dI ca base s.heap a1 z_1) (va_cwS 2 hts (jgS (jWr_6 _ (List.mem_of_getElem? (i := 12) rfl)) (jWr_6 _ (List.mem_of_getElem? (i := 13) rfl)) (jWr_5 _ (List.mem_of_getElem? (i := 15) rfl)) (jWr_6 _ (List.mem_of_getElem? (i := 14) rfl))) rfl rfl rfl (by decide +kernel) ⟨by rw [← hR]; exact Nat.le_of_ble_eq_true rfl, by rw [← hR]; exact Nat.le_of_ble_eq_true rfl⟩) ⟨fun a U g mk q => by obtain ⟨q0, q1, qK, q9⟩ := q; exact ⟨q0, q1, jG.calling g mk a qK, q9⟩, fun U hU hW => ⟨rfl, hU, hG.step hW hU hS, by first | trivial | omega | (constructor <;> omega)⟩⟩ rfl rfl hl.1 rfl (lv_room (Nat.le_of_ble_eq_true rfl)) dJ1_charAt_3b067_3 ⟨Nat.zero_le _, Nat.zero_le _⟩) (fun _ => ?_)
  refine lv_aload_n hx hb dJ1_charAt_3b067_6 rfl (lv_at hl 0 rfl) ?_
  refine lv_iload_n hx hb dJ1_charAt_3b067_7 rfl (lv_at hl 1 rfl) ?_
  refine va_tb hx hb hsa_h0 hS (jb_in (rfl) (by omega) (by omega)) rfl dJ1_charAt_3b067_8 ?_
  refine lv_topi (fun z_3 ez_3 => ?_)
  refine lv_sipush (v := 255) hx hb dJ1_charAt_3b067_9 (by decide) ?_
  refine lv_iand hx hb dJ1_charAt_3b067_12 ?_
  refine lv_topi (fun z_4 ez_4 => ?_)
  have hz_4 : 0 ≤ z_4.toInt ∧ z_4.toInt ≤ 255 := by rw [ez_4]; exact jb_and z_3 (m := 255) (k := 8) (by decide) (by decide)
  refine lv_i2c hx hb dJ1_charAt_3b067_13 rfl ?_
  refine lv_topi (fun z_5 ez_5 => ?_)
  rw [hQ]
  exact W.zret (v := z_5) hx hb hr (by rw [ez_5]; exact pk_nc _) (fun t ht hW => ⟨z_5, rfl, by rw [ez_5, ez_4]; exact jb_char _, ht⟩) (fun _ h => nomatch h) dJ1_charAt_3b067_14
set_option maxHeartbeats 4000000 in
set_option maxRecDepth 20000 in
theorem wJ0_charAt_5068e (l : Launch) (dC : Nat → ClassId) (dI : Nat → Nat → Nat) (ca : Nat → ClassId) (base : Nat) (H0 : Heap) (h0 n : Nat) (a1 : Int32) : Met l yJ0_charAt_5068e (jw yJ0_charAt_5068e cJ0_charAt_5068e 2 (some .char)) ({ frames := 3, cells := 0, slots := 0, locals := 120 }) (va_Pc [.ref h0, .int a1] (fun U => U.heap = H0 ∧ jStr base h0 n U H0 ∧ jG dC dI ca base U ∧ (n < 2147483648 ∧ 0 ≤ a1.toInt ∧ a1.toInt < n))) (vp_Si (fun r => 0 ≤ r.toInt ∧ r.toInt ≤ 255)) 0 0 (fun _ => False) := by
  refine Met.ofW (cc := cJ0_charAt_5068e) (maxL := 2) (ret := (some .char)) (by decide) rfl ?_
  intro p e s m args below meth c s₁ B hml hv
  obtain ⟨rfl, hH0, hstr_h0, hG, hp1, hp2, hp3⟩ := hv
  have hK := hG.1
  have hx := B.exec
  have hb := B.bytes
  have hr := B.returns
  have hts := atoms_spec (ws := (jw yJ0_charAt_5068e cJ0_charAt_5068e 2 (some .char))) B.pre
  have htw : ∀ w ∈ jWl, w.before _ s = true := fun w h => hts w (List.mem_cons_of_mem _ h)
  have hown : s.vm.findClass RJ0 = some m.cls := findClass_of_methodNamed B.named
  have hlocks := B.notSynchronized
  obtain ⟨Q, hQ⟩ : ∃ Q, Q = MQ below (vp_Si (fun r => 0 ≤ r.toInt ∧ r.toInt ≤ 255)) ([.ref h0, .int a1] : List Value).toArray s 0 0 (fun _ => False) := ⟨_, rfl⟩
  rw [← hQ]
  have hl := lv_entry ([.ref h0, .int a1]) (n := 2) (Nat.le_of_ble_eq_true rfl)
  rw [lg_entry_eq]
  generalize (lg_sl ([.ref h0, .int a1]) ++ List.replicate (2 - (lg_sl ([.ref h0, .int a1])).length) Slot.unset).toArray = ls at hl ⊢
  have hl : lv_has ls 2 [(0, .ref h0), (1, .int a1)] := hl
  generalize hR : (headSpec (jw yJ0_charAt_5068e cJ0_charAt_5068e 2 (some .char)) ({ frames := 3, cells := 0, slots := 0, locals := 120 })).room = R
  subst hH0
  have hS : va_S (jA base) s.heap s.heap [] := va_S.rf
  have hk0 : (0 : Int32).toInt = 0 := by decide
  have hk1 : (1 : Int32).toInt = 1 := by decide
  refine lv_aload_n hx hb dJ0_charAt_5068e_0 rfl (lv_at hl 0 rfl) ?_
  refine vp_callSi (W.runV (As := []) (rest := []) ⟨hx, hb, hml, hown, hts⟩ (wJ0_isLatin1_aae02 l dC dI ca base s.heap h0 n) (cwV 0 hts (jgV (jWr_6 _ (List.mem_of_getElem? (i := 4) rfl)) (jWr_6 _ (List.mem_of_getElem? (i := 5) rfl)) (jWr_6 _ (List.mem_of_getElem? (i := 6) rfl)) (jWr_5 _ (List.mem_of_getElem? (i := 15) rfl)) (jWr_6 _ (List.mem_of_getElem? (i := 7) rfl))) rfl rfl rfl (by decide +kernel) ⟨by rw [← hR]; exact Nat.le_of_ble_eq_true rfl, by rw [← hR]; exact Nat.le_of_ble_eq_true rfl⟩) ⟨fun a U g mk q => by obtain ⟨q0, q1, q2, qK, q9⟩ := q; exact ⟨q0, q1, (q2.moved (Vm.Alike.refl U.vm)), jG.calling g mk a qK, q9⟩, jStr_recv hstr_h0 hS, fun U hU hW => ⟨rfl, hU, (hstr_h0.moved hW.alike).kept hS.2.1, hG.step hW hU hS, by omega⟩⟩ rfl rfl hl.1 rfl (lv_room (Nat.le_of_ble_eq_true rfl)) dJ0_charAt_5068e_1 ⟨Nat.zero_le _, Nat.zero_le _⟩) (fun r_1 hr_1 => ?_)
  subst hr_1
  refine lv_if_eq (tgt := 16) hx hb dJ0_charAt_5068e_4 (by decide) (fun c_2 => ?_) (fun c_2 => ?_)
  · skip
    exact absurd c_2 (by decide)
  · skip
    refine lv_aload_n hx hb dJ0_charAt_5068e_7 rfl (lv_at hl 0 rfl) ?_
    obtain ⟨sv_3, fsv_3, gsv_3, hsv_3⟩ := hstr_h0.2.2
    refine vk_getf hx hb gsv_3 hS hown (htw (.fieldLink RJ0 9 "java/lang/String" "value" "[B") (jWr_5 _ (List.mem_of_getElem? (i := 17) rfl))) (fun _ h9 => h9) dJ0_charAt_5068e_8 ?_
    refine lv_iload_n hx hb dJ0_charAt_5068e_11 rfl (lv_at hl 1 rfl) ?_
    refine vp_callSi (W.runS (As := [.ref sv_3, .int a1]) (rest := []) ⟨hx, hb, hml, hown, hts⟩ (wJ1_charAt_3b067 l dC dI ca base s.heap sv_3 n fsv_3 a1) (va_cwS 2 hts (jgS (jWr_6 _ (List.mem_of_getElem? (i := 8) rfl)) (jWr_6 _ (List.mem_of_getElem? (i := 9) rfl)) (jWr_6 _ (List.mem_of_getElem? (i := 10) rfl)) (jWr_6 _ (List.mem_of_getElem? (i := 11) rfl))) rfl rfl rfl (by decide +kernel) ⟨by rw [← hR]; exact Nat.le_of_ble_eq_true rfl, by rw [← hR]; exact Nat.le_of_ble_eq_true rfl⟩) ⟨fun a U g mk q => by obtain ⟨q0, q1, q2, qK, q9⟩ := q; exact ⟨q0, q1, (q2.moved (Vm.Alike.refl U.vm)), jG.calling g mk a qK, q9⟩, fun U hU hW => ⟨rfl, hU, (hsv_3.moved hW.alike).kept hS.2.1, hG.step hW hU hS, ⟨by omega, by omega, by omega⟩⟩⟩ rfl rfl hl.1 rfl (lv_room (Nat.le_of_ble_eq_true rfl)) dJ0_charAt_5068e_12 ⟨Nat.zero_le _, Nat.zero_le _⟩) (fun r_4 hr_4 => ?_)
    rw [hQ]
    exact W.zret (v := r_4) hx hb hr (jb_nch hr_4.1 hr_4.2) (fun t ht hW => ⟨r_4, rfl, by first | trivial | omega | (constructor <;> omega), ht⟩) (fun _ h => nomatch h) dJ0_charAt_5068e_15
set_option maxHeartbeats 4000000 in
set_option maxRecDepth 20000 in
theorem wX14_isBlank (l : Launch) (dC : Nat → ClassId) (dI : Nat → Nat → Nat) (ca : Nat → ClassId) (base : Nat) (H0 : Heap) (a0 : Int32) : Met l yX14_isBlank (jw yX14_isBlank cX14_isBlank 1 (some .boolean)) ({ frames := 0, cells := 0, slots := 0, locals := 0 }) (va_Pc [.int a0] (fun U => U.heap = H0 ∧ jG dC dI ca base U ∧ (True))) (vp_Si (fun r => r = 0 ∨ r = 1)) 0 0 (fun _ => False) := by
  refine Met.ofW (cc := cX14_isBlank) (maxL := 1) (ret := (some .boolean)) (by decide) rfl ?_
  intro p e s m args below meth c s₁ B hml hv
  obtain ⟨rfl, hH0, hG, hpre⟩ := hv
  have hK := hG.1
  have hx := B.exec
  have hb := B.bytes
  have hr := B.returns
  have hts := atoms_spec (ws := (jw yX14_isBlank cX14_isBlank 1 (some .boolean))) B.pre
  have htw : ∀ w ∈ jWl, w.before _ s = true := fun w h => hts w (List.mem_cons_of_mem _ h)
  have hown : s.vm.findClass RX14 = some m.cls := findClass_of_methodNamed B.named
  have hlocks := B.notSynchronized
  obtain ⟨Q, hQ⟩ : ∃ Q, Q = MQ below (vp_Si (fun r => r = 0 ∨ r = 1)) ([.int a0] : List Value).toArray s 0 0 (fun _ => False) := ⟨_, rfl⟩
  rw [← hQ]
  have hl := lv_entry ([.int a0]) (n := 1) (Nat.le_of_ble_eq_true rfl)
  rw [lg_entry_eq]
  generalize (lg_sl ([.int a0]) ++ List.replicate (1 - (lg_sl ([.int a0])).length) Slot.unset).toArray = ls at hl ⊢
  have hl : lv_has ls 1 [(0, .int a0)] := hl
  generalize hR : (headSpec (jw yX14_isBlank cX14_isBlank 1 (some .boolean)) ({ frames := 0, cells := 0, slots := 0, locals := 0 })).room = R
  subst hH0
  have hS : va_S (jA base) s.heap s.heap [] := va_S.rf
  have hk0 : (0 : Int32).toInt = 0 := by decide
  have hk1 : (1 : Int32).toInt = 1 := by decide
  have hk9 : (9 : Int32).toInt = 9 := by decide
  have hk10 : (10 : Int32).toInt = 10 := by decide
  have hk13 : (13 : Int32).toInt = 13 := by decide
  have hk32 : (32 : Int32).toInt = 32 := by decide
  refine lv_iload_n hx hb dX14_isBlank_0 rfl (lv_at hl 0 rfl) ?_
  refine lv_bipush (v := 32) hx hb dX14_isBlank_1 (by decide) ?_
  refine lv_icmp_eq (tgt := 24) hx hb dX14_isBlank_3 (by decide) (fun c_1 => ?_) (fun c_1 => ?_)
  · skip
    have c_1' : a0.toInt = 32 := jb_eq (rfl) ((by decide)) c_1
    refine lv_iconst (v := 1) hx hb dX14_isBlank_24 (by decide) ?_
    refine lv_goto (tgt := 29) hx hb dX14_isBlank_25 (by decide) ?_
    rw [hQ]
    exact W.zret (v := 1) hx hb hr (jb_nz (Or.inr rfl)) (fun t ht hW => ⟨1, rfl, by first | exact Or.inl rfl | exact Or.inr rfl | assumption, ht⟩) (fun _ h => nomatch h) dX14_isBlank_29
  · skip
    have c_1' : a0.toInt ≠ 32 := jb_eq_n (rfl) ((by decide)) c_1
    refine lv_iload_n hx hb dX14_isBlank_6 rfl (lv_at hl 0 rfl) ?_
    refine lv_bipush (v := 9) hx hb dX14_isBlank_7 (by decide) ?_
    refine lv_icmp_eq (tgt := 24) hx hb dX14_isBlank_9 (by decide) (fun c_2 => ?_) (fun c_2 => ?_)
    · skip
      have c_2' : a0.toInt = 9 := jb_eq (rfl) ((by decide)) c_2
      refine lv_iconst (v := 1) hx hb dX14_isBlank_24 (by decide) ?_
      refine lv_goto (tgt := 29) hx hb dX14_isBlank_25 (by decide) ?_
      rw [hQ]
      exact W.zret (v := 1) hx hb hr (jb_nz (Or.inr rfl)) (fun t ht hW => ⟨1, rfl, by first | exact Or.inl rfl | exact Or.inr rfl | assumption, ht⟩) (fun _ h => nomatch h) dX14_isBlank_29
    · skip
      have c_2' : a0.toInt ≠ 9 := jb_eq_n (rfl) ((by decide)) c_2
      refine lv_iload_n hx hb dX14_isBlank_12 rfl (lv_at hl 0 rfl) ?_
      refine lv_bipush (v := 10) hx hb dX14_isBlank_13 (by decide) ?_
      refine lv_icmp_eq (tgt := 24) hx hb dX14_isBlank_15 (by decide) (fun c_3 => ?_) (fun c_3 => ?_)
      · skip
        have c_3' : a0.toInt = 10 := jb_eq (rfl) ((by decide)) c_3
        refine lv_iconst (v := 1) hx hb dX14_isBlank_24 (by decide) ?_
        refine lv_goto (tgt := 29) hx hb dX14_isBlank_25 (by decide) ?_
        rw [hQ]
        exact W.zret (v := 1) hx hb hr (jb_nz (Or.inr rfl)) (fun t ht hW => ⟨1, rfl, by first | exact Or.inl rfl | exact Or.inr rfl | assumption, ht⟩) (fun _ h => nomatch h) dX14_isBlank_29
      · skip
        have c_3' : a0.toInt ≠ 10 := jb_eq_n (rfl) ((by decide)) c_3
        refine lv_iload_n hx hb dX14_isBlank_18 rfl (lv_at hl 0 rfl) ?_
        refine lv_bipush (v := 13) hx hb dX14_isBlank_19 (by decide) ?_
        refine lv_icmp_ne (tgt := 28) hx hb dX14_isBlank_21 (by decide) (fun c_4 => ?_) (fun c_4 => ?_)
        · skip
          have c_4' : a0.toInt ≠ 13 := jb_ne (rfl) ((by decide)) c_4
          refine lv_iconst (v := 0) hx hb dX14_isBlank_28 (by decide) ?_
          rw [hQ]
          exact W.zret (v := 0) hx hb hr (jb_nz (Or.inl rfl)) (fun t ht hW => ⟨0, rfl, by first | exact Or.inl rfl | exact Or.inr rfl | assumption, ht⟩) (fun _ h => nomatch h) dX14_isBlank_29
        · skip
          have c_4' : a0.toInt = 13 := jb_ne_n (rfl) ((by decide)) c_4
          refine lv_iconst (v := 1) hx hb dX14_isBlank_24 (by decide) ?_
          refine lv_goto (tgt := 29) hx hb dX14_isBlank_25 (by decide) ?_
          rw [hQ]
          exact W.zret (v := 1) hx hb hr (jb_nz (Or.inr rfl)) (fun t ht hW => ⟨1, rfl, by first | exact Or.inl rfl | exact Or.inr rfl | assumption, ht⟩) (fun _ h => nomatch h) dX14_isBlank_29
set_option maxHeartbeats 4000000 in
set_option maxRecDepth 20000 in
theorem wX14_hex (l : Launch) (dC : Nat → ClassId) (dI : Nat → Nat → Nat) (ca : Nat → ClassId) (base : Nat) (H0 : Heap) (a0 : Int32) : Met l yX14_hex (jw yX14_hex cX14_hex 1 (some .int)) ({ frames := 0, cells := 0, slots := 0, locals := 0 }) (va_Pc [.int a0] (fun U => U.heap = H0 ∧ jG dC dI ca base U ∧ (True))) (vp_Si (fun r => True)) 0 0 (fun _ => False) := by
  refine Met.ofW (cc := cX14_hex) (maxL := 1) (ret := (some .int)) (by decide) rfl ?_
  intro p e s m args below meth c s₁ B hml hv
  obtain ⟨rfl, hH0, hG, hpre⟩ := hv
  have hK := hG.1
  have hx := B.exec
  have hb := B.bytes
  have hr := B.returns
  have hts := atoms_spec (ws := (jw yX14_hex cX14_hex 1 (some .int))) B.pre
  have htw : ∀ w ∈ jWl, w.before _ s = true := fun w h => hts w (List.mem_cons_of_mem _ h)
  have hown : s.vm.findClass RX14 = some m.cls := findClass_of_methodNamed B.named
  have hlocks := B.notSynchronized
  obtain ⟨Q, hQ⟩ : ∃ Q, Q = MQ below (vp_Si (fun r => True)) ([.int a0] : List Value).toArray s 0 0 (fun _ => False) := ⟨_, rfl⟩
  rw [← hQ]
  have hl := lv_entry ([.int a0]) (n := 1) (Nat.le_of_ble_eq_true rfl)
  rw [lg_entry_eq]
  generalize (lg_sl ([.int a0]) ++ List.replicate (1 - (lg_sl ([.int a0])).length) Slot.unset).toArray = ls at hl ⊢
  have hl : lv_has ls 1 [(0, .int a0)] := hl
  generalize hR : (headSpec (jw yX14_hex cX14_hex 1 (some .int)) ({ frames := 0, cells := 0, slots := 0, locals := 0 })).room = R
  subst hH0
  have hS : va_S (jA base) s.heap s.heap [] := va_S.rf
  have hk0 : (0 : Int32).toInt = 0 := by decide
  have hk1 : (1 : Int32).toInt = 1 := by decide
  have hk10 : (10 : Int32).toInt = 10 := by decide
  have hk48 : (48 : Int32).toInt = 48 := by decide
  have hk97 : (97 : Int32).toInt = 97 := by decide
  refine lv_iload_n hx hb dX14_hex_0 rfl (lv_at hl 0 rfl) ?_
  refine lv_bipush (v := 10) hx hb dX14_hex_1 (by decide) ?_
  refine lv_icmp_ge (tgt := 13) hx hb dX14_hex_3 (by decide) (fun c_1 => ?_) (fun c_1 => ?_)
  · skip
    have c_1' : a0.toInt ≥ 10 := jb_ge (rfl) ((by decide)) c_1
    refine lv_bipush (v := 97) hx hb dX14_hex_13 (by decide) ?_
    refine lv_iload_n hx hb dX14_hex_15 rfl (lv_at hl 0 rfl) ?_
    refine lv_iadd hx hb dX14_hex_16 ?_
    refine lv_topi (fun z_2 ez_2 => ?_)
    refine lv_bipush (v := 10) hx hb dX14_hex_17 (by decide) ?_
    refine lv_isub hx hb dX14_hex_19 ?_
    refine lv_topi (fun z_3 ez_3 => ?_)
    rw [hQ]
    exact W.iret (v := z_3) hx hb hr (fun t ht hW => ⟨z_3, rfl, by first | trivial | omega | (constructor <;> omega), ht⟩) (fun _ h => nomatch h) dX14_hex_20
  · skip
    have c_1' : a0.toInt < 10 := jb_ge_n (rfl) ((by decide)) c_1
    refine lv_bipush (v := 48) hx hb dX14_hex_6 (by decide) ?_
    refine lv_iload_n hx hb dX14_hex_8 rfl (lv_at hl 0 rfl) ?_
    refine lv_iadd hx hb dX14_hex_9 ?_
    refine lv_topi (fun z_4 ez_4 => ?_)
    refine lv_goto (tgt := 20) hx hb dX14_hex_10 (by decide) ?_
    rw [hQ]
    exact W.iret (v := z_4) hx hb hr (fun t ht hW => ⟨z_4, rfl, by first | trivial | omega | (constructor <;> omega), ht⟩) (fun _ h => nomatch h) dX14_hex_20
end
