section
-- what the walks take of the launch: the classes, the nest mates' links, the text constants, the statics (all outside of what a walk writes: addresses from base on)
theorem jb_fz {v : Int32} (h : v = 0 ∨ v = 1) : fits .boolean (.int v) = true := by
  rcases h with rfl | rfl <;> rfl
end
section
theorem dX6_signOf_0 : decode cX6_signOf 0 = .ok (.iload_n 0, 1) := by decide +kernel
theorem dX6_signOf_1 : decode cX6_signOf 1 = .ok (.bipush 97, 2) := by decide +kernel
theorem dX6_signOf_3 : decode cX6_signOf 3 = .ok (.if_icmp .lt 14, 3) := by decide +kernel
theorem dX6_signOf_6 : decode cX6_signOf 6 = .ok (.iload_n 0, 1) := by decide +kernel
theorem dX6_signOf_7 : decode cX6_signOf 7 = .ok (.bipush 122, 2) := by decide +kernel
theorem dX6_signOf_9 : decode cX6_signOf 9 = .ok (.if_icmp .gt 8, 3) := by decide +kernel
theorem dX6_signOf_12 : decode cX6_signOf 12 = .ok (.iload_n 0, 1) := by decide +kernel
theorem dX6_signOf_13 : decode cX6_signOf 13 = .ok (.bipush 97, 2) := by decide +kernel
theorem dX6_signOf_15 : decode cX6_signOf 15 = .ok (.isub, 1) := by decide +kernel
theorem dX6_signOf_16 : decode cX6_signOf 16 = .ok (.ireturn, 1) := by decide +kernel
theorem dX6_signOf_17 : decode cX6_signOf 17 = .ok (.iload_n 0, 1) := by decide +kernel
theorem dX6_signOf_18 : decode cX6_signOf 18 = .ok (.bipush 65, 2) := by decide +kernel
theorem dX6_signOf_20 : decode cX6_signOf 20 = .ok (.if_icmp .lt 17, 3) := by decide +kernel
theorem dX6_signOf_23 : decode cX6_signOf 23 = .ok (.iload_n 0, 1) := by decide +kernel
theorem dX6_signOf_24 : decode cX6_signOf 24 = .ok (.bipush 90, 2) := by decide +kernel
theorem dX6_signOf_26 : decode cX6_signOf 26 = .ok (.if_icmp .gt 11, 3) := by decide +kernel
theorem dX6_signOf_29 : decode cX6_signOf 29 = .ok (.iload_n 0, 1) := by decide +kernel
theorem dX6_signOf_30 : decode cX6_signOf 30 = .ok (.bipush 65, 2) := by decide +kernel
theorem dX6_signOf_32 : decode cX6_signOf 32 = .ok (.isub, 1) := by decide +kernel
theorem dX6_signOf_33 : decode cX6_signOf 33 = .ok (.bipush 26, 2) := by decide +kernel
theorem dX6_signOf_35 : decode cX6_signOf 35 = .ok (.iadd, 1) := by decide +kernel
theorem dX6_signOf_36 : decode cX6_signOf 36 = .ok (.ireturn, 1) := by decide +kernel
theorem dX6_signOf_37 : decode cX6_signOf 37 = .ok (.iload_n 0, 1) := by decide +kernel
theorem dX6_signOf_38 : decode cX6_signOf 38 = .ok (.bipush 48, 2) := by decide +kernel
theorem dX6_signOf_40 : decode cX6_signOf 40 = .ok (.if_icmp .lt 17, 3) := by decide +kernel
theorem dX6_signOf_43 : decode cX6_signOf 43 = .ok (.iload_n 0, 1) := by decide +kernel
theorem dX6_signOf_44 : decode cX6_signOf 44 = .ok (.bipush 57, 2) := by decide +kernel
theorem dX6_signOf_46 : decode cX6_signOf 46 = .ok (.if_icmp .gt 11, 3) := by decide +kernel
theorem dX6_signOf_49 : decode cX6_signOf 49 = .ok (.iload_n 0, 1) := by decide +kernel
theorem dX6_signOf_50 : decode cX6_signOf 50 = .ok (.bipush 48, 2) := by decide +kernel
theorem dX6_signOf_52 : decode cX6_signOf 52 = .ok (.isub, 1) := by decide +kernel
theorem dX6_signOf_53 : decode cX6_signOf 53 = .ok (.bipush 52, 2) := by decide +kernel
theorem dX6_signOf_55 : decode cX6_signOf 55 = .ok (.iadd, 1) := by decide +kernel
theorem dX6_signOf_56 : decode cX6_signOf 56 = .ok (.ireturn, 1) := by decide +kernel
theorem dX6_signOf_57 : decode cX6_signOf 57 = .ok (.iload_n 0, 1) := by decide +kernel
theorem dX6_signOf_58 : decode cX6_signOf 58 = .ok (.bipush 95, 2) := by decide +kernel
theorem dX6_signOf_60 : decode cX6_signOf 60 = .ok (.if_icmp .ne 8, 3) := by decide +kernel
theorem dX6_signOf_63 : decode cX6_signOf 63 = .ok (.bipush 62, 2) := by decide +kernel
theorem dX6_signOf_65 : decode cX6_signOf 65 = .ok (.goto 15, 3) := by decide +kernel
theorem dX6_signOf_68 : decode cX6_signOf 68 = .ok (.iload_n 0, 1) := by decide +kernel
theorem dX6_signOf_69 : decode cX6_signOf 69 = .ok (.bipush 39, 2) := by decide +kernel
theorem dX6_signOf_71 : decode cX6_signOf 71 = .ok (.if_icmp .ne 8, 3) := by decide +kernel
theorem dX6_signOf_74 : decode cX6_signOf 74 = .ok (.bipush 63, 2) := by decide +kernel
theorem dX6_signOf_76 : decode cX6_signOf 76 = .ok (.goto 4, 3) := by decide +kernel
theorem dX6_signOf_79 : decode cX6_signOf 79 = .ok (.iconst (-1), 1) := by decide +kernel
theorem dX6_signOf_80 : decode cX6_signOf 80 = .ok (.ireturn, 1) := by decide +kernel
theorem dX11_isLetter_0 : decode cX11_isLetter 0 = .ok (.iload_n 0, 1) := by decide +kernel
theorem dX11_isLetter_1 : decode cX11_isLetter 1 = .ok (.bipush 97, 2) := by decide +kernel
theorem dX11_isLetter_3 : decode cX11_isLetter 3 = .ok (.if_icmp .lt 9, 3) := by decide +kernel
theorem dX11_isLetter_6 : decode cX11_isLetter 6 = .ok (.iload_n 0, 1) := by decide +kernel
theorem dX11_isLetter_7 : decode cX11_isLetter 7 = .ok (.bipush 122, 2) := by decide +kernel
theorem dX11_isLetter_9 : decode cX11_isLetter 9 = .ok (.if_icmp .le 15, 3) := by decide +kernel
theorem dX11_isLetter_12 : decode cX11_isLetter 12 = .ok (.iload_n 0, 1) := by decide +kernel
theorem dX11_isLetter_13 : decode cX11_isLetter 13 = .ok (.bipush 65, 2) := by decide +kernel
theorem dX11_isLetter_15 : decode cX11_isLetter 15 = .ok (.if_icmp .lt 13, 3) := by decide +kernel
theorem dX11_isLetter_18 : decode cX11_isLetter 18 = .ok (.iload_n 0, 1) := by decide +kernel
theorem dX11_isLetter_19 : decode cX11_isLetter 19 = .ok (.bipush 90, 2) := by decide +kernel
theorem dX11_isLetter_21 : decode cX11_isLetter 21 = .ok (.if_icmp .gt 7, 3) := by decide +kernel
theorem dX11_isLetter_24 : decode cX11_isLetter 24 = .ok (.iconst 1, 1) := by decide +kernel
theorem dX11_isLetter_25 : decode cX11_isLetter 25 = .ok (.goto 4, 3) := by decide +kernel
theorem dX11_isLetter_28 : decode cX11_isLetter 28 = .ok (.iconst 0, 1) := by decide +kernel
theorem dX11_isLetter_29 : decode cX11_isLetter 29 = .ok (.ireturn, 1) := by decide +kernel
end
section
-- contracts over the typed heap: which roots may change
section JL
variable {p : Program} {l : Launch} {e : Env} {R : Room} {s : State} {m : MethodId} {args : Array Value} {below : List Frame} {meth : Method} {c : Code} {H : Heap} {locs : List Loc} {cells slots : Nat} {Q : State → Prop}
variable {cc : ByteArray} {pc : Nat} {ls : Array Slot} {rest : List Value} {D : va_G} {cl : List vw_C} {A : Nat → Prop} {a : Nat} {tys : List (ClassId × FieldType)}
theorem j_last (hexec : p.tables.exec = Jvm.exec) (hb : c.code = cc) (hK : va_K D cl tys s) (t0 : Nat) {cA : ClassId} {n : Nat} {f : Nat → Int64} (hat : va_at D cl (a, .inl (cA, n, .inr (.inl f))) H) (hA : A a) (hL : ∀ q ∈ locs, A q.base) (ht : tys[t0]? = some (cA, .long)) {i : Int32} {x : Int64} (hin : vp_in i n) (hdg : decode cc pc = .ok (.lastore, 1))
    (kk : ∀ (H1 : Heap) (locs1 : List Loc), va_at D cl (a, .inl (cA, n, .inr (.inl (vp_updL f i.toNatClampNeg x)))) H1 → H1.size = H.size → (∀ q, q ≠ a → H1[q]? = H[q]?) → jTot H1 = jTot H → (∀ q ∈ locs1, A q.base) → W p l e R s m args below meth c H1 locs1 cells slots Q (F0 m (pc + 1) ls rest)) : W p l e R s m args below meth c H locs cells slots Q (F0 m pc ls (.long x :: .int i :: .ref a :: rest)) := by
  refine W.last hexec hb hat ((hK.2 t0 _ ht).1 n (fun j => .long (f j))) (fun q => by cases q) (by show ¬ (i < 0 ∨ (arrV _ _ _).slots.size ≤ _); rw [arrV_size]; exact hin) rfl rfl hdg fun H1 e z oq => ?_
  refine kk H1 _ ?_ z oq (jTot_set z hat e (jSet_sz _ _ _) oq) ?_
  · show H1[a]? = some (vp_cell _ _)
    rw [e]
    rw [vp_cell_l, vp_cell_l, arrV_store]
    congr 2
    funext q
    by_cases hq : q = i.toNatClampNeg
    · subst hq
      simp [updV, vp_updL]
    · simp [updV, vp_updL, hq]
  · intro q hq
    rcases List.mem_append.mp hq with h | h
    · exact hL q h
    · cases List.mem_singleton.mp h; exact hA
end JL
end
section
theorem jWr_7 : ∀ w ∈ wsL_law_r7, w ∈ jWl := fun w h => jT7 w (List.mem_append_left _ h)
theorem jWr_28 : ∀ w ∈ wsL_law_r28, w ∈ jWl := fun w h => jT28 w (List.mem_append_left _ h)
theorem jWr_34 : ∀ w ∈ wsL_law_r34, w ∈ jWl := fun w h => jT34 w (List.mem_append_left _ h)
theorem jWc_wsJx4a65c0 : ∀ w ∈ wsJx4a65c0, w ∈ jWl := fun w h => (List.mem_append_left _ (List.mem_append_left _ (List.mem_append_left _ (List.mem_append_left _ (List.mem_append_left _ (List.mem_append_left _ (List.mem_append_left _ (List.mem_append_left _ (List.mem_append_left _ (List.mem_append_left _ (List.mem_append_right _ h)))))))))))
end
section
-- arrays of references
def jQs (k n : Nat) (G : jT) : Option Nat → Prop := fun o => ∃ x, o = some x ∧ G x = some (k, n)
section J10
variable {p : Program} {l : Launch} {e : Env} {R : Room} {s : State} {m : MethodId} {args : Array Value} {below : List Frame} {meth : Method} {c : Code} {H : Heap} {locs : List Loc} {cells slots : Nat} {Q : State → Prop}
variable {cc : ByteArray} {pc : Nat} {ls : Array Slot} {rest : List Value} {dC : Nat → ClassId} {dI : Nat → Nat → Nat} {ca : Nat → ClassId} {B : jF} {base : Nat} {G0 G : jT} {E : List (Nat × Nat)} {H0 : Heap} {zc zs : Nat} {L : List jPin} {M : List jCt} {I : List jIv} {a k n : Nat} {P : jT → Option Nat → Prop} {cA : ClassId} {tys : List (ClassId × FieldType)} {C : String}
theorem jAq_up {f : Nat → Option Nat} {n j : Nat} {o : Option Nat} (h : ∀ j, j < n → P G (f j)) (ho : P G o) : ∀ i, i < n → P G (va_up f j o i) := by
  intro i hi
  by_cases e : i = j
  · subst e; simp only [va_up, if_pos]; exact ho
  · rw [va_up_ne _ _ e]; exact h i hi
end J10
end
section
set_option maxHeartbeats 4000000 in
set_option maxRecDepth 20000 in
theorem wX11_isLetter (l : Launch) (dC : Nat → ClassId) (dI : Nat → Nat → Nat) (ca : Nat → ClassId) (base : Nat) (H0 : Heap) (a0 : Int32) : Met l yX11_isLetter (jw yX11_isLetter cX11_isLetter 1 (some .boolean)) ({ frames := 0, cells := 0, slots := 0, locals := 0 }) (va_Pc [.int a0] (fun U => U.heap = H0 ∧ jG dC dI ca base U ∧ (True))) (vp_Si (fun r => r = 0 ∨ r = 1)) 0 0 (fun _ => False) := by
  refine Met.ofW (cc := cX11_isLetter) (maxL := 1) (ret := (some .boolean)) (by decide) rfl ?_
  intro p e s m args below meth c s₁ B hml hv
  obtain ⟨rfl, hH0, hG, hpre⟩ := hv
  have hK := hG.1
  have hx := B.exec
  have hb := B.bytes
  have hr := B.returns
  have hts := atoms_spec (ws := (jw yX11_isLetter cX11_isLetter 1 (some .boolean))) B.pre
  have htw : ∀ w ∈ jWl, w.before _ s = true := fun w h => hts w (List.mem_cons_of_mem _ h)
  have hown : s.vm.findClass RX11 = some m.cls := findClass_of_methodNamed B.named
  have hlocks := B.notSynchronized
  obtain ⟨Q, hQ⟩ : ∃ Q, Q = MQ below (vp_Si (fun r => r = 0 ∨ r = 1)) ([.int a0] : List Value).toArray s 0 0 (fun _ => False) := ⟨_, rfl⟩
  rw [← hQ]
  have hl := lv_entry ([.int a0]) (n := 1) (Nat.le_of_ble_eq_true rfl)
  rw [lg_entry_eq]
  generalize (lg_sl ([.int a0]) ++ List.replicate (1 - (lg_sl ([.int a0])).length) Slot.unset).toArray = ls at hl ⊢
  have hl : lv_has ls 1 [(0, .int a0)] := hl
  generalize hR : (headSpec (jw yX11_isLetter cX11_isLetter 1 (some .boolean)) ({ frames := 0, cells := 0, slots := 0, locals := 0 })).room = R
  subst hH0
  have hS : va_S (jA base) s.heap s.heap [] := va_S.rf
  have hk0 : (0 : Int32).toInt = 0 := by decide
  have hk1 : (1 : Int32).toInt = 1 := by decide
  have hk65 : (65 : Int32).toInt = 65 := by decide
  have hk90 : (90 : Int32).toInt = 90 := by decide
  have hk97 : (97 : Int32).toInt = 97 := by decide
  have hk122 : (122 : Int32).toInt = 122 := by decide
  refine lv_iload_n hx hb dX11_isLetter_0 rfl (lv_at hl 0 rfl) ?_
  refine lv_bipush (v := 97) hx hb dX11_isLetter_1 (by decide) ?_
  refine lv_icmp_lt (tgt := 12) hx hb dX11_isLetter_3 (by decide) (fun c_1 => ?_) (fun c_1 => ?_)
  · skip
    have c_1' : a0.toInt < 97 := jb_lt (rfl) ((by decide)) c_1
    refine lv_iload_n hx hb dX11_isLetter_12 rfl (lv_at hl 0 rfl) ?_
    refine lv_bipush (v := 65) hx hb dX11_isLetter_13 (by decide) ?_
    refine lv_icmp_lt (tgt := 28) hx hb dX11_isLetter_15 (by decide) (fun c_2 => ?_) (fun c_2 => ?_)
    · skip
      have c_2' : a0.toInt < 65 := jb_lt (rfl) ((by decide)) c_2
      refine lv_iconst (v := 0) hx hb dX11_isLetter_28 (by decide) ?_
      rw [hQ]
      exact W.zret (v := 0) hx hb hr (jb_nz (Or.inl rfl)) (fun t ht hW => ⟨0, rfl, by first | exact Or.inl rfl | exact Or.inr rfl | assumption, ht⟩) (fun _ h => nomatch h) dX11_isLetter_29
    · skip
      have c_2' : a0.toInt ≥ 65 := jb_lt_n (rfl) ((by decide)) c_2
      refine lv_iload_n hx hb dX11_isLetter_18 rfl (lv_at hl 0 rfl) ?_
      refine lv_bipush (v := 90) hx hb dX11_isLetter_19 (by decide) ?_
      refine lv_icmp_gt (tgt := 28) hx hb dX11_isLetter_21 (by decide) (fun c_3 => ?_) (fun c_3 => ?_)
      · skip
        have c_3' : a0.toInt > 90 := jb_gt (rfl) ((by decide)) c_3
        refine lv_iconst (v := 0) hx hb dX11_isLetter_28 (by decide) ?_
        rw [hQ]
        exact W.zret (v := 0) hx hb hr (jb_nz (Or.inl rfl)) (fun t ht hW => ⟨0, rfl, by first | exact Or.inl rfl | exact Or.inr rfl | assumption, ht⟩) (fun _ h => nomatch h) dX11_isLetter_29
      · skip
        have c_3' : a0.toInt ≤ 90 := jb_gt_n (rfl) ((by decide)) c_3
        refine lv_iconst (v := 1) hx hb dX11_isLetter_24 (by decide) ?_
        refine lv_goto (tgt := 29) hx hb dX11_isLetter_25 (by decide) ?_
        rw [hQ]
        exact W.zret (v := 1) hx hb hr (jb_nz (Or.inr rfl)) (fun t ht hW => ⟨1, rfl, by first | exact Or.inl rfl | exact Or.inr rfl | assumption, ht⟩) (fun _ h => nomatch h) dX11_isLetter_29
  · skip
    have c_1' : a0.toInt ≥ 97 := jb_lt_n (rfl) ((by decide)) c_1
    refine lv_iload_n hx hb dX11_isLetter_6 rfl (lv_at hl 0 rfl) ?_
    refine lv_bipush (v := 122) hx hb dX11_isLetter_7 (by decide) ?_
    refine lv_icmp_le (tgt := 24) hx hb dX11_isLetter_9 (by decide) (fun c_4 => ?_) (fun c_4 => ?_)
    · skip
      have c_4' : a0.toInt ≤ 122 := jb_le (rfl) ((by decide)) c_4
      refine lv_iconst (v := 1) hx hb dX11_isLetter_24 (by decide) ?_
      refine lv_goto (tgt := 29) hx hb dX11_isLetter_25 (by decide) ?_
      rw [hQ]
      exact W.zret (v := 1) hx hb hr (jb_nz (Or.inr rfl)) (fun t ht hW => ⟨1, rfl, by first | exact Or.inl rfl | exact Or.inr rfl | assumption, ht⟩) (fun _ h => nomatch h) dX11_isLetter_29
    · skip
      have c_4' : a0.toInt > 122 := jb_le_n (rfl) ((by decide)) c_4
      refine lv_iload_n hx hb dX11_isLetter_12 rfl (lv_at hl 0 rfl) ?_
      refine lv_bipush (v := 65) hx hb dX11_isLetter_13 (by decide) ?_
      refine lv_icmp_lt (tgt := 28) hx hb dX11_isLetter_15 (by decide) (fun c_5 => ?_) (fun c_5 => ?_)
      · skip
        have c_5' : a0.toInt < 65 := jb_lt (rfl) ((by decide)) c_5
        refine lv_iconst (v := 0) hx hb dX11_isLetter_28 (by decide) ?_
        rw [hQ]
        exact W.zret (v := 0) hx hb hr (jb_nz (Or.inl rfl)) (fun t ht hW => ⟨0, rfl, by first | exact Or.inl rfl | exact Or.inr rfl | assumption, ht⟩) (fun _ h => nomatch h) dX11_isLetter_29
      · skip
        have c_5' : a0.toInt ≥ 65 := jb_lt_n (rfl) ((by decide)) c_5
        refine lv_iload_n hx hb dX11_isLetter_18 rfl (lv_at hl 0 rfl) ?_
        refine lv_bipush (v := 90) hx hb dX11_isLetter_19 (by decide) ?_
        refine lv_icmp_gt (tgt := 28) hx hb dX11_isLetter_21 (by decide) (fun c_6 => ?_) (fun c_6 => ?_)
        · skip
          have c_6' : a0.toInt > 90 := jb_gt (rfl) ((by decide)) c_6
          refine lv_iconst (v := 0) hx hb dX11_isLetter_28 (by decide) ?_
          rw [hQ]
          exact W.zret (v := 0) hx hb hr (jb_nz (Or.inl rfl)) (fun t ht hW => ⟨0, rfl, by first | exact Or.inl rfl | exact Or.inr rfl | assumption, ht⟩) (fun _ h => nomatch h) dX11_isLetter_29
        · skip
          have c_6' : a0.toInt ≤ 90 := jb_gt_n (rfl) ((by decide)) c_6
          refine lv_iconst (v := 1) hx hb dX11_isLetter_24 (by decide) ?_
          refine lv_goto (tgt := 29) hx hb dX11_isLetter_25 (by decide) ?_
          rw [hQ]
          exact W.zret (v := 1) hx hb hr (jb_nz (Or.inr rfl)) (fun t ht hW => ⟨1, rfl, by first | exact Or.inl rfl | exact Or.inr rfl | assumption, ht⟩) (fun _ h => nomatch h) dX11_isLetter_29
set_option maxHeartbeats 4000000 in
set_option maxRecDepth 20000 in
theorem wX6_signOf (l : Launch) (dC : Nat → ClassId) (dI : Nat → Nat → Nat) (ca : Nat → ClassId) (base : Nat) (H0 : Heap) (a0 : Int32) : Met l yX6_signOf (jw yX6_signOf cX6_signOf 1 (some .int)) ({ frames := 0, cells := 0, slots := 0, locals := 0 }) (va_Pc [.int a0] (fun U => U.heap = H0 ∧ jG dC dI ca base U ∧ (True))) (vp_Si (fun r => -1 ≤ r.toInt ∧ r.toInt ≤ 63)) 0 0 (fun _ => False) := by
  refine Met.ofW (cc := cX6_signOf) (maxL := 1) (ret := (some .int)) (by decide) rfl ?_
  intro p e s m args below meth c s₁ B hml hv
  obtain ⟨rfl, hH0, hG, hpre⟩ := hv
  have hK := hG.1
  have hx := B.exec
  have hb := B.bytes
  have hr := B.returns
  have hts := atoms_spec (ws := (jw yX6_signOf cX6_signOf 1 (some .int))) B.pre
  have htw : ∀ w ∈ jWl, w.before _ s = true := fun w h => hts w (List.mem_cons_of_mem _ h)
  have hown : s.vm.findClass RX6 = some m.cls := findClass_of_methodNamed B.named
  have hlocks := B.notSynchronized
  obtain ⟨Q, hQ⟩ : ∃ Q, Q = MQ below (vp_Si (fun r => -1 ≤ r.toInt ∧ r.toInt ≤ 63)) ([.int a0] : List Value).toArray s 0 0 (fun _ => False) := ⟨_, rfl⟩
  rw [← hQ]
  have hl := lv_entry ([.int a0]) (n := 1) (Nat.le_of_ble_eq_true rfl)
  rw [lg_entry_eq]
  generalize (lg_sl ([.int a0]) ++ List.replicate (1 - (lg_sl ([.int a0])).length) Slot.unset).toArray = ls at hl ⊢
  have hl : lv_has ls 1 [(0, .int a0)] := hl
  generalize hR : (headSpec (jw yX6_signOf cX6_signOf 1 (some .int)) ({ frames := 0, cells := 0, slots := 0, locals := 0 })).room = R
  subst hH0
  have hS : va_S (jA base) s.heap s.heap [] := va_S.rf
  have hkm1 : ((-1) : Int32).toInt = (-1) := by decide
  have hk0 : (0 : Int32).toInt = 0 := by decide
  have hk1 : (1 : Int32).toInt = 1 := by decide
  have hk26 : (26 : Int32).toInt = 26 := by decide
  have hk39 : (39 : Int32).toInt = 39 := by decide
  have hk48 : (48 : Int32).toInt = 48 := by decide
  have hk52 : (52 : Int32).toInt = 52 := by decide
  have hk57 : (57 : Int32).toInt = 57 := by decide
  have hk62 : (62 : Int32).toInt = 62 := by decide
  have hk63 : (63 : Int32).toInt = 63 := by decide
  have hk65 : (65 : Int32).toInt = 65 := by decide
  have hk90 : (90 : Int32).toInt = 90 := by decide
  have hk95 : (95 : Int32).toInt = 95 := by decide
  have hk97 : (97 : Int32).toInt = 97 := by decide
  have hk122 : (122 : Int32).toInt = 122 := by decide
  refine lv_iload_n hx hb dX6_signOf_0 rfl (lv_at hl 0 rfl) ?_
  refine lv_bipush (v := 97) hx hb dX6_signOf_1 (by decide) ?_
  refine lv_icmp_lt (tgt := 17) hx hb dX6_signOf_3 (by decide) (fun c_1 => ?_) (fun c_1 => ?_)
  · skip
    have c_1' : a0.toInt < 97 := jb_lt (rfl) ((by decide)) c_1
    refine lv_iload_n hx hb dX6_signOf_17 rfl (lv_at hl 0 rfl) ?_
    refine lv_bipush (v := 65) hx hb dX6_signOf_18 (by decide) ?_
    refine lv_icmp_lt (tgt := 37) hx hb dX6_signOf_20 (by decide) (fun c_2 => ?_) (fun c_2 => ?_)
    · skip
      have c_2' : a0.toInt < 65 := jb_lt (rfl) ((by decide)) c_2
      refine lv_iload_n hx hb dX6_signOf_37 rfl (lv_at hl 0 rfl) ?_
      refine lv_bipush (v := 48) hx hb dX6_signOf_38 (by decide) ?_
      refine lv_icmp_lt (tgt := 57) hx hb dX6_signOf_40 (by decide) (fun c_3 => ?_) (fun c_3 => ?_)
      · skip
        have c_3' : a0.toInt < 48 := jb_lt (rfl) ((by decide)) c_3
        refine lv_iload_n hx hb dX6_signOf_57 rfl (lv_at hl 0 rfl) ?_
        refine lv_bipush (v := 95) hx hb dX6_signOf_58 (by decide) ?_
        refine lv_icmp_ne (tgt := 68) hx hb dX6_signOf_60 (by decide) (fun c_4 => ?_) (fun c_4 => ?_)
        · skip
          have c_4' : a0.toInt ≠ 95 := jb_ne (rfl) ((by decide)) c_4
          refine lv_iload_n hx hb dX6_signOf_68 rfl (lv_at hl 0 rfl) ?_
          refine lv_bipush (v := 39) hx hb dX6_signOf_69 (by decide) ?_
          refine lv_icmp_ne (tgt := 79) hx hb dX6_signOf_71 (by decide) (fun c_5 => ?_) (fun c_5 => ?_)
          · skip
            have c_5' : a0.toInt ≠ 39 := jb_ne (rfl) ((by decide)) c_5
            refine lv_iconst (v := (-1)) hx hb dX6_signOf_79 (by decide) ?_
            rw [hQ]
            exact W.iret (v := (-1)) hx hb hr (fun t ht hW => ⟨(-1), rfl, by first | trivial | omega | (constructor <;> omega), ht⟩) (fun _ h => nomatch h) dX6_signOf_80
          · skip
            have c_5' : a0.toInt = 39 := jb_ne_n (rfl) ((by decide)) c_5
            refine lv_bipush (v := 63) hx hb dX6_signOf_74 (by decide) ?_
            refine lv_goto (tgt := 80) hx hb dX6_signOf_76 (by decide) ?_
            rw [hQ]
            exact W.iret (v := 63) hx hb hr (fun t ht hW => ⟨63, rfl, by first | trivial | omega | (constructor <;> omega), ht⟩) (fun _ h => nomatch h) dX6_signOf_80
        · skip
          have c_4' : a0.toInt = 95 := jb_ne_n (rfl) ((by decide)) c_4
          refine lv_bipush (v := 62) hx hb dX6_signOf_63 (by decide) ?_
          refine lv_goto (tgt := 80) hx hb dX6_signOf_65 (by decide) ?_
          rw [hQ]
          exact W.iret (v := 62) hx hb hr (fun t ht hW => ⟨62, rfl, by first | trivial | omega | (constructor <;> omega), ht⟩) (fun _ h => nomatch h) dX6_signOf_80
      · skip
        have c_3' : a0.toInt ≥ 48 := jb_lt_n (rfl) ((by decide)) c_3
        refine lv_iload_n hx hb dX6_signOf_43 rfl (lv_at hl 0 rfl) ?_
        refine lv_bipush (v := 57) hx hb dX6_signOf_44 (by decide) ?_
        refine lv_icmp_gt (tgt := 57) hx hb dX6_signOf_46 (by decide) (fun c_6 => ?_) (fun c_6 => ?_)
        · skip
          have c_6' : a0.toInt > 57 := jb_gt (rfl) ((by decide)) c_6
          refine lv_iload_n hx hb dX6_signOf_57 rfl (lv_at hl 0 rfl) ?_
          refine lv_bipush (v := 95) hx hb dX6_signOf_58 (by decide) ?_
          refine lv_icmp_ne (tgt := 68) hx hb dX6_signOf_60 (by decide) (fun c_7 => ?_) (fun c_7 => ?_)
          · skip
            have c_7' : a0.toInt ≠ 95 := jb_ne (rfl) ((by decide)) c_7
            refine lv_iload_n hx hb dX6_signOf_68 rfl (lv_at hl 0 rfl) ?_
            refine lv_bipush (v := 39) hx hb dX6_signOf_69 (by decide) ?_
            refine lv_icmp_ne (tgt := 79) hx hb dX6_signOf_71 (by decide) (fun c_8 => ?_) (fun c_8 => ?_)
            · skip
              have c_8' : a0.toInt ≠ 39 := jb_ne (rfl) ((by decide)) c_8
              refine lv_iconst (v := (-1)) hx hb dX6_signOf_79 (by decide) ?_
              rw [hQ]
              exact W.iret (v := (-1)) hx hb hr (fun t ht hW => ⟨(-1), rfl, by first | trivial | omega | (constructor <;> omega), ht⟩) (fun _ h => nomatch h) dX6_signOf_80
            · skip
              have c_8' : a0.toInt = 39 := jb_ne_n (rfl) ((by decide)) c_8
              refine lv_bipush (v := 63) hx hb dX6_signOf_74 (by decide) ?_
              refine lv_goto (tgt := 80) hx hb dX6_signOf_76 (by decide) ?_
              rw [hQ]
              exact W.iret (v := 63) hx hb hr (fun t ht hW => ⟨63, rfl, by first | trivial | omega | (constructor <;> omega), ht⟩) (fun _ h => nomatch h) dX6_signOf_80
          · skip
            have c_7' : a0.toInt = 95 := jb_ne_n (rfl) ((by decide)) c_7
            refine lv_bipush (v := 62) hx hb dX6_signOf_63 (by decide) ?_
            refine lv_goto (tgt := 80) hx hb dX6_signOf_65 (by decide) ?_
            rw [hQ]
            exact W.iret (v := 62) hx hb hr (fun t ht hW => ⟨62, rfl, by first | trivial | omega | (constructor <;> omega), ht⟩) (fun _ h => nomatch h) dX6_signOf_80
        · skip
          have c_6' : a0.toInt ≤ 57 := jb_gt_n (rfl) ((by decide)) c_6
          refine lv_iload_n hx hb dX6_signOf_49 rfl (lv_at hl 0 rfl) ?_
          refine lv_bipush (v := 48) hx hb dX6_signOf_50 (by decide) ?_
          refine lv_isub hx hb dX6_signOf_52 ?_
          refine lv_topi (fun z_9 ez_9 => ?_)
          have hz_9 : z_9.toInt = a0.toInt - 48 := by rw [ez_9]; exact jb_isub (rfl) ((by decide)) (by omega) (by omega)
          refine lv_bipush (v := 52) hx hb dX6_signOf_53 (by decide) ?_
          refine lv_iadd hx hb dX6_signOf_55 ?_
          refine lv_topi (fun z_10 ez_10 => ?_)
          have hz_10 : z_10.toInt = z_9.toInt + 52 := by rw [ez_10]; exact jb_iadd (rfl) ((by decide)) (by omega) (by omega)
          rw [hQ]
          exact W.iret (v := z_10) hx hb hr (fun t ht hW => ⟨z_10, rfl, by first | trivial | omega | (constructor <;> omega), ht⟩) (fun _ h => nomatch h) dX6_signOf_56
    · skip
      have c_2' : a0.toInt ≥ 65 := jb_lt_n (rfl) ((by decide)) c_2
      refine lv_iload_n hx hb dX6_signOf_23 rfl (lv_at hl 0 rfl) ?_
      refine lv_bipush (v := 90) hx hb dX6_signOf_24 (by decide) ?_
      refine lv_icmp_gt (tgt := 37) hx hb dX6_signOf_26 (by decide) (fun c_11 => ?_) (fun c_11 => ?_)
      · skip
        have c_11' : a0.toInt > 90 := jb_gt (rfl) ((by decide)) c_11
        refine lv_iload_n hx hb dX6_signOf_37 rfl (lv_at hl 0 rfl) ?_
        refine lv_bipush (v := 48) hx hb dX6_signOf_38 (by decide) ?_
        refine lv_icmp_lt (tgt := 57) hx hb dX6_signOf_40 (by decide) (fun c_12 => ?_) (fun c_12 => ?_)
        · skip
          have c_12' : a0.toInt < 48 := jb_lt (rfl) ((by decide)) c_12
          refine lv_iload_n hx hb dX6_signOf_57 rfl (lv_at hl 0 rfl) ?_
          refine lv_bipush (v := 95) hx hb dX6_signOf_58 (by decide) ?_
          refine lv_icmp_ne (tgt := 68) hx hb dX6_signOf_60 (by decide) (fun c_13 => ?_) (fun c_13 => ?_)
          · skip
            have c_13' : a0.toInt ≠ 95 := jb_ne (rfl) ((by decide)) c_13
            refine lv_iload_n hx hb dX6_signOf_68 rfl (lv_at hl 0 rfl) ?_
            refine lv_bipush (v := 39) hx hb dX6_signOf_69 (by decide) ?_
            refine lv_icmp_ne (tgt := 79) hx hb dX6_signOf_71 (by decide) (fun c_14 => ?_) (fun c_14 => ?_)
            · skip
              have c_14' : a0.toInt ≠ 39 := jb_ne (rfl) ((by decide)) c_14
              refine lv_iconst (v := (-1)) hx hb dX6_signOf_79 (by decide) ?_
              rw [hQ]
              exact W.iret (v := (-1)) hx hb hr (fun t ht hW => ⟨(-1), rfl, by first | trivial | omega | (constructor <;> omega), ht⟩) (fun _ h => nomatch h) dX6_signOf_80
            · skip
              have c_14' : a0.toInt = 39 := jb_ne_n (rfl) ((by decide)) c_14
              refine lv_bipush (v := 63) hx hb dX6_signOf_74 (by decide) ?_
              refine lv_goto (tgt := 80) hx hb dX6_signOf_76 (by decide) ?_
              rw [hQ]
              exact W.iret (v := 63) hx hb hr (fun t ht hW => ⟨63, rfl, by first | trivial | omega | (constructor <;> omega), ht⟩) (fun _ h => nomatch h) dX6_signOf_80
          · skip
            have c_13' : a0.toInt = 95 := jb_ne_n (rfl) ((by decide)) c_13
            refine lv_bipush (v := 62) hx hb dX6_signOf_63 (by decide) ?_
            refine lv_goto (tgt := 80) hx hb dX6_signOf_65 (by decide) ?_
            rw [hQ]
            exact W.iret (v := 62) hx hb hr (fun t ht hW => ⟨62, rfl, by first | trivial | omega | (constructor <;> omega), ht⟩) (fun _ h => nomatch h) dX6_signOf_80
        · skip
          have c_12' : a0.toInt ≥ 48 := jb_lt_n (rfl) ((by decide)) c_12
          refine lv_iload_n hx hb dX6_signOf_43 rfl (lv_at hl 0 rfl) ?_
          refine lv_bipush (v := 57) hx hb dX6_signOf_44 (by decide) ?_
          refine lv_icmp_gt (tgt := 57) hx hb dX6_signOf_46 (by decide) (fun c_15 => ?_) (fun c_15 => ?_)
          · skip
            have c_15' : a0.toInt > 57 := jb_gt (rfl) ((by decide)) c_15
            refine lv_iload_n hx hb dX6_signOf_57 rfl (lv_at hl 0 rfl) ?_
            refine lv_bipush (v := 95) hx hb dX6_signOf_58 (by decide) ?_
            refine lv_icmp_ne (tgt := 68) hx hb dX6_signOf_60 (by decide) (fun c_16 => ?_) (fun c_16 => ?_)
            · skip
              have c_16' : a0.toInt ≠ 95 := jb_ne (rfl) ((by decide)) c_16
              refine lv_iload_n hx hb dX6_signOf_68 rfl (lv_at hl 0 rfl) ?_
              refine lv_bipush (v := 39) hx hb dX6_signOf_69 (by decide) ?_
              refine lv_icmp_ne (tgt := 79) hx hb dX6_signOf_71 (by decide) (fun c_17 => ?_) (fun c_17 => ?_)
              · skip
                have c_17' : a0.toInt ≠ 39 := jb_ne (rfl) ((by decide)) c_17
                refine lv_iconst (v := (-1)) hx hb dX6_signOf_79 (by decide) ?_
                rw [hQ]
                exact W.iret (v := (-1)) hx hb hr (fun t ht hW => ⟨(-1), rfl, by first | trivial | omega | (constructor <;> omega), ht⟩) (fun _ h => nomatch h) dX6_signOf_80
              · skip
                have c_17' : a0.toInt = 39 := jb_ne_n (rfl) ((by decide)) c_17
                refine lv_bipush (v := 63) hx hb dX6_signOf_74 (by decide) ?_
                refine lv_goto (tgt := 80) hx hb dX6_signOf_76 (by decide) ?_
                rw [hQ]
                exact W.iret (v := 63) hx hb hr (fun t ht hW => ⟨63, rfl, by first | trivial | omega | (constructor <;> omega), ht⟩) (fun _ h => nomatch h) dX6_signOf_80
            · skip
              have c_16' : a0.toInt = 95 := jb_ne_n (rfl) ((by decide)) c_16
              refine lv_bipush (v := 62) hx hb dX6_signOf_63 (by decide) ?_
              refine lv_goto (tgt := 80) hx hb dX6_signOf_65 (by decide) ?_
              rw [hQ]
              exact W.iret (v := 62) hx hb hr (fun t ht hW => ⟨62, rfl, by first | trivial | omega | (constructor <;> omega), ht⟩) (fun _ h => nomatch h) dX6_signOf_80
          · skip
            have c_15' : a0.toInt ≤ 57 := jb_gt_n (rfl) ((by decide)) c_15
            refine lv_iload_n hx hb dX6_signOf_49 rfl (lv_at hl 0 rfl) ?_
            refine lv_bipush (v := 48) hx hb dX6_signOf_50 (by decide) ?_
            refine lv_isub hx hb dX6_signOf_52 ?_
            refine lv_topi (fun z_18 ez_18 => ?_)
            have hz_18 : z_18.toInt = a0.toInt - 48 := by rw [ez_18]; exact jb_isub (rfl) ((by decide)) (by omega) (by omega)
            refine lv_bipush (v := 52) hx hb dX6_signOf_53 (by decide) ?_
            refine lv_iadd hx hb dX6_signOf_55 ?_
            refine lv_topi (fun z_19 ez_19 => ?_)
            have hz_19 : z_19.toInt = z_18.toInt + 52 := by rw [ez_19]; exact jb_iadd (rfl) ((by decide)) (by omega) (by omega)
            rw [hQ]
            exact W.iret (v := z_19) hx hb hr (fun t ht hW => ⟨z_19, rfl, by first | trivial | omega | (constructor <;> omega), ht⟩) (fun _ h => nomatch h) dX6_signOf_56
      · skip
        have c_11' : a0.toInt ≤ 90 := jb_gt_n (rfl) ((by decide)) c_11
        refine lv_iload_n hx hb dX6_signOf_29 rfl (lv_at hl 0 rfl) ?_
        refine lv_bipush (v := 65) hx hb dX6_signOf_30 (by decide) ?_
        refine lv_isub hx hb dX6_signOf_32 ?_
        refine lv_topi (fun z_20 ez_20 => ?_)
        have hz_20 : z_20.toInt = a0.toInt - 65 := by rw [ez_20]; exact jb_isub (rfl) ((by decide)) (by omega) (by omega)
        refine lv_bipush (v := 26) hx hb dX6_signOf_33 (by decide) ?_
        refine lv_iadd hx hb dX6_signOf_35 ?_
        refine lv_topi (fun z_21 ez_21 => ?_)
        have hz_21 : z_21.toInt = z_20.toInt + 26 := by rw [ez_21]; exact jb_iadd (rfl) ((by decide)) (by omega) (by omega)
        rw [hQ]
        exact W.iret (v := z_21) hx hb hr (fun t ht hW => ⟨z_21, rfl, by first | trivial | omega | (constructor <;> omega), ht⟩) (fun _ h => nomatch h) dX6_signOf_36
  · skip
    have c_1' : a0.toInt ≥ 97 := jb_lt_n (rfl) ((by decide)) c_1
    refine lv_iload_n hx hb dX6_signOf_6 rfl (lv_at hl 0 rfl) ?_
    refine lv_bipush (v := 122) hx hb dX6_signOf_7 (by decide) ?_
    refine lv_icmp_gt (tgt := 17) hx hb dX6_signOf_9 (by decide) (fun c_22 => ?_) (fun c_22 => ?_)
    · skip
      have c_22' : a0.toInt > 122 := jb_gt (rfl) ((by decide)) c_22
      refine lv_iload_n hx hb dX6_signOf_17 rfl (lv_at hl 0 rfl) ?_
      refine lv_bipush (v := 65) hx hb dX6_signOf_18 (by decide) ?_
      refine lv_icmp_lt (tgt := 37) hx hb dX6_signOf_20 (by decide) (fun c_23 => ?_) (fun c_23 => ?_)
      · skip
        have c_23' : a0.toInt < 65 := jb_lt (rfl) ((by decide)) c_23
        refine lv_iload_n hx hb dX6_signOf_37 rfl (lv_at hl 0 rfl) ?_
        refine lv_bipush (v := 48) hx hb dX6_signOf_38 (by decide) ?_
        refine lv_icmp_lt (tgt := 57) hx hb dX6_signOf_40 (by decide) (fun c_24 => ?_) (fun c_24 => ?_)
        · skip
          have c_24' : a0.toInt < 48 := jb_lt (rfl) ((by decide)) c_24
          refine lv_iload_n hx hb dX6_signOf_57 rfl (lv_at hl 0 rfl) ?_
          refine lv_bipush (v := 95) hx hb dX6_signOf_58 (by decide) ?_
          refine lv_icmp_ne (tgt := 68) hx hb dX6_signOf_60 (by decide) (fun c_25 => ?_) (fun c_25 => ?_)
          · skip
            have c_25' : a0.toInt ≠ 95 := jb_ne (rfl) ((by decide)) c_25
            refine lv_iload_n hx hb dX6_signOf_68 rfl (lv_at hl 0 rfl) ?_
            refine lv_bipush (v := 39) hx hb dX6_signOf_69 (by decide) ?_
            refine lv_icmp_ne (tgt := 79) hx hb dX6_signOf_71 (by decide) (fun c_26 => ?_) (fun c_26 => ?_)
            · skip
              have c_26' : a0.toInt ≠ 39 := jb_ne (rfl) ((by decide)) c_26
              refine lv_iconst (v := (-1)) hx hb dX6_signOf_79 (by decide) ?_
              rw [hQ]
              exact W.iret (v := (-1)) hx hb hr (fun t ht hW => ⟨(-1), rfl, by first | trivial | omega | (constructor <;> omega), ht⟩) (fun _ h => nomatch h) dX6_signOf_80
            · skip
              have c_26' : a0.toInt = 39 := jb_ne_n (rfl) ((by decide)) c_26
              refine lv_bipush (v := 63) hx hb dX6_signOf_74 (by decide) ?_
              refine lv_goto (tgt := 80) hx hb dX6_signOf_76 (by decide) ?_
              rw [hQ]
              exact W.iret (v := 63) hx hb hr (fun t ht hW => ⟨63, rfl, by first | trivial | omega | (constructor <;> omega), ht⟩) (fun _ h => nomatch h) dX6_signOf_80
          · skip
            have c_25' : a0.toInt = 95 := jb_ne_n (rfl) ((by decide)) c_25
            refine lv_bipush (v := 62) hx hb dX6_signOf_63 (by decide) ?_
            refine lv_goto (tgt := 80) hx hb dX6_signOf_65 (by decide) ?_
            rw [hQ]
            exact W.iret (v := 62) hx hb hr (fun t ht hW => ⟨62, rfl, by first | trivial | omega | (constructor <;> omega), ht⟩) (fun _ h => nomatch h) dX6_signOf_80
        · skip
          have c_24' : a0.toInt ≥ 48 := jb_lt_n (rfl) ((by decide)) c_24
          refine lv_iload_n hx hb dX6_signOf_43 rfl (lv_at hl 0 rfl) ?_
          refine lv_bipush (v := 57) hx hb dX6_signOf_44 (by decide) ?_
          refine lv_icmp_gt (tgt := 57) hx hb dX6_signOf_46 (by decide) (fun c_27 => ?_) (fun c_27 => ?_)
          · skip
            have c_27' : a0.toInt > 57 := jb_gt (rfl) ((by decide)) c_27
            refine lv_iload_n hx hb dX6_signOf_57 rfl (lv_at hl 0 rfl) ?_
            refine lv_bipush (v := 95) hx hb dX6_signOf_58 (by decide) ?_
            refine lv_icmp_ne (tgt := 68) hx hb dX6_signOf_60 (by decide) (fun c_28 => ?_) (fun c_28 => ?_)
            · skip
              have c_28' : a0.toInt ≠ 95 := jb_ne (rfl) ((by decide)) c_28
              refine lv_iload_n hx hb dX6_signOf_68 rfl (lv_at hl 0 rfl) ?_
              refine lv_bipush (v := 39) hx hb dX6_signOf_69 (by decide) ?_
              refine lv_icmp_ne (tgt := 79) hx hb dX6_signOf_71 (by decide) (fun c_29 => ?_) (fun c_29 => ?_)
              · skip
                have c_29' : a0.toInt ≠ 39 := jb_ne (rfl) ((by decide)) c_29
                refine lv_iconst (v := (-1)) hx hb dX6_signOf_79 (by decide) ?_
                rw [hQ]
                exact W.iret (v := (-1)) hx hb hr (fun t ht hW => ⟨(-1), rfl, by first | trivial | omega | (constructor <;> omega), ht⟩) (fun _ h => nomatch h) dX6_signOf_80
              · skip
                have c_29' : a0.toInt = 39 := jb_ne_n (rfl) ((by decide)) c_29
                refine lv_bipush (v := 63) hx hb dX6_signOf_74 (by decide) ?_
                refine lv_goto (tgt := 80) hx hb dX6_signOf_76 (by decide) ?_
                rw [hQ]
                exact W.iret (v := 63) hx hb hr (fun t ht hW => ⟨63, rfl, by first | trivial | omega | (constructor <;> omega), ht⟩) (fun _ h => nomatch h) dX6_signOf_80
            · skip
              have c_28' : a0.toInt = 95 := jb_ne_n (rfl) ((by decide)) c_28
              refine lv_bipush (v := 62) hx hb dX6_signOf_63 (by decide) ?_
              refine lv_goto (tgt := 80) hx hb dX6_signOf_65 (by decide) ?_
              rw [hQ]
              exact W.iret (v := 62) hx hb hr (fun t ht hW => ⟨62, rfl, by first | trivial | omega | (constructor <;> omega), ht⟩) (fun _ h => nomatch h) dX6_signOf_80
          · skip
            have c_27' : a0.toInt ≤ 57 := jb_gt_n (rfl) ((by decide)) c_27
            refine lv_iload_n hx hb dX6_signOf_49 rfl (lv_at hl 0 rfl) ?_
            refine lv_bipush (v := 48) hx hb dX6_signOf_50 (by decide) ?_
            refine lv_isub hx hb dX6_signOf_52 ?_
            refine lv_topi (fun z_30 ez_30 => ?_)
            have hz_30 : z_30.toInt = a0.toInt - 48 := by rw [ez_30]; exact jb_isub (rfl) ((by decide)) (by omega) (by omega)
            refine lv_bipush (v := 52) hx hb dX6_signOf_53 (by decide) ?_
            refine lv_iadd hx hb dX6_signOf_55 ?_
            refine lv_topi (fun z_31 ez_31 => ?_)
            have hz_31 : z_31.toInt = z_30.toInt + 52 := by rw [ez_31]; exact jb_iadd (rfl) ((by decide)) (by omega) (by omega)
            rw [hQ]
            exact W.iret (v := z_31) hx hb hr (fun t ht hW => ⟨z_31, rfl, by first | trivial | omega | (constructor <;> omega), ht⟩) (fun _ h => nomatch h) dX6_signOf_56
      · skip
        have c_23' : a0.toInt ≥ 65 := jb_lt_n (rfl) ((by decide)) c_23
        refine lv_iload_n hx hb dX6_signOf_23 rfl (lv_at hl 0 rfl) ?_
        refine lv_bipush (v := 90) hx hb dX6_signOf_24 (by decide) ?_
        refine lv_icmp_gt (tgt := 37) hx hb dX6_signOf_26 (by decide) (fun c_32 => ?_) (fun c_32 => ?_)
        · skip
          have c_32' : a0.toInt > 90 := jb_gt (rfl) ((by decide)) c_32
          refine lv_iload_n hx hb dX6_signOf_37 rfl (lv_at hl 0 rfl) ?_
          refine lv_bipush (v := 48) hx hb dX6_signOf_38 (by decide) ?_
          refine lv_icmp_lt (tgt := 57) hx hb dX6_signOf_40 (by decide) (fun c_33 => ?_) (fun c_33 => ?_)
          · skip
            have c_33' : a0.toInt < 48 := jb_lt (rfl) ((by decide)) c_33
            refine lv_iload_n hx hb dX6_signOf_57 rfl (lv_at hl 0 rfl) ?_
            refine lv_bipush (v := 95) hx hb dX6_signOf_58 (by decide) ?_
            refine lv_icmp_ne (tgt := 68) hx hb dX6_signOf_60 (by decide) (fun c_34 => ?_) (fun c_34 => ?_)
            · skip
              have c_34' : a0.toInt ≠ 95 := jb_ne (rfl) ((by decide)) c_34
              refine lv_iload_n hx hb dX6_signOf_68 rfl (lv_at hl 0 rfl) ?_
              refine lv_bipush (v := 39) hx hb dX6_signOf_69 (by decide) ?_
              refine lv_icmp_ne (tgt := 79) hx hb dX6_signOf_71 (by decide) (fun c_35 => ?_) (fun c_35 => ?_)
              · skip
                have c_35' : a0.toInt ≠ 39 := jb_ne (rfl) ((by decide)) c_35
                refine lv_iconst (v := (-1)) hx hb dX6_signOf_79 (by decide) ?_
                rw [hQ]
                exact W.iret (v := (-1)) hx hb hr (fun t ht hW => ⟨(-1), rfl, by first | trivial | omega | (constructor <;> omega), ht⟩) (fun _ h => nomatch h) dX6_signOf_80
              · skip
                have c_35' : a0.toInt = 39 := jb_ne_n (rfl) ((by decide)) c_35
                refine lv_bipush (v := 63) hx hb dX6_signOf_74 (by decide) ?_
                refine lv_goto (tgt := 80) hx hb dX6_signOf_76 (by decide) ?_
                rw [hQ]
                exact W.iret (v := 63) hx hb hr (fun t ht hW => ⟨63, rfl, by first | trivial | omega | (constructor <;> omega), ht⟩) (fun _ h => nomatch h) dX6_signOf_80
            · skip
              have c_34' : a0.toInt = 95 := jb_ne_n (rfl) ((by decide)) c_34
              refine lv_bipush (v := 62) hx hb dX6_signOf_63 (by decide) ?_
              refine lv_goto (tgt := 80) hx hb dX6_signOf_65 (by decide) ?_
              rw [hQ]
              exact W.iret (v := 62) hx hb hr (fun t ht hW => ⟨62, rfl, by first | trivial | omega | (constructor <;> omega), ht⟩) (fun _ h => nomatch h) dX6_signOf_80
          · skip
            have c_33' : a0.toInt ≥ 48 := jb_lt_n (rfl) ((by decide)) c_33
            refine lv_iload_n hx hb dX6_signOf_43 rfl (lv_at hl 0 rfl) ?_
            refine lv_bipush (v := 57) hx hb dX6_signOf_44 (by decide) ?_
            refine lv_icmp_gt (tgt := 57) hx hb dX6_signOf_46 (by decide) (fun c_36 => ?_) (fun c_36 => ?_)
            · skip
              have c_36' : a0.toInt > 57 := jb_gt (rfl) ((by decide)) c_36
              refine lv_iload_n hx hb dX6_signOf_57 rfl (lv_at hl 0 rfl) ?_
              refine lv_bipush (v := 95) hx hb dX6_signOf_58 (by decide) ?_
              refine lv_icmp_ne (tgt := 68) hx hb dX6_signOf_60 (by decide) (fun c_37 => ?_) (fun c_37 => ?_)
              · skip
                have c_37' : a0.toInt ≠ 95 := jb_ne (rfl) ((by decide)) c_37
                refine lv_iload_n hx hb dX6_signOf_68 rfl (lv_at hl 0 rfl) ?_
                refine lv_bipush (v := 39) hx hb dX6_signOf_69 (by decide) ?_
                refine lv_icmp_ne (tgt := 79) hx hb dX6_signOf_71 (by decide) (fun c_38 => ?_) (fun c_38 => ?_)
                · skip
                  have c_38' : a0.toInt ≠ 39 := jb_ne (rfl) ((by decide)) c_38
                  refine lv_iconst (v := (-1)) hx hb dX6_signOf_79 (by decide) ?_
                  rw [hQ]
                  exact W.iret (v := (-1)) hx hb hr (fun t ht hW => ⟨(-1), rfl, by first | trivial | omega | (constructor <;> omega), ht⟩) (fun _ h => nomatch h) dX6_signOf_80
                · skip
                  have c_38' : a0.toInt = 39 := jb_ne_n (rfl) ((by decide)) c_38
                  refine lv_bipush (v := 63) hx hb dX6_signOf_74 (by decide) ?_
                  refine lv_goto (tgt := 80) hx hb dX6_signOf_76 (by decide) ?_
                  rw [hQ]
                  exact W.iret (v := 63) hx hb hr (fun t ht hW => ⟨63, rfl, by first | trivial | omega | (constructor <;> omega), ht⟩) (fun _ h => nomatch h) dX6_signOf_80
              · skip
                have c_37' : a0.toInt = 95 := jb_ne_n (rfl) ((by decide)) c_37
                refine lv_bipush (v := 62) hx hb dX6_signOf_63 (by decide) ?_
                refine lv_goto (tgt := 80) hx hb dX6_signOf_65 (by decide) ?_
                rw [hQ]
                exact W.iret (v := 62) hx hb hr (fun t ht hW => ⟨62, rfl, by first | trivial | omega | (constructor <;> omega), ht⟩) (fun _ h => nomatch h) dX6_signOf_80
            · skip
              have c_36' : a0.toInt ≤ 57 := jb_gt_n (rfl) ((by decide)) c_36
              refine lv_iload_n hx hb dX6_signOf_49 rfl (lv_at hl 0 rfl) ?_
              refine lv_bipush (v := 48) hx hb dX6_signOf_50 (by decide) ?_
              refine lv_isub hx hb dX6_signOf_52 ?_
              refine lv_topi (fun z_39 ez_39 => ?_)
              have hz_39 : z_39.toInt = a0.toInt - 48 := by rw [ez_39]; exact jb_isub (rfl) ((by decide)) (by omega) (by omega)
              refine lv_bipush (v := 52) hx hb dX6_signOf_53 (by decide) ?_
              refine lv_iadd hx hb dX6_signOf_55 ?_
              refine lv_topi (fun z_40 ez_40 => ?_)
              have hz_40 : z_40.toInt = z_39.toInt + 52 := by rw [ez_40]; exact jb_iadd (rfl) ((by decide)) (by omega) (by omega)
              rw [hQ]
              exact W.iret (v := z_40) hx hb hr (fun t ht hW => ⟨z_40, rfl, by first | trivial | omega | (constructor <;> omega), ht⟩) (fun _ h => nomatch h) dX6_signOf_56
        · skip
          have c_32' : a0.toInt ≤ 90 := jb_gt_n (rfl) ((by decide)) c_32
          refine lv_iload_n hx hb dX6_signOf_29 rfl (lv_at hl 0 rfl) ?_
          refine lv_bipush (v := 65) hx hb dX6_signOf_30 (by decide) ?_
          refine lv_isub hx hb dX6_signOf_32 ?_
          refine lv_topi (fun z_41 ez_41 => ?_)
          have hz_41 : z_41.toInt = a0.toInt - 65 := by rw [ez_41]; exact jb_isub (rfl) ((by decide)) (by omega) (by omega)
          refine lv_bipush (v := 26) hx hb dX6_signOf_33 (by decide) ?_
          refine lv_iadd hx hb dX6_signOf_35 ?_
          refine lv_topi (fun z_42 ez_42 => ?_)
          have hz_42 : z_42.toInt = z_41.toInt + 26 := by rw [ez_42]; exact jb_iadd (rfl) ((by decide)) (by omega) (by omega)
          rw [hQ]
          exact W.iret (v := z_42) hx hb hr (fun t ht hW => ⟨z_42, rfl, by first | trivial | omega | (constructor <;> omega), ht⟩) (fun _ h => nomatch h) dX6_signOf_36
    · skip
      have c_22' : a0.toInt ≤ 122 := jb_gt_n (rfl) ((by decide)) c_22
      refine lv_iload_n hx hb dX6_signOf_12 rfl (lv_at hl 0 rfl) ?_
      refine lv_bipush (v := 97) hx hb dX6_signOf_13 (by decide) ?_
      refine lv_isub hx hb dX6_signOf_15 ?_
      refine lv_topi (fun z_43 ez_43 => ?_)
      have hz_43 : z_43.toInt = a0.toInt - 97 := by rw [ez_43]; exact jb_isub (rfl) ((by decide)) (by omega) (by omega)
      rw [hQ]
      exact W.iret (v := z_43) hx hb hr (fun t ht hW => ⟨z_43, rfl, by first | trivial | omega | (constructor <;> omega), ht⟩) (fun _ h => nomatch h) dX6_signOf_16
end
section
def F16 (n : Nat) (G : jT) : List (Value → Prop) := [jRf G 111 4000, jI 0 4000, jRf G 101 20000, jI 0 20000, jIa, jRf G 101 100000, jI 0 100000, jZb, jIa, jRf G 110 3300, jIa, jIa, jIa, jRf G 0 0, jRf G 0 0, jI (-1) 3000, jIa, jRf G 117 3100, jRf G 118 3100, jRf G 119 3100, jRf G 120 3100, jRf G 121 3100, jRf G 122 3100, jRf G 123 3100, jRf G 124 3100, jRf G 125 3100, jI 0 3100, jRf G 127 3300, jI 0 3300, jI 0 100000, jI 0 3000, jZb, jI 0 3300, jIa, jZb, jZb, jZb, jIa, jRf G 101 20, jI (-3300) 20, jZb, jRf G 201 3, jI 0 3, jRf G 101 3100, jI 0 1500, jRf G 101 1500, jRf G 14 0, jRf G 14 0, jI 0 12, jRf G 202 12, jRf G 103 12, jRf G 206 12, jRf G 103 12, jRf G 101 12, jRf G 101 240, jRf G 203 12, jRf G 101 37200, jRf G 204 12, jRf G 15 0, jRf G 101 3100, jRf G 208 2, jRf G 207 2, jRf G 101 2, jRf G 103 2, jIa, jIa, jI 0 24, jRf G 101 38400, jRf G 205 24, jRf G 101 1600, jI 0 1600, jRf G 14 0, jRf G 101 40, jRf G 101 40]
end
section
theorem dX6_numberOf_0 : decode cX6_numberOf 0 = .ok (.iload_n 2, 1) := by decide +kernel
theorem dX6_numberOf_1 : decode cX6_numberOf 1 = .ok (.ifCond .lt 31, 3) := by decide +kernel
theorem dX6_numberOf_4 : decode cX6_numberOf 4 = .ok (.iload_n 3, 1) := by decide +kernel
theorem dX6_numberOf_5 : decode cX6_numberOf 5 = .ok (.aload_n 1, 1) := by decide +kernel
theorem dX6_numberOf_6 : decode cX6_numberOf 6 = .ok (.arraylength, 1) := by decide +kernel
theorem dX6_numberOf_7 : decode cX6_numberOf 7 = .ok (.if_icmp .gt 25, 3) := by decide +kernel
theorem dX6_numberOf_10 : decode cX6_numberOf 10 = .ok (.iload_n 2, 1) := by decide +kernel
theorem dX6_numberOf_11 : decode cX6_numberOf 11 = .ok (.iload_n 3, 1) := by decide +kernel
theorem dX6_numberOf_12 : decode cX6_numberOf 12 = .ok (.if_icmp .ge 20, 3) := by decide +kernel
theorem dX6_numberOf_15 : decode cX6_numberOf 15 = .ok (.iload_n 3, 1) := by decide +kernel
theorem dX6_numberOf_16 : decode cX6_numberOf 16 = .ok (.iload_n 2, 1) := by decide +kernel
theorem dX6_numberOf_17 : decode cX6_numberOf 17 = .ok (.isub, 1) := by decide +kernel
theorem dX6_numberOf_18 : decode cX6_numberOf 18 = .ok (.bipush 10, 2) := by decide +kernel
theorem dX6_numberOf_20 : decode cX6_numberOf 20 = .ok (.if_icmp .gt 12, 3) := by decide +kernel
theorem dX6_numberOf_23 : decode cX6_numberOf 23 = .ok (.aload_n 1, 1) := by decide +kernel
theorem dX6_numberOf_24 : decode cX6_numberOf 24 = .ok (.iload_n 2, 1) := by decide +kernel
theorem dX6_numberOf_25 : decode cX6_numberOf 25 = .ok (.iaload, 1) := by decide +kernel
theorem dX6_numberOf_26 : decode cX6_numberOf 26 = .ok (.invokestatic 38, 3) := by decide +kernel
theorem dX6_numberOf_29 : decode cX6_numberOf 29 = .ok (.ifCond .ne 5, 3) := by decide +kernel
theorem dX6_numberOf_32 : decode cX6_numberOf 32 = .ok (.iconst (-1), 1) := by decide +kernel
theorem dX6_numberOf_33 : decode cX6_numberOf 33 = .ok (.ireturn, 1) := by decide +kernel
theorem dX6_numberOf_34 : decode cX6_numberOf 34 = .ok (.iload_n 3, 1) := by decide +kernel
theorem dX6_numberOf_35 : decode cX6_numberOf 35 = .ok (.istore 5, 2) := by decide +kernel
theorem dX6_numberOf_37 : decode cX6_numberOf 37 = .ok (.iload 5, 2) := by decide +kernel
theorem dX6_numberOf_39 : decode cX6_numberOf 39 = .ok (.iload_n 2, 1) := by decide +kernel
theorem dX6_numberOf_40 : decode cX6_numberOf 40 = .ok (.if_icmp .le 20, 3) := by decide +kernel
theorem dX6_numberOf_43 : decode cX6_numberOf 43 = .ok (.aload_n 1, 1) := by decide +kernel
theorem dX6_numberOf_44 : decode cX6_numberOf 44 = .ok (.iload 5, 2) := by decide +kernel
theorem dX6_numberOf_46 : decode cX6_numberOf 46 = .ok (.iconst 1, 1) := by decide +kernel
theorem dX6_numberOf_47 : decode cX6_numberOf 47 = .ok (.isub, 1) := by decide +kernel
theorem dX6_numberOf_48 : decode cX6_numberOf 48 = .ok (.iaload, 1) := by decide +kernel
theorem dX6_numberOf_49 : decode cX6_numberOf 49 = .ok (.bipush 39, 2) := by decide +kernel
theorem dX6_numberOf_51 : decode cX6_numberOf 51 = .ok (.if_icmp .ne 9, 3) := by decide +kernel
theorem dX6_numberOf_54 : decode cX6_numberOf 54 = .ok (.iinc 5 (-1), 3) := by decide +kernel
theorem dX6_numberOf_57 : decode cX6_numberOf 57 = .ok (.goto (-20), 3) := by decide +kernel
theorem dX6_numberOf_60 : decode cX6_numberOf 60 = .ok (.lconst 1, 1) := by decide +kernel
theorem dX6_numberOf_61 : decode cX6_numberOf 61 = .ok (.lstore 6, 2) := by decide +kernel
theorem dX6_numberOf_63 : decode cX6_numberOf 63 = .ok (.iload 5, 2) := by decide +kernel
theorem dX6_numberOf_65 : decode cX6_numberOf 65 = .ok (.iconst 1, 1) := by decide +kernel
theorem dX6_numberOf_66 : decode cX6_numberOf 66 = .ok (.isub, 1) := by decide +kernel
theorem dX6_numberOf_67 : decode cX6_numberOf 67 = .ok (.istore 8, 2) := by decide +kernel
theorem dX6_numberOf_69 : decode cX6_numberOf 69 = .ok (.iload 8, 2) := by decide +kernel
theorem dX6_numberOf_71 : decode cX6_numberOf 71 = .ok (.iload_n 2, 1) := by decide +kernel
theorem dX6_numberOf_72 : decode cX6_numberOf 72 = .ok (.if_icmp .lt 36, 3) := by decide +kernel
theorem dX6_numberOf_75 : decode cX6_numberOf 75 = .ok (.aload_n 1, 1) := by decide +kernel
theorem dX6_numberOf_76 : decode cX6_numberOf 76 = .ok (.iload 8, 2) := by decide +kernel
theorem dX6_numberOf_78 : decode cX6_numberOf 78 = .ok (.iaload, 1) := by decide +kernel
theorem dX6_numberOf_79 : decode cX6_numberOf 79 = .ok (.invokestatic 42, 3) := by decide +kernel
theorem dX6_numberOf_82 : decode cX6_numberOf 82 = .ok (.istore 9, 2) := by decide +kernel
theorem dX6_numberOf_84 : decode cX6_numberOf 84 = .ok (.iload 9, 2) := by decide +kernel
theorem dX6_numberOf_86 : decode cX6_numberOf 86 = .ok (.ifCond .ge 5, 3) := by decide +kernel
theorem dX6_numberOf_89 : decode cX6_numberOf 89 = .ok (.iconst (-1), 1) := by decide +kernel
theorem dX6_numberOf_90 : decode cX6_numberOf 90 = .ok (.ireturn, 1) := by decide +kernel
theorem dX6_numberOf_91 : decode cX6_numberOf 91 = .ok (.lload 6, 2) := by decide +kernel
theorem dX6_numberOf_93 : decode cX6_numberOf 93 = .ok (.bipush 6, 2) := by decide +kernel
theorem dX6_numberOf_95 : decode cX6_numberOf 95 = .ok (.lshl, 1) := by decide +kernel
theorem dX6_numberOf_96 : decode cX6_numberOf 96 = .ok (.iload 9, 2) := by decide +kernel
theorem dX6_numberOf_98 : decode cX6_numberOf 98 = .ok (.i2l, 1) := by decide +kernel
theorem dX6_numberOf_99 : decode cX6_numberOf 99 = .ok (.lor, 1) := by decide +kernel
theorem dX6_numberOf_100 : decode cX6_numberOf 100 = .ok (.lstore 6, 2) := by decide +kernel
theorem dX6_numberOf_102 : decode cX6_numberOf 102 = .ok (.iinc 8 (-1), 3) := by decide +kernel
theorem dX6_numberOf_105 : decode cX6_numberOf 105 = .ok (.goto (-36), 3) := by decide +kernel
theorem dX6_numberOf_108 : decode cX6_numberOf 108 = .ok (.aload_n 0, 1) := by decide +kernel
theorem dX6_numberOf_109 : decode cX6_numberOf 109 = .ok (.lload 6, 2) := by decide +kernel
theorem dX6_numberOf_111 : decode cX6_numberOf 111 = .ok (.iload_n 3, 1) := by decide +kernel
theorem dX6_numberOf_112 : decode cX6_numberOf 112 = .ok (.iload 5, 2) := by decide +kernel
theorem dX6_numberOf_114 : decode cX6_numberOf 114 = .ok (.isub, 1) := by decide +kernel
theorem dX6_numberOf_115 : decode cX6_numberOf 115 = .ok (.iload 4, 2) := by decide +kernel
theorem dX6_numberOf_117 : decode cX6_numberOf 117 = .ok (.invokevirtual 46, 3) := by decide +kernel
theorem dX6_numberOf_120 : decode cX6_numberOf 120 = .ok (.ireturn, 1) := by decide +kernel
theorem dX6_find_0 : decode cX6_find 0 = .ok (.lload_n 1, 1) := by decide +kernel
theorem dX6_find_1 : decode cX6_find 1 = .ok (.ldc2_w 50, 3) := by decide +kernel
theorem dX6_find_4 : decode cX6_find 4 = .ok (.lmul, 1) := by decide +kernel
theorem dX6_find_5 : decode cX6_find 5 = .ok (.bipush 40, 2) := by decide +kernel
theorem dX6_find_7 : decode cX6_find 7 = .ok (.lushr, 1) := by decide +kernel
theorem dX6_find_8 : decode cX6_find 8 = .ok (.l2i, 1) := by decide +kernel
theorem dX6_find_9 : decode cX6_find 9 = .ok (.bipush 31, 2) := by decide +kernel
theorem dX6_find_11 : decode cX6_find 11 = .ok (.iload_n 3, 1) := by decide +kernel
theorem dX6_find_12 : decode cX6_find 12 = .ok (.imul, 1) := by decide +kernel
theorem dX6_find_13 : decode cX6_find 13 = .ok (.iadd, 1) := by decide +kernel
theorem dX6_find_14 : decode cX6_find 14 = .ok (.istore 5, 2) := by decide +kernel
theorem dX6_find_16 : decode cX6_find 16 = .ok (.iconst 0, 1) := by decide +kernel
theorem dX6_find_17 : decode cX6_find 17 = .ok (.istore 6, 2) := by decide +kernel
theorem dX6_find_19 : decode cX6_find 19 = .ok (.iload 6, 2) := by decide +kernel
theorem dX6_find_21 : decode cX6_find 21 = .ok (.sipush 16384, 3) := by decide +kernel
theorem dX6_find_24 : decode cX6_find 24 = .ok (.if_icmp .ge 127, 3) := by decide +kernel
theorem dX6_find_27 : decode cX6_find 27 = .ok (.iload 5, 2) := by decide +kernel
theorem dX6_find_29 : decode cX6_find 29 = .ok (.iload 6, 2) := by decide +kernel
theorem dX6_find_31 : decode cX6_find 31 = .ok (.iadd, 1) := by decide +kernel
theorem dX6_find_32 : decode cX6_find 32 = .ok (.sipush 16383, 3) := by decide +kernel
theorem dX6_find_35 : decode cX6_find 35 = .ok (.iand, 1) := by decide +kernel
theorem dX6_find_36 : decode cX6_find 36 = .ok (.istore 7, 2) := by decide +kernel
theorem dX6_find_38 : decode cX6_find 38 = .ok (.aload_n 0, 1) := by decide +kernel
theorem dX6_find_39 : decode cX6_find 39 = .ok (.getfield 19, 3) := by decide +kernel
theorem dX6_find_42 : decode cX6_find 42 = .ok (.iload 7, 2) := by decide +kernel
theorem dX6_find_44 : decode cX6_find 44 = .ok (.iaload, 1) := by decide +kernel
theorem dX6_find_45 : decode cX6_find 45 = .ok (.iconst 1, 1) := by decide +kernel
theorem dX6_find_46 : decode cX6_find 46 = .ok (.isub, 1) := by decide +kernel
theorem dX6_find_47 : decode cX6_find 47 = .ok (.istore 8, 2) := by decide +kernel
theorem dX6_find_49 : decode cX6_find 49 = .ok (.iload 8, 2) := by decide +kernel
theorem dX6_find_51 : decode cX6_find 51 = .ok (.ifCond .ge 68, 3) := by decide +kernel
theorem dX6_find_54 : decode cX6_find 54 = .ok (.iload 4, 2) := by decide +kernel
theorem dX6_find_56 : decode cX6_find 56 = .ok (.ifCond .eq 13, 3) := by decide +kernel
theorem dX6_find_59 : decode cX6_find 59 = .ok (.aload_n 0, 1) := by decide +kernel
theorem dX6_find_60 : decode cX6_find 60 = .ok (.getfield 52, 3) := by decide +kernel
theorem dX6_find_63 : decode cX6_find 63 = .ok (.sipush 8192, 3) := by decide +kernel
theorem dX6_find_66 : decode cX6_find 66 = .ok (.if_icmp .lt 5, 3) := by decide +kernel
theorem dX6_find_69 : decode cX6_find 69 = .ok (.iconst (-1), 1) := by decide +kernel
theorem dX6_find_70 : decode cX6_find 70 = .ok (.ireturn, 1) := by decide +kernel
theorem dX6_find_71 : decode cX6_find 71 = .ok (.aload_n 0, 1) := by decide +kernel
theorem dX6_find_72 : decode cX6_find 72 = .ok (.getfield 11, 3) := by decide +kernel
theorem dX6_find_75 : decode cX6_find 75 = .ok (.aload_n 0, 1) := by decide +kernel
theorem dX6_find_76 : decode cX6_find 76 = .ok (.getfield 52, 3) := by decide +kernel
theorem dX6_find_79 : decode cX6_find 79 = .ok (.lload_n 1, 1) := by decide +kernel
theorem dX6_find_80 : decode cX6_find 80 = .ok (.lastore, 1) := by decide +kernel
theorem dX6_find_81 : decode cX6_find 81 = .ok (.aload_n 0, 1) := by decide +kernel
theorem dX6_find_82 : decode cX6_find 82 = .ok (.getfield 15, 3) := by decide +kernel
theorem dX6_find_85 : decode cX6_find 85 = .ok (.aload_n 0, 1) := by decide +kernel
theorem dX6_find_86 : decode cX6_find 86 = .ok (.getfield 52, 3) := by decide +kernel
theorem dX6_find_89 : decode cX6_find 89 = .ok (.iload_n 3, 1) := by decide +kernel
theorem dX6_find_90 : decode cX6_find 90 = .ok (.iastore, 1) := by decide +kernel
theorem dX6_find_91 : decode cX6_find 91 = .ok (.aload_n 0, 1) := by decide +kernel
theorem dX6_find_92 : decode cX6_find 92 = .ok (.dup, 1) := by decide +kernel
theorem dX6_find_93 : decode cX6_find 93 = .ok (.getfield 52, 3) := by decide +kernel
theorem dX6_find_96 : decode cX6_find 96 = .ok (.iconst 1, 1) := by decide +kernel
theorem dX6_find_97 : decode cX6_find 97 = .ok (.iadd, 1) := by decide +kernel
theorem dX6_find_98 : decode cX6_find 98 = .ok (.putfield 52, 3) := by decide +kernel
theorem dX6_find_101 : decode cX6_find 101 = .ok (.aload_n 0, 1) := by decide +kernel
theorem dX6_find_102 : decode cX6_find 102 = .ok (.getfield 19, 3) := by decide +kernel
theorem dX6_find_105 : decode cX6_find 105 = .ok (.iload 7, 2) := by decide +kernel
theorem dX6_find_107 : decode cX6_find 107 = .ok (.aload_n 0, 1) := by decide +kernel
theorem dX6_find_108 : decode cX6_find 108 = .ok (.getfield 52, 3) := by decide +kernel
theorem dX6_find_111 : decode cX6_find 111 = .ok (.iastore, 1) := by decide +kernel
theorem dX6_find_112 : decode cX6_find 112 = .ok (.aload_n 0, 1) := by decide +kernel
theorem dX6_find_113 : decode cX6_find 113 = .ok (.getfield 52, 3) := by decide +kernel
theorem dX6_find_116 : decode cX6_find 116 = .ok (.iconst 1, 1) := by decide +kernel
theorem dX6_find_117 : decode cX6_find 117 = .ok (.isub, 1) := by decide +kernel
theorem dX6_find_118 : decode cX6_find 118 = .ok (.ireturn, 1) := by decide +kernel
theorem dX6_find_119 : decode cX6_find 119 = .ok (.aload_n 0, 1) := by decide +kernel
theorem dX6_find_120 : decode cX6_find 120 = .ok (.getfield 11, 3) := by decide +kernel
theorem dX6_find_123 : decode cX6_find 123 = .ok (.iload 8, 2) := by decide +kernel
theorem dX6_find_125 : decode cX6_find 125 = .ok (.laload, 1) := by decide +kernel
theorem dX6_find_126 : decode cX6_find 126 = .ok (.lload_n 1, 1) := by decide +kernel
theorem dX6_find_127 : decode cX6_find 127 = .ok (.lcmp, 1) := by decide +kernel
theorem dX6_find_128 : decode cX6_find 128 = .ok (.ifCond .ne 17, 3) := by decide +kernel
theorem dX6_find_131 : decode cX6_find 131 = .ok (.aload_n 0, 1) := by decide +kernel
theorem dX6_find_132 : decode cX6_find 132 = .ok (.getfield 15, 3) := by decide +kernel
theorem dX6_find_135 : decode cX6_find 135 = .ok (.iload 8, 2) := by decide +kernel
theorem dX6_find_137 : decode cX6_find 137 = .ok (.iaload, 1) := by decide +kernel
theorem dX6_find_138 : decode cX6_find 138 = .ok (.iload_n 3, 1) := by decide +kernel
theorem dX6_find_139 : decode cX6_find 139 = .ok (.if_icmp .ne 6, 3) := by decide +kernel
theorem dX6_find_142 : decode cX6_find 142 = .ok (.iload 8, 2) := by decide +kernel
theorem dX6_find_144 : decode cX6_find 144 = .ok (.ireturn, 1) := by decide +kernel
theorem dX6_find_145 : decode cX6_find 145 = .ok (.iinc 6 1, 3) := by decide +kernel
theorem dX6_find_148 : decode cX6_find 148 = .ok (.goto (-129), 3) := by decide +kernel
theorem dX6_find_151 : decode cX6_find 151 = .ok (.iconst (-1), 1) := by decide +kernel
theorem dX6_find_152 : decode cX6_find 152 = .ok (.ireturn, 1) := by decide +kernel
end
section
theorem dX4_member_0 : decode cX4_member 0 = .ok (.aload_n 0, 1) := by decide +kernel
theorem dX4_member_1 : decode cX4_member 1 = .ok (.iload_n 1, 1) := by decide +kernel
theorem dX4_member_2 : decode cX4_member 2 = .ok (.invokevirtual 63, 3) := by decide +kernel
theorem dX4_member_5 : decode cX4_member 5 = .ok (.iconst 1, 1) := by decide +kernel
theorem dX4_member_6 : decode cX4_member 6 = .ok (.if_icmp .eq 5, 3) := by decide +kernel
theorem dX4_member_9 : decode cX4_member 9 = .ok (.iconst (-1), 1) := by decide +kernel
theorem dX4_member_10 : decode cX4_member 10 = .ok (.ireturn, 1) := by decide +kernel
theorem dX4_member_11 : decode cX4_member 11 = .ok (.iconst (-1), 1) := by decide +kernel
theorem dX4_member_12 : decode cX4_member 12 = .ok (.istore_n 3, 1) := by decide +kernel
theorem dX4_member_13 : decode cX4_member 13 = .ok (.aload_n 0, 1) := by decide +kernel
theorem dX4_member_14 : decode cX4_member 14 = .ok (.getfield 15, 3) := by decide +kernel
theorem dX4_member_17 : decode cX4_member 17 = .ok (.iload_n 1, 1) := by decide +kernel
theorem dX4_member_18 : decode cX4_member 18 = .ok (.iaload, 1) := by decide +kernel
theorem dX4_member_19 : decode cX4_member 19 = .ok (.istore 4, 2) := by decide +kernel
theorem dX4_member_21 : decode cX4_member 21 = .ok (.iconst 0, 1) := by decide +kernel
theorem dX4_member_22 : decode cX4_member 22 = .ok (.istore 5, 2) := by decide +kernel
theorem dX4_member_24 : decode cX4_member 24 = .ok (.iload 5, 2) := by decide +kernel
theorem dX4_member_26 : decode cX4_member 26 = .ok (.aload_n 0, 1) := by decide +kernel
theorem dX4_member_27 : decode cX4_member 27 = .ok (.getfield 18, 3) := by decide +kernel
theorem dX4_member_30 : decode cX4_member 30 = .ok (.iload_n 1, 1) := by decide +kernel
theorem dX4_member_31 : decode cX4_member 31 = .ok (.iaload, 1) := by decide +kernel
theorem dX4_member_32 : decode cX4_member 32 = .ok (.if_icmp .ge 57, 3) := by decide +kernel
theorem dX4_member_35 : decode cX4_member 35 = .ok (.iload 4, 2) := by decide +kernel
theorem dX4_member_37 : decode cX4_member 37 = .ok (.ifCond .lt 52, 3) := by decide +kernel
theorem dX4_member_40 : decode cX4_member 40 = .ok (.iload 4, 2) := by decide +kernel
theorem dX4_member_42 : decode cX4_member 42 = .ok (.aload_n 0, 1) := by decide +kernel
theorem dX4_member_43 : decode cX4_member 43 = .ok (.getfield 50, 3) := by decide +kernel
theorem dX4_member_46 : decode cX4_member 46 = .ok (.if_icmp .ge 43, 3) := by decide +kernel
theorem dX4_member_49 : decode cX4_member 49 = .ok (.aload_n 0, 1) := by decide +kernel
theorem dX4_member_50 : decode cX4_member 50 = .ok (.aload_n 0, 1) := by decide +kernel
theorem dX4_member_51 : decode cX4_member 51 = .ok (.getfield 24, 3) := by decide +kernel
theorem dX4_member_54 : decode cX4_member 54 = .ok (.iload 4, 2) := by decide +kernel
theorem dX4_member_56 : decode cX4_member 56 = .ok (.iaload, 1) := by decide +kernel
theorem dX4_member_57 : decode cX4_member 57 = .ok (.aload_n 0, 1) := by decide +kernel
theorem dX4_member_58 : decode cX4_member 58 = .ok (.getfield 27, 3) := by decide +kernel
theorem dX4_member_61 : decode cX4_member 61 = .ok (.iload 4, 2) := by decide +kernel
theorem dX4_member_63 : decode cX4_member 63 = .ok (.iaload, 1) := by decide +kernel
theorem dX4_member_64 : decode cX4_member 64 = .ok (.aload_n 2, 1) := by decide +kernel
theorem dX4_member_65 : decode cX4_member 65 = .ok (.invokevirtual 66, 3) := by decide +kernel
theorem dX4_member_68 : decode cX4_member 68 = .ok (.ifCond .eq 6, 3) := by decide +kernel
theorem dX4_member_71 : decode cX4_member 71 = .ok (.iload 4, 2) := by decide +kernel
theorem dX4_member_73 : decode cX4_member 73 = .ok (.istore_n 3, 1) := by decide +kernel
theorem dX4_member_74 : decode cX4_member 74 = .ok (.aload_n 0, 1) := by decide +kernel
theorem dX4_member_75 : decode cX4_member 75 = .ok (.getfield 21, 3) := by decide +kernel
theorem dX4_member_78 : decode cX4_member 78 = .ok (.iload 4, 2) := by decide +kernel
theorem dX4_member_80 : decode cX4_member 80 = .ok (.iaload, 1) := by decide +kernel
theorem dX4_member_81 : decode cX4_member 81 = .ok (.istore 4, 2) := by decide +kernel
theorem dX4_member_83 : decode cX4_member 83 = .ok (.iinc 5 1, 3) := by decide +kernel
theorem dX4_member_86 : decode cX4_member 86 = .ok (.goto (-62), 3) := by decide +kernel
theorem dX4_member_89 : decode cX4_member 89 = .ok (.iload_n 3, 1) := by decide +kernel
theorem dX4_member_90 : decode cX4_member 90 = .ok (.ireturn, 1) := by decide +kernel
theorem dX4_areUnits_0 : decode cX4_areUnits 0 = .ok (.iload_n 2, 1) := by decide +kernel
theorem dX4_areUnits_1 : decode cX4_areUnits 1 = .ok (.aload_n 3, 1) := by decide +kernel
theorem dX4_areUnits_2 : decode cX4_areUnits 2 = .ok (.invokevirtual 70, 3) := by decide +kernel
theorem dX4_areUnits_5 : decode cX4_areUnits 5 = .ok (.if_icmp .ne 18, 3) := by decide +kernel
theorem dX4_areUnits_8 : decode cX4_areUnits 8 = .ok (.iload_n 1, 1) := by decide +kernel
theorem dX4_areUnits_9 : decode cX4_areUnits 9 = .ok (.ifCond .lt 14, 3) := by decide +kernel
theorem dX4_areUnits_12 : decode cX4_areUnits 12 = .ok (.iload_n 1, 1) := by decide +kernel
theorem dX4_areUnits_13 : decode cX4_areUnits 13 = .ok (.iload_n 2, 1) := by decide +kernel
theorem dX4_areUnits_14 : decode cX4_areUnits 14 = .ok (.iadd, 1) := by decide +kernel
theorem dX4_areUnits_15 : decode cX4_areUnits 15 = .ok (.aload_n 0, 1) := by decide +kernel
theorem dX4_areUnits_16 : decode cX4_areUnits 16 = .ok (.getfield 30, 3) := by decide +kernel
theorem dX4_areUnits_19 : decode cX4_areUnits 19 = .ok (.arraylength, 1) := by decide +kernel
theorem dX4_areUnits_20 : decode cX4_areUnits 20 = .ok (.if_icmp .le 5, 3) := by decide +kernel
theorem dX4_areUnits_23 : decode cX4_areUnits 23 = .ok (.iconst 0, 1) := by decide +kernel
theorem dX4_areUnits_24 : decode cX4_areUnits 24 = .ok (.ireturn, 1) := by decide +kernel
theorem dX4_areUnits_25 : decode cX4_areUnits 25 = .ok (.iconst 0, 1) := by decide +kernel
theorem dX4_areUnits_26 : decode cX4_areUnits 26 = .ok (.istore 4, 2) := by decide +kernel
theorem dX4_areUnits_28 : decode cX4_areUnits 28 = .ok (.iload 4, 2) := by decide +kernel
theorem dX4_areUnits_30 : decode cX4_areUnits 30 = .ok (.iload_n 2, 1) := by decide +kernel
theorem dX4_areUnits_31 : decode cX4_areUnits 31 = .ok (.if_icmp .ge 29, 3) := by decide +kernel
theorem dX4_areUnits_34 : decode cX4_areUnits 34 = .ok (.aload_n 0, 1) := by decide +kernel
theorem dX4_areUnits_35 : decode cX4_areUnits 35 = .ok (.getfield 30, 3) := by decide +kernel
theorem dX4_areUnits_38 : decode cX4_areUnits 38 = .ok (.iload_n 1, 1) := by decide +kernel
theorem dX4_areUnits_39 : decode cX4_areUnits 39 = .ok (.iload 4, 2) := by decide +kernel
theorem dX4_areUnits_41 : decode cX4_areUnits 41 = .ok (.iadd, 1) := by decide +kernel
theorem dX4_areUnits_42 : decode cX4_areUnits 42 = .ok (.iaload, 1) := by decide +kernel
theorem dX4_areUnits_43 : decode cX4_areUnits 43 = .ok (.aload_n 3, 1) := by decide +kernel
theorem dX4_areUnits_44 : decode cX4_areUnits 44 = .ok (.iload 4, 2) := by decide +kernel
theorem dX4_areUnits_46 : decode cX4_areUnits 46 = .ok (.invokevirtual 76, 3) := by decide +kernel
theorem dX4_areUnits_49 : decode cX4_areUnits 49 = .ok (.if_icmp .eq 5, 3) := by decide +kernel
theorem dX4_areUnits_52 : decode cX4_areUnits 52 = .ok (.iconst 0, 1) := by decide +kernel
theorem dX4_areUnits_53 : decode cX4_areUnits 53 = .ok (.ireturn, 1) := by decide +kernel
theorem dX4_areUnits_54 : decode cX4_areUnits 54 = .ok (.iinc 4 1, 3) := by decide +kernel
theorem dX4_areUnits_57 : decode cX4_areUnits 57 = .ok (.goto (-29), 3) := by decide +kernel
theorem dX4_areUnits_60 : decode cX4_areUnits 60 = .ok (.iconst 1, 1) := by decide +kernel
theorem dX4_areUnits_61 : decode cX4_areUnits 61 = .ok (.ireturn, 1) := by decide +kernel
theorem dX4_isUnits_0 : decode cX4_isUnits 0 = .ok (.aload_n 0, 1) := by decide +kernel
theorem dX4_isUnits_1 : decode cX4_isUnits 1 = .ok (.iload_n 1, 1) := by decide +kernel
theorem dX4_isUnits_2 : decode cX4_isUnits 2 = .ok (.invokevirtual 63, 3) := by decide +kernel
theorem dX4_isUnits_5 : decode cX4_isUnits 5 = .ok (.iconst 3, 1) := by decide +kernel
theorem dX4_isUnits_6 : decode cX4_isUnits 6 = .ok (.if_icmp .ne 14, 3) := by decide +kernel
theorem dX4_isUnits_9 : decode cX4_isUnits 9 = .ok (.aload_n 0, 1) := by decide +kernel
theorem dX4_isUnits_10 : decode cX4_isUnits 10 = .ok (.getfield 18, 3) := by decide +kernel
theorem dX4_isUnits_13 : decode cX4_isUnits 13 = .ok (.iload_n 1, 1) := by decide +kernel
theorem dX4_isUnits_14 : decode cX4_isUnits 14 = .ok (.iaload, 1) := by decide +kernel
theorem dX4_isUnits_15 : decode cX4_isUnits 15 = .ok (.aload_n 2, 1) := by decide +kernel
theorem dX4_isUnits_16 : decode cX4_isUnits 16 = .ok (.arraylength, 1) := by decide +kernel
theorem dX4_isUnits_17 : decode cX4_isUnits 17 = .ok (.if_icmp .eq 5, 3) := by decide +kernel
theorem dX4_isUnits_20 : decode cX4_isUnits 20 = .ok (.iconst 0, 1) := by decide +kernel
theorem dX4_isUnits_21 : decode cX4_isUnits 21 = .ok (.ireturn, 1) := by decide +kernel
theorem dX4_isUnits_22 : decode cX4_isUnits 22 = .ok (.iconst 0, 1) := by decide +kernel
theorem dX4_isUnits_23 : decode cX4_isUnits 23 = .ok (.istore_n 3, 1) := by decide +kernel
theorem dX4_isUnits_24 : decode cX4_isUnits 24 = .ok (.iload_n 3, 1) := by decide +kernel
theorem dX4_isUnits_25 : decode cX4_isUnits 25 = .ok (.aload_n 2, 1) := by decide +kernel
theorem dX4_isUnits_26 : decode cX4_isUnits 26 = .ok (.arraylength, 1) := by decide +kernel
theorem dX4_isUnits_27 : decode cX4_isUnits 27 = .ok (.if_icmp .ge 23, 3) := by decide +kernel
theorem dX4_isUnits_30 : decode cX4_isUnits 30 = .ok (.aload_n 0, 1) := by decide +kernel
theorem dX4_isUnits_31 : decode cX4_isUnits 31 = .ok (.iload_n 1, 1) := by decide +kernel
theorem dX4_isUnits_32 : decode cX4_isUnits 32 = .ok (.iload_n 3, 1) := by decide +kernel
theorem dX4_isUnits_33 : decode cX4_isUnits 33 = .ok (.invokevirtual 80, 3) := by decide +kernel
theorem dX4_isUnits_36 : decode cX4_isUnits 36 = .ok (.aload_n 2, 1) := by decide +kernel
theorem dX4_isUnits_37 : decode cX4_isUnits 37 = .ok (.iload_n 3, 1) := by decide +kernel
theorem dX4_isUnits_38 : decode cX4_isUnits 38 = .ok (.iaload, 1) := by decide +kernel
theorem dX4_isUnits_39 : decode cX4_isUnits 39 = .ok (.if_icmp .eq 5, 3) := by decide +kernel
theorem dX4_isUnits_42 : decode cX4_isUnits 42 = .ok (.iconst 0, 1) := by decide +kernel
theorem dX4_isUnits_43 : decode cX4_isUnits 43 = .ok (.ireturn, 1) := by decide +kernel
theorem dX4_isUnits_44 : decode cX4_isUnits 44 = .ok (.iinc 3 1, 3) := by decide +kernel
theorem dX4_isUnits_47 : decode cX4_isUnits 47 = .ok (.goto (-23), 3) := by decide +kernel
theorem dX4_isUnits_50 : decode cX4_isUnits 50 = .ok (.iconst 1, 1) := by decide +kernel
theorem dX4_isUnits_51 : decode cX4_isUnits 51 = .ok (.ireturn, 1) := by decide +kernel
def EX4_areUnits : List (Nat × Nat) := []
def EX4_member : List (Nat × Nat) := []
def EX4_isUnits : List (Nat × Nat) := []
set_option maxHeartbeats 4000000 in
set_option maxRecDepth 20000 in
theorem uX4_areUnits (l : Launch) (dC : Nat → ClassId) (dI : Nat → Nat → Nat) (ca : Nat → ClassId) (base : Nat) (B : jF) (hB : jBok B) (hAp : jAp (dC, dI)) (hB6 : ∀ n G a H, B 6 n G a H ↔ jOb (dC, dI) 6 12 (F6 n G) a H) (hB146 : ∀ n G a H, B 146 n G a H ↔ jAr (dC, dI) (ca 1) (fun j z => True) n a H) (G0 : jT) (H0 : Heap) (r0 : Nat) (a1 : Int32) (a2 : Int32) (r3 : Nat) (n3 : Nat) : Met l yX4_areUnits (jw yX4_areUnits cX4_areUnits 5 (some .boolean)) ({ frames := 4, cells := 0, slots := 0, locals := 141 }) (va_Pc [.ref r0, .int a1, .int a2, .ref r3] (fun U => U.heap = H0 ∧ jX B base G0 [] H0 ∧ jG dC dI ca base U ∧ jStr base r3 n3 U H0 ∧ G0 r0 = some (6, 0) ∧ jP (dC, dI) G0 H0 [] ∧ a1.toInt ≤ 1000000 ∧ n3 ≤ 1000)) (va_Qi (S := Unit) (fun r u => (r = 0 ∨ r = 1) ∧ (True)) (fun u t => jRt (dC, dI) B base G0 EX4_areUnits H0 [] t.heap) (jA base)) 0 0 (jA base) := by
  refine Met.ofW (cc := cX4_areUnits) (maxL := 5) (ret := (some .boolean)) (by decide) rfl ?_
  intro p e s m args below meth c s₁ Bd hml hv
  obtain ⟨rfl, hH0, hX, hG, hstr_r3, hg_r0, hP0, hp0, hp1⟩ := hv
  have hK := hG.1
  have hx := Bd.exec
  have hb := Bd.bytes
  have hr := Bd.returns
  have hts := atoms_spec (ws := (jw yX4_areUnits cX4_areUnits 5 (some .boolean))) Bd.pre
  have htw : ∀ w ∈ jWl, w.before _ s = true := fun w h => hts w (List.mem_cons_of_mem _ h)
  have hown : s.vm.findClass RX4 = some m.cls := findClass_of_methodNamed Bd.named
  have hlocks := Bd.notSynchronized
  obtain ⟨Q, hQ⟩ : ∃ Q, Q = MQ below (va_Qi (S := Unit) (fun r u => (r = 0 ∨ r = 1) ∧ (True)) (fun u t => jRt (dC, dI) B base G0 EX4_areUnits H0 [] t.heap) (jA base)) ([.ref r0, .int a1, .int a2, .ref r3] : List Value).toArray s 0 0 (jA base) := ⟨_, rfl⟩
  rw [← hQ]
  have hl := lv_entry ([.ref r0, .int a1, .int a2, .ref r3]) (n := 5) (Nat.le_of_ble_eq_true rfl)
  rw [lg_entry_eq]
  generalize (lg_sl ([.ref r0, .int a1, .int a2, .ref r3]) ++ List.replicate (5 - (lg_sl ([.ref r0, .int a1, .int a2, .ref r3])).length) Slot.unset).toArray = ls at hl ⊢
  have hl : lv_has ls 5 [(0, .ref r0), (1, .int a1), (2, .int a2), (3, .ref r3)] := hl
  generalize hR : (headSpec (jw yX4_areUnits cX4_areUnits 5 (some .boolean)) ({ frames := 4, cells := 0, slots := 0, locals := 141 })).room = R
  subst hH0
  have hh : jSt (dC, dI) B base G0 G0 EX4_areUnits s.heap 0 0 [] [] [] s.heap [] := jSt.start hX hP0 jMc.nil jIs.nil
  clear hX hP0
  have hk0 : (0 : Int32).toInt = 0 := by decide
  have hk1 : (1 : Int32).toInt = 1 := by decide
  have hly_6_6 := htw (u_lay RX4 TX4 6) (jWc_wsX40 _ (u_in_lay (by decide)))
  have hlk_30 := (htw (.fieldLink RX4 30 "ProofServer$Json" "units" "[I") (jWr_4 _ (List.mem_of_getElem? (i := 3) rfl)))
  have hrg_a1 := jb_rng a1
  have hrg_a2 := jb_rng a2
  refine lv_iload_n hx hb dX4_areUnits_0 rfl (lv_at hl 2 rfl) ?_
  refine lv_aload_n hx hb dX4_areUnits_1 rfl (lv_at hl 3 rfl) ?_
  refine vp_callSi (W.runV (As := []) (rest := [.int a2]) ⟨hx, hb, hml, hown, hts⟩ (wJ0_length_8abf5 l dC dI ca base s.heap r3 n3) (cwV 0 hts (jgV (jWr_20 _ (List.mem_of_getElem? (i := 23) rfl)) (jWr_5 _ (List.mem_of_getElem? (i := 13) rfl)) (jWr_5 _ (List.mem_of_getElem? (i := 14) rfl)) (jWr_5 _ (List.mem_of_getElem? (i := 15) rfl)) (jWr_5 _ (List.mem_of_getElem? (i := 16) rfl))) rfl rfl rfl (by decide +kernel) ⟨by rw [← hR]; exact Nat.le_of_ble_eq_true rfl, by rw [← hR]; exact Nat.le_of_ble_eq_true rfl⟩) ⟨fun a U g mk q => by obtain ⟨q0, q1, q2, qK, q9⟩ := q; exact ⟨q0, q1, (q2.moved (Vm.Alike.refl U.vm)), jG.calling g mk a qK, q9⟩, jStr_recv hstr_r3 hh.1, fun U hU hW => ⟨rfl, hU, (hstr_r3.moved hW.alike).kept hh.1.2.1, hG.step hW hU hh.1, by omega⟩⟩ rfl rfl hl.1 rfl (lv_room (Nat.le_of_ble_eq_true rfl)) dX4_areUnits_2 ⟨Nat.zero_le _, Nat.zero_le _⟩) (fun r_1 hr_1 => ?_)
  refine lv_icmp_ne (tgt := 23) hx hb dX4_areUnits_5 (by decide) (fun c_2 => ?_) (fun c_2 => ?_)
  · skip
    have c_2' : a2.toInt ≠ r_1.toInt := jb_ne (rfl) (rfl) c_2
    refine lv_iconst (v := 0) hx hb dX4_areUnits_23 (by decide) ?_
    rw [hQ]
    exact W.zret (v := 0) hx hb hr (jb_nz (Or.inl rfl)) (fun t ht hW => ⟨⟨0, (), rfl, ⟨(Or.inl rfl), trivial⟩, hh.rt (M1 := []) [] rfl ht⟩, by rw [ht]; try exact hh.1.1, fun q h9 hq => by rw [ht]; try exact hh.1.2.1 q h9 hq⟩) hh.1.2.2 dX4_areUnits_24
  · skip
    have c_2' : a2.toInt = r_1.toInt := jb_ne_n (rfl) (rfl) c_2
    refine lv_iload_n hx hb dX4_areUnits_8 rfl (lv_at hl 1 rfl) ?_
    refine lv_if_lt (tgt := 23) hx hb dX4_areUnits_9 (by decide) (fun c_3 => ?_) (fun c_3 => ?_)
    · skip
      have c_3' : a1.toInt < 0 := jb_lt (rfl) ((by decide)) c_3
      refine lv_iconst (v := 0) hx hb dX4_areUnits_23 (by decide) ?_
      rw [hQ]
      exact W.zret (v := 0) hx hb hr (jb_nz (Or.inl rfl)) (fun t ht hW => ⟨⟨0, (), rfl, ⟨(Or.inl rfl), trivial⟩, hh.rt (M1 := []) [] rfl ht⟩, by rw [ht]; try exact hh.1.1, fun q h9 hq => by rw [ht]; try exact hh.1.2.1 q h9 hq⟩) hh.1.2.2 dX4_areUnits_24
    · skip
      have c_3' : a1.toInt ≥ 0 := jb_lt_n (rfl) ((by decide)) c_3
      refine lv_iload_n hx hb dX4_areUnits_12 rfl (lv_at hl 1 rfl) ?_
      refine lv_iload_n hx hb dX4_areUnits_13 rfl (lv_at hl 2 rfl) ?_
      refine lv_iadd hx hb dX4_areUnits_14 ?_
      refine lv_topi (fun z_4 ez_4 => ?_)
      have hz_4 : z_4.toInt = a1.toInt + a2.toInt := by rw [ez_4]; exact jb_iadd2 (rfl) (rfl) (by omega)
      refine lv_aload_n hx hb dX4_areUnits_15 rfl (lv_at hl 0 rfl) ?_
      obtain ⟨v_5, hv_5, hh_6⟩ := hh.pin (C := RX4) (T := TX4) (N := 12) hB6 rfl (by decide) hg_r0 (i := 6) (by decide) rfl
      clear hh
      obtain ⟨units_7, rfl, hg_units_7⟩ := hv_5
      refine j7_read hx hb hown hK (C := RX4) (T := TX4) (N := 12) rfl hly_6_6 hlk_30 (hh_6.at 0 rfl) dX4_areUnits_16 ?_
      refine j7_len hx hb hK hh_6 hB146 1 rfl (by decide) hg_units_7 (by omega) dX4_areUnits_19 (fun z_8 hz_8 => ?_)
      refine lv_icmp_le (tgt := 25) hx hb dX4_areUnits_20 (by decide) (fun c_9 => ?_) (fun c_9 => ?_)
      · skip
        have c_9' : z_4.toInt ≤ z_8.toInt := jb_le (rfl) (rfl) c_9
        refine lv_iconst (v := 0) hx hb dX4_areUnits_25 (by decide) ?_
        refine lv_istore (lv' := [(4, .int 0), (0, .ref r0), (1, .int a1), (2, .int a2), (3, .ref r3)]) hx hb dX4_areUnits_26 hl (by decide) rfl (fun ls hl => ?_)
        have L28 : ∀ (N : Nat) (v4_10 : Int32) (H_10 : Heap) (locs_10 : List Loc), jSt (dC, dI) B base G0 G0 EX4_areUnits s.heap 0 0 [(r0, 6, 6, .ref units_7)] [] [] H_10 locs_10 → (0 ≤ v4_10.toInt) → (((a2.toInt - v4_10.toInt).toNat : Int) : Int) < N → ∀ ls : Array Slot, lv_has ls 5 [(0, .ref r0), (1, .int a1), (2, .int a2), (3, .ref r3), (4, .int v4_10)] → W p l e R s m ([.ref r0, .int a1, .int a2, .ref r3] : List Value).toArray below meth c H_10 locs_10 0 0 Q (F0 m 28 ls []) := by
          intro N
          induction N with
          | zero => intro v4_10 H_10 locs_10 hh_10  hi_10 hm; exact absurd hm (by omega)
          | succ N L28 =>
            intro v4_10 H_10 locs_10 hh_10  hi_10 hm_10 ls hl
            refine lv_iload hx hb dX4_areUnits_28 (lv_at hl 4 rfl) ?_
            refine lv_iload_n hx hb dX4_areUnits_30 rfl (lv_at hl 2 rfl) ?_
            refine lv_icmp_ge (tgt := 60) hx hb dX4_areUnits_31 (by decide) (fun c_11 => ?_) (fun c_11 => ?_)
            · skip
              have c_11' : v4_10.toInt ≥ a2.toInt := jb_ge (rfl) (rfl) c_11
              refine lv_iconst (v := 1) hx hb dX4_areUnits_60 (by decide) ?_
              rw [hQ]
              exact W.zret (v := 1) hx hb hr (jb_nz (Or.inr rfl)) (fun t ht hW => ⟨⟨1, (), rfl, ⟨(Or.inr rfl), trivial⟩, hh_10.rt (M1 := []) [] rfl ht⟩, by rw [ht]; try exact hh_10.1.1, fun q h9 hq => by rw [ht]; try exact hh_10.1.2.1 q h9 hq⟩) hh_10.1.2.2 dX4_areUnits_61
            · skip
              have c_11' : v4_10.toInt < a2.toInt := jb_ge_n (rfl) (rfl) c_11
              refine lv_aload_n hx hb dX4_areUnits_34 rfl (lv_at hl 0 rfl) ?_
              refine j7_read hx hb hown hK (C := RX4) (T := TX4) (N := 12) rfl hly_6_6 hlk_30 (hh_10.at 0 rfl) dX4_areUnits_35 ?_
              refine lv_iload_n hx hb dX4_areUnits_38 rfl (lv_at hl 1 rfl) ?_
              refine lv_iload hx hb dX4_areUnits_39 (lv_at hl 4 rfl) ?_
              refine lv_iadd hx hb dX4_areUnits_41 ?_
              refine lv_topi (fun z_12 ez_12 => ?_)
              have hz_12 : z_12.toInt = a1.toInt + v4_10.toInt := by rw [ez_12]; exact jb_iadd2 (rfl) (rfl) (by omega)
              refine j7_iald hx hb hK hh_10 hB146 1 rfl (by decide) hg_units_7 (x := z_12.toInt) (rfl) (by omega) dX4_areUnits_42 (fun z_13 (hz_13 : True) => ?_)
              refine lv_aload_n hx hb dX4_areUnits_43 rfl (lv_at hl 3 rfl) ?_
              refine lv_iload hx hb dX4_areUnits_44 (lv_at hl 4 rfl) ?_
              refine vp_callSi (W.runV (As := [.int v4_10]) (rest := [.int z_13]) ⟨hx, hb, hml, hown, hts⟩ (wJ0_charAt_5068e l dC dI ca base H_10 r3 n3 v4_10) (cwV 1 hts (jgV (jWr_21 _ (List.mem_of_getElem? (i := 0) rfl)) (jWr_6 _ (List.mem_of_getElem? (i := 1) rfl)) (jWr_6 _ (List.mem_of_getElem? (i := 2) rfl)) (jWr_5 _ (List.mem_of_getElem? (i := 15) rfl)) (jWr_6 _ (List.mem_of_getElem? (i := 3) rfl))) rfl rfl rfl (by decide +kernel) ⟨by rw [← hR]; exact Nat.le_of_ble_eq_true rfl, by rw [← hR]; exact Nat.le_of_ble_eq_true rfl⟩) ⟨fun a U g mk q => by obtain ⟨q0, q1, q2, qK, q9⟩ := q; exact ⟨q0, q1, (q2.moved (Vm.Alike.refl U.vm)), jG.calling g mk a qK, q9⟩, jStr_recv hstr_r3 hh_10.1, fun U hU hW => ⟨rfl, hU, (hstr_r3.moved hW.alike).kept hh_10.1.2.1, hG.step hW hU hh_10.1, ⟨by omega, by omega, by omega⟩⟩⟩ rfl rfl hl.1 rfl (lv_room (Nat.le_of_ble_eq_true rfl)) dX4_areUnits_46 ⟨Nat.zero_le _, Nat.zero_le _⟩) (fun r_14 hr_14 => ?_)
              refine lv_icmp_eq (tgt := 54) hx hb dX4_areUnits_49 (by decide) (fun c_15 => ?_) (fun c_15 => ?_)
              · skip
                have c_15' : z_13.toInt = r_14.toInt := jb_eq (rfl) (rfl) c_15
                obtain ⟨z_16, ez_16⟩ : ∃ y : Int32, y = v4_10 + 1 := ⟨_, rfl⟩
                refine lv_iinc (v := z_16) (lv' := [(4, .int z_16), (0, .ref r0), (1, .int a1), (2, .int a2), (3, .ref r3)]) hx hb dX4_areUnits_54 hl (k := 4) rfl (by rw [ez_16]; rfl) (by decide) rfl (fun ls hl => ?_)
                have hz_16 : z_16.toInt = v4_10.toInt + 1 := by rw [ez_16]; exact jb_iadd2 (rfl) (by decide) (by omega)
                refine lv_goto (tgt := 28) hx hb dX4_areUnits_57 (by decide) ?_
                exact L28 z_16 _ _ hh_10 (by first | omega | rfl | assumption | decide | exact Or.inl rfl | exact Or.inr rfl | (simp only; omega)) (by omega) _ (lv_sub hl [1, 2, 3, 4, 0] rfl)
              · skip
                have c_15' : z_13.toInt ≠ r_14.toInt := jb_eq_n (rfl) (rfl) c_15
                refine lv_iconst (v := 0) hx hb dX4_areUnits_52 (by decide) ?_
                rw [hQ]
                exact W.zret (v := 0) hx hb hr (jb_nz (Or.inl rfl)) (fun t ht hW => ⟨⟨0, (), rfl, ⟨(Or.inl rfl), trivial⟩, hh_10.rt (M1 := []) [] rfl ht⟩, by rw [ht]; try exact hh_10.1.1, fun q h9 hq => by rw [ht]; try exact hh_10.1.2.1 q h9 hq⟩) hh_10.1.2.2 dX4_areUnits_53
        exact L28 (((a2.toInt - (0 : Int32).toInt).toNat : Int) : Int).toNat.succ 0 _ _ hh_6 (by first | omega | rfl | assumption | decide | exact Or.inl rfl | exact Or.inr rfl | (simp only; omega)) (by omega) _ (lv_sub hl [1, 2, 3, 4, 0] rfl)
      · skip
        have c_9' : z_4.toInt > z_8.toInt := jb_le_n (rfl) (rfl) c_9
        refine lv_iconst (v := 0) hx hb dX4_areUnits_23 (by decide) ?_
        rw [hQ]
        exact W.zret (v := 0) hx hb hr (jb_nz (Or.inl rfl)) (fun t ht hW => ⟨⟨0, (), rfl, ⟨(Or.inl rfl), trivial⟩, hh_6.rt (M1 := []) [] rfl ht⟩, by rw [ht]; try exact hh_6.1.1, fun q h9 hq => by rw [ht]; try exact hh_6.1.2.1 q h9 hq⟩) hh_6.1.2.2 dX4_areUnits_24
set_option maxHeartbeats 4000000 in
set_option maxRecDepth 20000 in
theorem uX4_member (l : Launch) (dC : Nat → ClassId) (dI : Nat → Nat → Nat) (ca : Nat → ClassId) (base : Nat) (B : jF) (hB : jBok B) (hAp : jAp (dC, dI)) (hB6 : ∀ n G a H, B 6 n G a H ↔ jOb (dC, dI) 6 12 (F6 n G) a H) (hB140 : ∀ n G a H, B 140 n G a H ↔ jAr (dC, dI) (ca 1) (fun j z => True) n a H) (hB141 : ∀ n G a H, B 141 n G a H ↔ jAr (dC, dI) (ca 1) (fun j z => True) n a H) (hB142 : ∀ n G a H, B 142 n G a H ↔ jAr (dC, dI) (ca 1) (fun j z => True) n a H) (hB143 : ∀ n G a H, B 143 n G a H ↔ jAr (dC, dI) (ca 1) (fun j z => True) n a H) (hB144 : ∀ n G a H, B 144 n G a H ↔ jAr (dC, dI) (ca 1) (fun j z => 0 ≤ z.toInt ∧ z.toInt ≤ 3000) n a H) (hB145 : ∀ n G a H, B 145 n G a H ↔ jAr (dC, dI) (ca 1) (fun j z => True) n a H) (hB146 : ∀ n G a H, B 146 n G a H ↔ jAr (dC, dI) (ca 1) (fun j z => True) n a H) (G0 : jT) (H0 : Heap) (r0 : Nat) (a1 : Int32) (r2 : Nat) (n2 : Nat) : Met l yX4_member (jw yX4_member cX4_member 6 (some .int)) ({ frames := 5, cells := 0, slots := 0, locals := 165 }) (va_Pc [.ref r0, .int a1, .ref r2] (fun U => U.heap = H0 ∧ jX B base G0 [] H0 ∧ jG dC dI ca base U ∧ jStr base r2 n2 U H0 ∧ G0 r0 = some (6, 0) ∧ jP (dC, dI) G0 H0 [] ∧ n2 ≤ 1000)) (va_Qi (S := Unit) (fun r u => (-1 ≤ r.toInt ∧ r.toInt ≤ 1501)) (fun u t => jRt (dC, dI) B base G0 EX4_member H0 [] t.heap) (jA base)) 0 0 (jA base) := by
  refine Met.ofW (cc := cX4_member) (maxL := 6) (ret := (some .int)) (by decide) rfl ?_
  intro p e s m args below meth c s₁ Bd hml hv
  obtain ⟨rfl, hH0, hX, hG, hstr_r2, hg_r0, hP0, hp0⟩ := hv
  have hK := hG.1
  have hx := Bd.exec
  have hb := Bd.bytes
  have hr := Bd.returns
  have hts := atoms_spec (ws := (jw yX4_member cX4_member 6 (some .int))) Bd.pre
  have htw : ∀ w ∈ jWl, w.before _ s = true := fun w h => hts w (List.mem_cons_of_mem _ h)
  have hown : s.vm.findClass RX4 = some m.cls := findClass_of_methodNamed Bd.named
  have hlocks := Bd.notSynchronized
  obtain ⟨Q, hQ⟩ : ∃ Q, Q = MQ below (va_Qi (S := Unit) (fun r u => (-1 ≤ r.toInt ∧ r.toInt ≤ 1501)) (fun u t => jRt (dC, dI) B base G0 EX4_member H0 [] t.heap) (jA base)) ([.ref r0, .int a1, .ref r2] : List Value).toArray s 0 0 (jA base) := ⟨_, rfl⟩
  rw [← hQ]
  have hl := lv_entry ([.ref r0, .int a1, .ref r2]) (n := 6) (Nat.le_of_ble_eq_true rfl)
  rw [lg_entry_eq]
  generalize (lg_sl ([.ref r0, .int a1, .ref r2]) ++ List.replicate (6 - (lg_sl ([.ref r0, .int a1, .ref r2])).length) Slot.unset).toArray = ls at hl ⊢
  have hl : lv_has ls 6 [(0, .ref r0), (1, .int a1), (2, .ref r2)] := hl
  generalize hR : (headSpec (jw yX4_member cX4_member 6 (some .int)) ({ frames := 5, cells := 0, slots := 0, locals := 165 })).room = R
  subst hH0
  have hh : jSt (dC, dI) B base G0 G0 EX4_member s.heap 0 0 [] [] [] s.heap [] := jSt.start hX hP0 jMc.nil jIs.nil
  clear hX hP0
  have hkm1 : ((-1) : Int32).toInt = (-1) := by decide
  have hk0 : (0 : Int32).toInt = 0 := by decide
  have hk1 : (1 : Int32).toInt = 1 := by decide
  have hly_6_1 := htw (u_lay RX4 TX4 1) (jWc_wsX40 _ (u_in_lay (by decide)))
  have hly_6_2 := htw (u_lay RX4 TX4 2) (jWc_wsX40 _ (u_in_lay (by decide)))
  have hly_6_3 := htw (u_lay RX4 TX4 3) (jWc_wsX40 _ (u_in_lay (by decide)))
  have hly_6_4 := htw (u_lay RX4 TX4 4) (jWc_wsX40 _ (u_in_lay (by decide)))
  have hly_6_5 := htw (u_lay RX4 TX4 5) (jWc_wsX40 _ (u_in_lay (by decide)))
  have hly_6_7 := htw (u_lay RX4 TX4 7) (jWc_wsX40 _ (u_in_lay (by decide)))
  have hlk_15 := (htw (.fieldLink RX4 15 "ProofServer$Json" "firsts" "[I") (jWr_3 _ (List.mem_of_getElem? (i := 22) rfl)))
  have hlk_18 := (htw (.fieldLink RX4 18 "ProofServer$Json" "sizes" "[I") (jWr_3 _ (List.mem_of_getElem? (i := 23) rfl)))
  have hlk_50 := (htw (.fieldLink RX4 50 "ProofServer$Json" "values" "I") (jWr_19 _ (List.mem_of_getElem? (i := 13) rfl)))
  have hlk_24 := (htw (.fieldLink RX4 24 "ProofServer$Json" "keyFirsts" "[I") (jWr_4 _ (List.mem_of_getElem? (i := 1) rfl)))
  have hlk_27 := (htw (.fieldLink RX4 27 "ProofServer$Json" "keySizes" "[I") (jWr_4 _ (List.mem_of_getElem? (i := 2) rfl)))
  have hlk_21 := (htw (.fieldLink RX4 21 "ProofServer$Json" "nexts" "[I") (jWr_4 _ (List.mem_of_getElem? (i := 0) rfl)))
  have hrg_a1 := jb_rng a1
  refine lv_aload_n hx hb dX4_member_0 rfl (lv_at hl 0 rfl) ?_
  refine lv_iload_n hx hb dX4_member_1 rfl (lv_at hl 1 rfl) ?_
  obtain ⟨v_3, hv_3, hh_4⟩ := hh.pin (C := RX4) (T := TX4) (N := 12) hB6 rfl (by decide) hg_r0 (i := 7) (by decide) rfl
  obtain ⟨values_5, rfl, hlovalues_5, hhivalues_5⟩ := hv_3
  refine va_calli (A0 := jA base) (H0 := s.heap) (va_runV (As := [.int a1]) (rest := []) ⟨hx, hb, hml, hown, hts⟩ (uX4_kindOf l dC dI ca base B hB hAp hB6 hB140 G0 s.heap r0 a1 values_5) (cwV 1 hts (jgV (jWr_23 _ (List.mem_of_getElem? (i := 14) rfl)) (jWr_23 _ (List.mem_of_getElem? (i := 15) rfl)) (jWr_23 _ (List.mem_of_getElem? (i := 16) rfl)) (jWr_1 _ (List.mem_of_getElem? (i := 22) rfl)) (jWr_23 _ (List.mem_of_getElem? (i := 17) rfl))) rfl rfl rfl (by decide +kernel) ⟨by rw [← hR]; exact Nat.le_of_ble_eq_true rfl, by rw [← hR]; exact Nat.le_of_ble_eq_true rfl⟩) ⟨fun a U g mk q => by obtain ⟨q0, q1, q2, qK, q10, q11, q12⟩ := q; exact ⟨q0, q1, q2, jG.calling g mk a qK, q10, q11, q12⟩, hh_4.recv (C := RX4) (T := TX4) (N := 12) hB6 rfl (by decide) hg_r0 hK, fun U hU hW => ⟨rfl, hU, hh_4.2.1, hG.step hW hU hh_4.1, hg_r0, (hh_4.2.2.1.sub (L1 := [(r0, 6, 7, .int values_5)]) [0] rfl), by first | omega | (refine ⟨?_, ?_⟩ <;> (first | omega | rfl | assumption | decide | exact Or.inl rfl | exact Or.inr rfl | (simp only; omega)))⟩⟩ rfl rfl hl.1 rfl (lv_room (Nat.le_of_ble_eq_true rfl)) dX4_member_2 ⟨Nat.zero_le _, Nat.zero_le _⟩) hh_4.1 (fun q _ h => h) (fun q h => h) (fun r_2 u_1 t_1 H_1 locs_1 ht_1 hvm_1 hr_2 hb_1 hz_1 hk_1 hS_1 => ?_)
  rw [ht_1] at hb_1
  obtain ⟨hb_11, hb_12, hb_13, hb_14, hb_15⟩ := hb_1
  have hh_1 : jSt (dC, dI) B base G0 G0 EX4_member s.heap 0 0 [(r0, 6, 7, .int values_5)] [] [] H_1 locs_1 := ((hh_4.call hb_11 hb_12 hb_13 hb_14 hS_1 rfl (L1 := [(r0, 6, 7, .int values_5)]) [0] rfl rfl (M1 := []) [] rfl rfl (I1 := []) [] rfl rfl).more hb_15)
  clear hh_4 ht_1 hvm_1 hz_1 hk_1 hS_1 hb_11 hb_12 hb_13 hb_14 hb_15
  refine lv_iconst (v := 1) hx hb dX4_member_5 (by decide) ?_
  refine lv_icmp_eq (tgt := 11) hx hb dX4_member_6 (by decide) (fun c_6 => ?_) (fun c_6 => ?_)
  · skip
    have c_6' : r_2.toInt = 1 := jb_eq (rfl) ((by decide)) c_6
    first | (have hr_2q := hr_2.resolve_left (by omega); clear hr_2) | (have hr_2q := hr_2.resolve_right (by omega); clear hr_2) | try clear hr_2
    refine lv_iconst (v := (-1)) hx hb dX4_member_11 (by decide) ?_
    refine lv_istore_n (lv' := [(3, .int (-1)), (0, .ref r0), (1, .int a1), (2, .ref r2)]) hx hb dX4_member_12 rfl hl (by decide) rfl (fun ls hl => ?_)
    refine lv_aload_n hx hb dX4_member_13 rfl (lv_at hl 1 rfl) ?_
    obtain ⟨v_7, hv_7, hh_8⟩ := hh_1.pin (C := RX4) (T := TX4) (N := 12) hB6 rfl (by decide) hg_r0 (i := 1) (by decide) rfl
    clear hh_1
    obtain ⟨firsts_9, rfl, hg_firsts_9⟩ := hv_7
    refine j7_read hx hb hown hK (C := RX4) (T := TX4) (N := 12) rfl hly_6_1 hlk_15 (hh_8.at 0 rfl) dX4_member_14 ?_
    refine lv_iload_n hx hb dX4_member_17 rfl (lv_at hl 2 rfl) ?_
    refine j7_iald hx hb hK hh_8 hB141 1 rfl (by decide) hg_firsts_9 (x := a1.toInt) (rfl) (by omega) dX4_member_18 (fun z_10 (hz_10 : True) => ?_)
    refine lv_istore (lv' := [(4, .int z_10), (3, .int (-1)), (0, .ref r0), (1, .int a1), (2, .ref r2)]) hx hb dX4_member_19 hl (by decide) rfl (fun ls hl => ?_)
    refine lv_iconst (v := 0) hx hb dX4_member_21 (by decide) ?_
    refine lv_istore (lv' := [(5, .int 0), (4, .int z_10), (3, .int (-1)), (0, .ref r0), (1, .int a1), (2, .ref r2)]) hx hb dX4_member_22 hl (by decide) rfl (fun ls hl => ?_)
    obtain ⟨v_11, hv_11, hh_12⟩ := hh_8.pin (C := RX4) (T := TX4) (N := 12) hB6 rfl (by decide) hg_r0 (i := 2) (by decide) rfl
    obtain ⟨sizes_13, rfl, hg_sizes_13⟩ := hv_11
    obtain ⟨f_sizes_14, hh_14⟩ := hh_12.cpin hB142 (by decide) (by decide) hg_sizes_13
    clear hh_12
    have L24 : ∀ (N : Nat) (v3_15 : Int32) (v4_15 : Int32) (v5_15 : Int32) (H_15 : Heap) (locs_15 : List Loc), jSt (dC, dI) B base G0 G0 EX4_member s.heap 0 0 [(r0, 6, 2, .ref sizes_13), (r0, 6, 1, .ref firsts_9), (r0, 6, 7, .int values_5)] [(sizes_13, 142, 1502, ca 1, f_sizes_14)] [] H_15 locs_15 → (0 ≤ v5_15.toInt ∧ -1 ≤ v3_15.toInt ∧ v3_15.toInt ≤ 1501) → ((((f_sizes_14 (a1.toInt).toNat).toInt - v5_15.toInt).toNat : Int) : Int) < N → ∀ ls : Array Slot, lv_has ls 6 [(0, .ref r0), (1, .int a1), (2, .ref r2), (3, .int v3_15), (4, .int v4_15), (5, .int v5_15)] → W p l e R s m ([.ref r0, .int a1, .ref r2] : List Value).toArray below meth c H_15 locs_15 0 0 Q (F0 m 24 ls []) := by
      intro N
      induction N with
      | zero => intro v3_15 v4_15 v5_15 H_15 locs_15 hh_15  hi_15 hm; exact absurd hm (by omega)
      | succ N L24 =>
        intro v3_15 v4_15 v5_15 H_15 locs_15 hh_15  hi_15 hm_15 ls hl
        obtain ⟨hi_15_0, hi_15_1, hi_15_2⟩ := hi_15
        have hrs := jb_rng (f_sizes_14 (a1.toInt).toNat)
        refine lv_iload hx hb dX4_member_24 (lv_at hl 5 rfl) ?_
        refine lv_aload_n hx hb dX4_member_26 rfl (lv_at hl 0 rfl) ?_
        refine j7_read hx hb hown hK (C := RX4) (T := TX4) (N := 12) rfl hly_6_2 hlk_18 (hh_15.at 0 rfl) dX4_member_27 ?_
        refine lv_iload_n hx hb dX4_member_30 rfl (lv_at hl 1 rfl) ?_
        refine j7_ialdM hx hb hK hh_15 hB142 1 rfl (by decide) hg_sizes_13 (x := a1.toInt) (rfl) (by omega) (j := 0) rfl dX4_member_31 (fun z_16 ez_16 (hz_16 : True) => ?_)
        have hqz_16 : z_16.toInt = (f_sizes_14 (a1.toInt).toNat).toInt := by rw [ez_16]
        refine lv_icmp_ge (tgt := 89) hx hb dX4_member_32 (by decide) (fun c_17 => ?_) (fun c_17 => ?_)
        · skip
          have c_17' : v5_15.toInt ≥ z_16.toInt := jb_ge (rfl) (rfl) c_17
          refine lv_iload_n hx hb dX4_member_89 rfl (lv_at hl 3 rfl) ?_
          rw [hQ]
          exact W.iret (v := v3_15) hx hb hr (fun t ht hW => ⟨⟨v3_15, (), rfl, by first | omega | (refine ⟨?_, ?_⟩ <;> (first | omega | rfl | assumption | decide | exact Or.inl rfl | exact Or.inr rfl | (simp only; omega))), hh_15.rt (M1 := []) [] rfl ht⟩, by rw [ht]; try exact hh_15.1.1, fun q h9 hq => by rw [ht]; try exact hh_15.1.2.1 q h9 hq⟩) hh_15.1.2.2 dX4_member_90
        · skip
          have c_17' : v5_15.toInt < z_16.toInt := jb_ge_n (rfl) (rfl) c_17
          refine lv_iload hx hb dX4_member_35 (lv_at hl 4 rfl) ?_
          refine lv_if_lt (tgt := 89) hx hb dX4_member_37 (by decide) (fun c_18 => ?_) (fun c_18 => ?_)
          · skip
            have c_18' : v4_15.toInt < 0 := jb_lt (rfl) ((by decide)) c_18
            refine lv_iload_n hx hb dX4_member_89 rfl (lv_at hl 3 rfl) ?_
            rw [hQ]
            exact W.iret (v := v3_15) hx hb hr (fun t ht hW => ⟨⟨v3_15, (), rfl, by first | omega | (refine ⟨?_, ?_⟩ <;> (first | omega | rfl | assumption | decide | exact Or.inl rfl | exact Or.inr rfl | (simp only; omega))), hh_15.rt (M1 := []) [] rfl ht⟩, by rw [ht]; try exact hh_15.1.1, fun q h9 hq => by rw [ht]; try exact hh_15.1.2.1 q h9 hq⟩) hh_15.1.2.2 dX4_member_90
          · skip
            have c_18' : v4_15.toInt ≥ 0 := jb_lt_n (rfl) ((by decide)) c_18
            refine lv_iload hx hb dX4_member_40 (lv_at hl 4 rfl) ?_
            refine lv_aload_n hx hb dX4_member_42 rfl (lv_at hl 0 rfl) ?_
            refine j7_read hx hb hown hK (C := RX4) (T := TX4) (N := 12) rfl hly_6_7 hlk_50 (hh_15.at 2 rfl) dX4_member_43 ?_
            refine lv_icmp_ge (tgt := 89) hx hb dX4_member_46 (by decide) (fun c_19 => ?_) (fun c_19 => ?_)
            · skip
              have c_19' : v4_15.toInt ≥ values_5.toInt := jb_ge (rfl) (rfl) c_19
              refine lv_iload_n hx hb dX4_member_89 rfl (lv_at hl 3 rfl) ?_
              rw [hQ]
              exact W.iret (v := v3_15) hx hb hr (fun t ht hW => ⟨⟨v3_15, (), rfl, by first | omega | (refine ⟨?_, ?_⟩ <;> (first | omega | rfl | assumption | decide | exact Or.inl rfl | exact Or.inr rfl | (simp only; omega))), hh_15.rt (M1 := []) [] rfl ht⟩, by rw [ht]; try exact hh_15.1.1, fun q h9 hq => by rw [ht]; try exact hh_15.1.2.1 q h9 hq⟩) hh_15.1.2.2 dX4_member_90
            · skip
              have c_19' : v4_15.toInt < values_5.toInt := jb_ge_n (rfl) (rfl) c_19
              refine lv_aload_n hx hb dX4_member_49 rfl (lv_at hl 0 rfl) ?_
              refine lv_aload_n hx hb dX4_member_50 rfl (lv_at hl 0 rfl) ?_
              obtain ⟨v_20, hv_20, hh_21⟩ := hh_15.pin (C := RX4) (T := TX4) (N := 12) hB6 rfl (by decide) hg_r0 (i := 4) (by decide) rfl
              clear hh_15
              obtain ⟨keyFirsts_22, rfl, hg_keyFirsts_22⟩ := hv_20
              refine j7_read hx hb hown hK (C := RX4) (T := TX4) (N := 12) rfl hly_6_4 hlk_24 (hh_21.at 0 rfl) dX4_member_51 ?_
              refine lv_iload hx hb dX4_member_54 (lv_at hl 4 rfl) ?_
              refine j7_iald hx hb hK hh_21 hB144 1 rfl (by decide) hg_keyFirsts_22 (x := v4_15.toInt) (rfl) (by omega) dX4_member_56 (fun z_23 (hz_23 : 0 ≤ z_23.toInt ∧ z_23.toInt ≤ 3000) => ?_)
              refine lv_aload_n hx hb dX4_member_57 rfl (lv_at hl 0 rfl) ?_
              obtain ⟨v_24, hv_24, hh_25⟩ := hh_21.pin (C := RX4) (T := TX4) (N := 12) hB6 rfl (by decide) hg_r0 (i := 5) (by decide) rfl
              clear hh_21
              obtain ⟨keySizes_26, rfl, hg_keySizes_26⟩ := hv_24
              refine j7_read hx hb hown hK (C := RX4) (T := TX4) (N := 12) rfl hly_6_5 hlk_27 (hh_25.at 0 rfl) dX4_member_58 ?_
              refine lv_iload hx hb dX4_member_61 (lv_at hl 4 rfl) ?_
              refine j7_iald hx hb hK hh_25 hB145 1 rfl (by decide) hg_keySizes_26 (x := v4_15.toInt) (rfl) (by omega) dX4_member_63 (fun z_27 (hz_27 : True) => ?_)
              refine lv_aload_n hx hb dX4_member_64 rfl (lv_at hl 2 rfl) ?_
              refine va_calli (A0 := jA base) (H0 := s.heap) (va_runV (As := [.int z_23, .int z_27, .ref r2]) (rest := []) ⟨hx, hb, hml, hown, hts⟩ (uX4_areUnits l dC dI ca base B hB hAp hB6 hB146 G0 H_15 r0 z_23 z_27 r2 n2) (cwV 3 hts (jgV (jWr_23 _ (List.mem_of_getElem? (i := 18) rfl)) (jWr_23 _ (List.mem_of_getElem? (i := 19) rfl)) (jWr_23 _ (List.mem_of_getElem? (i := 20) rfl)) (jWr_1 _ (List.mem_of_getElem? (i := 22) rfl)) (jWr_23 _ (List.mem_of_getElem? (i := 21) rfl))) rfl rfl rfl (by decide +kernel) ⟨by rw [← hR]; exact Nat.le_of_ble_eq_true rfl, by rw [← hR]; exact Nat.le_of_ble_eq_true rfl⟩) ⟨fun a U g mk q => by obtain ⟨q0, q1, q2, qK, q10, q11, q12, q13⟩ := q; exact ⟨q0, q1, q2, jG.calling g mk a qK, (q10.moved (Vm.Alike.refl U.vm)), q11, q12, q13⟩, hh_25.recv (C := RX4) (T := TX4) (N := 12) hB6 rfl (by decide) hg_r0 hK, fun U hU hW => ⟨rfl, hU, hh_25.2.1, hG.step hW hU hh_25.1, (hstr_r2.moved hW.alike).kept hh_25.1.2.1, hg_r0, jP.nil, by first | omega | (refine ⟨?_, ?_⟩ <;> (first | omega | rfl | assumption | decide | exact Or.inl rfl | exact Or.inr rfl | (simp only; omega)))⟩⟩ rfl rfl hl.1 rfl (lv_room (Nat.le_of_ble_eq_true rfl)) dX4_member_65 ⟨Nat.zero_le _, Nat.zero_le _⟩) hh_25.1 (fun q _ h => h) (fun q h => h) (fun r_29 u_28 t_28 H_28 locs_28 ht_28 hvm_28 hr_29 hb_28 hz_28 hk_28 hS_28 => ?_)
              rw [ht_28] at hb_28
              obtain ⟨hb_281, hb_282, hb_283, hb_284, hb_285⟩ := hb_28
              have hh_28 : jSt (dC, dI) B base G0 G0 EX4_member s.heap 0 0 [(r0, 6, 5, .ref keySizes_26), (r0, 6, 4, .ref keyFirsts_22), (r0, 6, 2, .ref sizes_13), (r0, 6, 1, .ref firsts_9), (r0, 6, 7, .int values_5)] [(sizes_13, 142, 1502, ca 1, f_sizes_14)] [] H_28 locs_28 := ((hh_25.call hb_281 hb_282 hb_283 hb_284 hS_28 rfl (L1 := [(r0, 6, 5, .ref keySizes_26), (r0, 6, 4, .ref keyFirsts_22), (r0, 6, 2, .ref sizes_13), (r0, 6, 1, .ref firsts_9), (r0, 6, 7, .int values_5)]) [0, 1, 2, 3, 4] rfl rfl (M1 := [(sizes_13, 142, 1502, ca 1, f_sizes_14)]) [0] rfl rfl (I1 := []) [] rfl rfl).more hb_285)
              clear hh_25 ht_28 hvm_28 hz_28 hk_28 hS_28 hb_281 hb_282 hb_283 hb_284 hb_285
              obtain ⟨hr_29b, hr_29p⟩ := hr_29
              have hr_29' := jb_01 hr_29b
              refine lv_if_eq (tgt := 74) hx hb dX4_member_68 (by decide) (fun c_30 => ?_) (fun c_30 => ?_)
              · skip
                have c_30' : r_29.toInt = 0 := jb_eq (rfl) ((by decide)) c_30
                refine lv_aload_n hx hb dX4_member_74 rfl (lv_at hl 0 rfl) ?_
                obtain ⟨v_31, hv_31, hh_32⟩ := hh_28.pin (C := RX4) (T := TX4) (N := 12) hB6 rfl (by decide) hg_r0 (i := 3) (by decide) rfl
                clear hh_28
                obtain ⟨nexts_33, rfl, hg_nexts_33⟩ := hv_31
                refine j7_read hx hb hown hK (C := RX4) (T := TX4) (N := 12) rfl hly_6_3 hlk_21 (hh_32.at 0 rfl) dX4_member_75 ?_
                refine lv_iload hx hb dX4_member_78 (lv_at hl 4 rfl) ?_
                refine j7_iald hx hb hK hh_32 hB143 1 rfl (by decide) hg_nexts_33 (x := v4_15.toInt) (rfl) (by omega) dX4_member_80 (fun z_34 (hz_34 : True) => ?_)
                refine lv_istore (lv' := [(4, .int z_34), (0, .ref r0), (1, .int a1), (2, .ref r2), (3, .int v3_15), (5, .int v5_15)]) hx hb dX4_member_81 hl (by decide) rfl (fun ls hl => ?_)
                obtain ⟨z_35, ez_35⟩ : ∃ y : Int32, y = v5_15 + 1 := ⟨_, rfl⟩
                refine lv_iinc (v := z_35) (lv' := [(5, .int z_35), (4, .int z_34), (0, .ref r0), (1, .int a1), (2, .ref r2), (3, .int v3_15)]) hx hb dX4_member_83 hl (k := 5) rfl (by rw [ez_35]; rfl) (by decide) rfl (fun ls hl => ?_)
                have hz_35 : z_35.toInt = v5_15.toInt + 1 := by rw [ez_35]; exact jb_iadd2 (rfl) (by decide) (by omega)
                refine lv_goto (tgt := 24) hx hb dX4_member_86 (by decide) ?_
                exact L24 v3_15 z_34 z_35 _ _ (hh_32.sub (L1 := [(r0, 6, 2, .ref sizes_13), (r0, 6, 1, .ref firsts_9), (r0, 6, 7, .int values_5)]) [3, 4, 5] rfl (M1 := [(sizes_13, 142, 1502, ca 1, f_sizes_14)]) [0] rfl (I1 := []) [] rfl) (by first | omega | (refine ⟨?_, ?_, ?_⟩ <;> (first | omega | rfl | assumption | decide | exact Or.inl rfl | exact Or.inr rfl | (simp only; omega)))) (by omega) _ (lv_sub hl [2, 3, 4, 5, 1, 0] rfl)
              · skip
                have c_30' : r_29.toInt ≠ 0 := jb_eq_n (rfl) ((by decide)) c_30
                refine lv_iload hx hb dX4_member_71 (lv_at hl 4 rfl) ?_
                refine lv_istore_n (lv' := [(3, .int v4_15), (0, .ref r0), (1, .int a1), (2, .ref r2), (4, .int v4_15), (5, .int v5_15)]) hx hb dX4_member_73 rfl hl (by decide) rfl (fun ls hl => ?_)
                refine lv_aload_n hx hb dX4_member_74 rfl (lv_at hl 1 rfl) ?_
                obtain ⟨v_36, hv_36, hh_37⟩ := hh_28.pin (C := RX4) (T := TX4) (N := 12) hB6 rfl (by decide) hg_r0 (i := 3) (by decide) rfl
                clear hh_28
                obtain ⟨nexts_38, rfl, hg_nexts_38⟩ := hv_36
                refine j7_read hx hb hown hK (C := RX4) (T := TX4) (N := 12) rfl hly_6_3 hlk_21 (hh_37.at 0 rfl) dX4_member_75 ?_
                refine lv_iload hx hb dX4_member_78 (lv_at hl 4 rfl) ?_
                refine j7_iald hx hb hK hh_37 hB143 1 rfl (by decide) hg_nexts_38 (x := v4_15.toInt) (rfl) (by omega) dX4_member_80 (fun z_39 (hz_39 : True) => ?_)
                refine lv_istore (lv' := [(4, .int z_39), (3, .int v4_15), (0, .ref r0), (1, .int a1), (2, .ref r2), (5, .int v5_15)]) hx hb dX4_member_81 hl (by decide) rfl (fun ls hl => ?_)
                obtain ⟨z_40, ez_40⟩ : ∃ y : Int32, y = v5_15 + 1 := ⟨_, rfl⟩
                refine lv_iinc (v := z_40) (lv' := [(5, .int z_40), (4, .int z_39), (3, .int v4_15), (0, .ref r0), (1, .int a1), (2, .ref r2)]) hx hb dX4_member_83 hl (k := 5) rfl (by rw [ez_40]; rfl) (by decide) rfl (fun ls hl => ?_)
                have hz_40 : z_40.toInt = v5_15.toInt + 1 := by rw [ez_40]; exact jb_iadd2 (rfl) (by decide) (by omega)
                refine lv_goto (tgt := 24) hx hb dX4_member_86 (by decide) ?_
                exact L24 v4_15 z_39 z_40 _ _ (hh_37.sub (L1 := [(r0, 6, 2, .ref sizes_13), (r0, 6, 1, .ref firsts_9), (r0, 6, 7, .int values_5)]) [3, 4, 5] rfl (M1 := [(sizes_13, 142, 1502, ca 1, f_sizes_14)]) [0] rfl (I1 := []) [] rfl) (by first | omega | (refine ⟨?_, ?_, ?_⟩ <;> (first | omega | rfl | assumption | decide | exact Or.inl rfl | exact Or.inr rfl | (simp only; omega)))) (by omega) _ (lv_sub hl [3, 4, 5, 2, 1, 0] rfl)
    exact L24 ((((f_sizes_14 (a1.toInt).toNat).toInt - (0 : Int32).toInt).toNat : Int) : Int).toNat.succ (-1) z_10 0 _ _ hh_14 (by first | omega | (refine ⟨?_, ?_, ?_⟩ <;> (first | omega | rfl | assumption | decide | exact Or.inl rfl | exact Or.inr rfl | (simp only; omega)))) (by omega) _ (lv_sub hl [3, 4, 5, 2, 1, 0] rfl)
  · skip
    have c_6' : r_2.toInt ≠ 1 := jb_eq_n (rfl) ((by decide)) c_6
    try clear hr_2
    refine lv_iconst (v := (-1)) hx hb dX4_member_9 (by decide) ?_
    rw [hQ]
    exact W.iret (v := (-1)) hx hb hr (fun t ht hW => ⟨⟨(-1), (), rfl, by first | omega | (refine ⟨?_, ?_⟩ <;> (first | omega | rfl | assumption | decide | exact Or.inl rfl | exact Or.inr rfl | (simp only; omega))), hh_1.rt (M1 := []) [] rfl ht⟩, by rw [ht]; try exact hh_1.1.1, fun q h9 hq => by rw [ht]; try exact hh_1.1.2.1 q h9 hq⟩) hh_1.1.2.2 dX4_member_10
set_option maxHeartbeats 4000000 in
set_option maxRecDepth 20000 in
theorem uX4_isUnits (l : Launch) (dC : Nat → ClassId) (dI : Nat → Nat → Nat) (ca : Nat → ClassId) (base : Nat) (B : jF) (hB : jBok B) (hAp : jAp (dC, dI)) (hB6 : ∀ n G a H, B 6 n G a H ↔ jOb (dC, dI) 6 12 (F6 n G) a H) (hB101 : ∀ n G a H, B 101 n G a H ↔ jAr (dC, dI) (ca 1) (fun j z => True) n a H) (hB140 : ∀ n G a H, B 140 n G a H ↔ jAr (dC, dI) (ca 1) (fun j z => True) n a H) (hB141 : ∀ n G a H, B 141 n G a H ↔ jAr (dC, dI) (ca 1) (fun j z => True) n a H) (hB142 : ∀ n G a H, B 142 n G a H ↔ jAr (dC, dI) (ca 1) (fun j z => True) n a H) (hB146 : ∀ n G a H, B 146 n G a H ↔ jAr (dC, dI) (ca 1) (fun j z => True) n a H) (G0 : jT) (H0 : Heap) (r0 : Nat) (a1 : Int32) (r2 : Nat) (n2 : Nat) : Met l yX4_isUnits (jw yX4_isUnits cX4_isUnits 4 (some .boolean)) ({ frames := 2, cells := 0, slots := 0, locals := 44 }) (va_Pc [.ref r0, .int a1, .ref r2] (fun U => U.heap = H0 ∧ jX B base G0 [] H0 ∧ jG dC dI ca base U ∧ G0 r2 = some (101, n2) ∧ G0 r0 = some (6, 0) ∧ jP (dC, dI) G0 H0 [] ∧ n2 < 2147483648)) (va_Qi (S := Unit) (fun r u => (r = 0 ∨ r = 1) ∧ (True)) (fun u t => jRt (dC, dI) B base G0 EX4_isUnits H0 [] t.heap) (jA base)) 0 0 (jA base) := by
  refine Met.ofW (cc := cX4_isUnits) (maxL := 4) (ret := (some .boolean)) (by decide) rfl ?_
  intro p e s m args below meth c s₁ Bd hml hv
  obtain ⟨rfl, hH0, hX, hG, hg_r2, hg_r0, hP0, hp0⟩ := hv
  have hK := hG.1
  have hx := Bd.exec
  have hb := Bd.bytes
  have hr := Bd.returns
  have hts := atoms_spec (ws := (jw yX4_isUnits cX4_isUnits 4 (some .boolean))) Bd.pre
  have htw : ∀ w ∈ jWl, w.before _ s = true := fun w h => hts w (List.mem_cons_of_mem _ h)
  have hown : s.vm.findClass RX4 = some m.cls := findClass_of_methodNamed Bd.named
  have hlocks := Bd.notSynchronized
  obtain ⟨Q, hQ⟩ : ∃ Q, Q = MQ below (va_Qi (S := Unit) (fun r u => (r = 0 ∨ r = 1) ∧ (True)) (fun u t => jRt (dC, dI) B base G0 EX4_isUnits H0 [] t.heap) (jA base)) ([.ref r0, .int a1, .ref r2] : List Value).toArray s 0 0 (jA base) := ⟨_, rfl⟩
  rw [← hQ]
  have hl := lv_entry ([.ref r0, .int a1, .ref r2]) (n := 4) (Nat.le_of_ble_eq_true rfl)
  rw [lg_entry_eq]
  generalize (lg_sl ([.ref r0, .int a1, .ref r2]) ++ List.replicate (4 - (lg_sl ([.ref r0, .int a1, .ref r2])).length) Slot.unset).toArray = ls at hl ⊢
  have hl : lv_has ls 4 [(0, .ref r0), (1, .int a1), (2, .ref r2)] := hl
  generalize hR : (headSpec (jw yX4_isUnits cX4_isUnits 4 (some .boolean)) ({ frames := 2, cells := 0, slots := 0, locals := 44 })).room = R
  subst hH0
  have hh : jSt (dC, dI) B base G0 G0 EX4_isUnits s.heap 0 0 [] [] [] s.heap [] := jSt.start hX hP0 jMc.nil jIs.nil
  clear hX hP0
  have hk0 : (0 : Int32).toInt = 0 := by decide
  have hk1 : (1 : Int32).toInt = 1 := by decide
  have hk3 : (3 : Int32).toInt = 3 := by decide
  have hly_6_2 := htw (u_lay RX4 TX4 2) (jWc_wsX40 _ (u_in_lay (by decide)))
  have hlk_18 := (htw (.fieldLink RX4 18 "ProofServer$Json" "sizes" "[I") (jWr_3 _ (List.mem_of_getElem? (i := 23) rfl)))
  have hrg_a1 := jb_rng a1
  refine lv_aload_n hx hb dX4_isUnits_0 rfl (lv_at hl 0 rfl) ?_
  refine lv_iload_n hx hb dX4_isUnits_1 rfl (lv_at hl 1 rfl) ?_
  obtain ⟨v_3, hv_3, hh_4⟩ := hh.pin (C := RX4) (T := TX4) (N := 12) hB6 rfl (by decide) hg_r0 (i := 7) (by decide) rfl
  obtain ⟨values_5, rfl, hlovalues_5, hhivalues_5⟩ := hv_3
  refine va_calli (A0 := jA base) (H0 := s.heap) (va_runV (As := [.int a1]) (rest := []) ⟨hx, hb, hml, hown, hts⟩ (uX4_kindOf l dC dI ca base B hB hAp hB6 hB140 G0 s.heap r0 a1 values_5) (cwV 1 hts (jgV (jWr_23 _ (List.mem_of_getElem? (i := 14) rfl)) (jWr_23 _ (List.mem_of_getElem? (i := 15) rfl)) (jWr_23 _ (List.mem_of_getElem? (i := 16) rfl)) (jWr_1 _ (List.mem_of_getElem? (i := 22) rfl)) (jWr_23 _ (List.mem_of_getElem? (i := 17) rfl))) rfl rfl rfl (by decide +kernel) ⟨by rw [← hR]; exact Nat.le_of_ble_eq_true rfl, by rw [← hR]; exact Nat.le_of_ble_eq_true rfl⟩) ⟨fun a U g mk q => by obtain ⟨q0, q1, q2, qK, q10, q11, q12⟩ := q; exact ⟨q0, q1, q2, jG.calling g mk a qK, q10, q11, q12⟩, hh_4.recv (C := RX4) (T := TX4) (N := 12) hB6 rfl (by decide) hg_r0 hK, fun U hU hW => ⟨rfl, hU, hh_4.2.1, hG.step hW hU hh_4.1, hg_r0, (hh_4.2.2.1.sub (L1 := [(r0, 6, 7, .int values_5)]) [0] rfl), by first | omega | (refine ⟨?_, ?_⟩ <;> (first | omega | rfl | assumption | decide | exact Or.inl rfl | exact Or.inr rfl | (simp only; omega)))⟩⟩ rfl rfl hl.1 rfl (lv_room (Nat.le_of_ble_eq_true rfl)) dX4_isUnits_2 ⟨Nat.zero_le _, Nat.zero_le _⟩) hh_4.1 (fun q _ h => h) (fun q h => h) (fun r_2 u_1 t_1 H_1 locs_1 ht_1 hvm_1 hr_2 hb_1 hz_1 hk_1 hS_1 => ?_)
  rw [ht_1] at hb_1
  obtain ⟨hb_11, hb_12, hb_13, hb_14, hb_15⟩ := hb_1
  have hh_1 : jSt (dC, dI) B base G0 G0 EX4_isUnits s.heap 0 0 [(r0, 6, 7, .int values_5)] [] [] H_1 locs_1 := ((hh_4.call hb_11 hb_12 hb_13 hb_14 hS_1 rfl (L1 := [(r0, 6, 7, .int values_5)]) [0] rfl rfl (M1 := []) [] rfl rfl (I1 := []) [] rfl rfl).more hb_15)
  clear hh_4 ht_1 hvm_1 hz_1 hk_1 hS_1 hb_11 hb_12 hb_13 hb_14 hb_15
  refine lv_iconst (v := 3) hx hb dX4_isUnits_5 (by decide) ?_
  refine lv_icmp_ne (tgt := 20) hx hb dX4_isUnits_6 (by decide) (fun c_6 => ?_) (fun c_6 => ?_)
  · skip
    have c_6' : r_2.toInt ≠ 3 := jb_ne (rfl) ((by decide)) c_6
    try clear hr_2
    refine lv_iconst (v := 0) hx hb dX4_isUnits_20 (by decide) ?_
    rw [hQ]
    exact W.zret (v := 0) hx hb hr (jb_nz (Or.inl rfl)) (fun t ht hW => ⟨⟨0, (), rfl, ⟨(Or.inl rfl), trivial⟩, hh_1.rt (M1 := []) [] rfl ht⟩, by rw [ht]; try exact hh_1.1.1, fun q h9 hq => by rw [ht]; try exact hh_1.1.2.1 q h9 hq⟩) hh_1.1.2.2 dX4_isUnits_21
  · skip
    have c_6' : r_2.toInt = 3 := jb_ne_n (rfl) ((by decide)) c_6
    first | (have hr_2q := hr_2.resolve_left (by omega); clear hr_2) | (have hr_2q := hr_2.resolve_right (by omega); clear hr_2) | try clear hr_2
    refine lv_aload_n hx hb dX4_isUnits_9 rfl (lv_at hl 0 rfl) ?_
    obtain ⟨v_7, hv_7, hh_8⟩ := hh_1.pin (C := RX4) (T := TX4) (N := 12) hB6 rfl (by decide) hg_r0 (i := 2) (by decide) rfl
    clear hh_1
    obtain ⟨sizes_9, rfl, hg_sizes_9⟩ := hv_7
    refine j7_read hx hb hown hK (C := RX4) (T := TX4) (N := 12) rfl hly_6_2 hlk_18 (hh_8.at 0 rfl) dX4_isUnits_10 ?_
    refine lv_iload_n hx hb dX4_isUnits_13 rfl (lv_at hl 1 rfl) ?_
    refine j7_iald hx hb hK hh_8 hB142 1 rfl (by decide) hg_sizes_9 (x := a1.toInt) (rfl) (by omega) dX4_isUnits_14 (fun z_10 (hz_10 : True) => ?_)
    refine lv_aload_n hx hb dX4_isUnits_15 rfl (lv_at hl 2 rfl) ?_
    refine j7_len hx hb hK hh_8 hB101 1 rfl (by decide) hg_r2 (by omega) dX4_isUnits_16 (fun z_11 hz_11 => ?_)
    refine lv_icmp_eq (tgt := 22) hx hb dX4_isUnits_17 (by decide) (fun c_12 => ?_) (fun c_12 => ?_)
    · skip
      have c_12' : z_10.toInt = z_11.toInt := jb_eq (rfl) (rfl) c_12
      refine lv_iconst (v := 0) hx hb dX4_isUnits_22 (by decide) ?_
      refine lv_istore_n (lv' := [(3, .int 0), (0, .ref r0), (1, .int a1), (2, .ref r2)]) hx hb dX4_isUnits_23 rfl hl (by decide) rfl (fun ls hl => ?_)
      have L24 : ∀ (N : Nat) (v3_13 : Int32) (H_13 : Heap) (locs_13 : List Loc), jSt (dC, dI) B base G0 G0 EX4_isUnits s.heap 0 0 [(r0, 6, 2, .ref sizes_9), (r0, 6, 7, .int values_5)] [] [] H_13 locs_13 → (0 ≤ v3_13.toInt ∧ v3_13.toInt ≤ n2) → (n2 - v3_13.toInt : Int) < N → ∀ ls : Array Slot, lv_has ls 4 [(0, .ref r0), (1, .int a1), (2, .ref r2), (3, .int v3_13)] → W p l e R s m ([.ref r0, .int a1, .ref r2] : List Value).toArray below meth c H_13 locs_13 0 0 Q (F0 m 24 ls []) := by
        intro N
        induction N with
        | zero => intro v3_13 H_13 locs_13 hh_13  hi_13 hm; exact absurd hm (by omega)
        | succ N L24 =>
          intro v3_13 H_13 locs_13 hh_13  hi_13 hm_13 ls hl
          obtain ⟨hi_13_0, hi_13_1⟩ := hi_13
          refine lv_iload_n hx hb dX4_isUnits_24 rfl (lv_at hl 3 rfl) ?_
          refine lv_aload_n hx hb dX4_isUnits_25 rfl (lv_at hl 2 rfl) ?_
          refine j7_len hx hb hK hh_13 hB101 1 rfl (by decide) hg_r2 (by omega) dX4_isUnits_26 (fun z_14 hz_14 => ?_)
          refine lv_icmp_ge (tgt := 50) hx hb dX4_isUnits_27 (by decide) (fun c_15 => ?_) (fun c_15 => ?_)
          · skip
            have c_15' : v3_13.toInt ≥ z_14.toInt := jb_ge (rfl) (rfl) c_15
            refine lv_iconst (v := 1) hx hb dX4_isUnits_50 (by decide) ?_
            rw [hQ]
            exact W.zret (v := 1) hx hb hr (jb_nz (Or.inr rfl)) (fun t ht hW => ⟨⟨1, (), rfl, ⟨(Or.inr rfl), trivial⟩, hh_13.rt (M1 := []) [] rfl ht⟩, by rw [ht]; try exact hh_13.1.1, fun q h9 hq => by rw [ht]; try exact hh_13.1.2.1 q h9 hq⟩) hh_13.1.2.2 dX4_isUnits_51
          · skip
            have c_15' : v3_13.toInt < z_14.toInt := jb_ge_n (rfl) (rfl) c_15
            refine lv_aload_n hx hb dX4_isUnits_30 rfl (lv_at hl 0 rfl) ?_
            refine lv_iload_n hx hb dX4_isUnits_31 rfl (lv_at hl 1 rfl) ?_
            refine lv_iload_n hx hb dX4_isUnits_32 rfl (lv_at hl 3 rfl) ?_
            refine va_calli (A0 := jA base) (H0 := s.heap) (va_runV (As := [.int a1, .int v3_13]) (rest := []) ⟨hx, hb, hml, hown, hts⟩ (uX4_unitAt l dC dI ca base B hB hAp hB6 hB140 hB141 hB142 hB146 G0 H_13 r0 a1 v3_13) (cwV 2 hts (jgV (jWr_25 _ (List.mem_of_getElem? (i := 4) rfl)) (jWr_25 _ (List.mem_of_getElem? (i := 5) rfl)) (jWr_25 _ (List.mem_of_getElem? (i := 6) rfl)) (jWr_1 _ (List.mem_of_getElem? (i := 22) rfl)) (jWr_25 _ (List.mem_of_getElem? (i := 7) rfl))) rfl rfl rfl (by decide +kernel) ⟨by rw [← hR]; exact Nat.le_of_ble_eq_true rfl, by rw [← hR]; exact Nat.le_of_ble_eq_true rfl⟩) ⟨fun a U g mk q => by obtain ⟨q0, q1, q2, qK, q10, q11, q12⟩ := q; exact ⟨q0, q1, q2, jG.calling g mk a qK, q10, q11, q12⟩, hh_13.recv (C := RX4) (T := TX4) (N := 12) hB6 rfl (by decide) hg_r0 hK, fun U hU hW => ⟨rfl, hU, hh_13.2.1, hG.step hW hU hh_13.1, hg_r0, jP.nil, trivial⟩⟩ rfl rfl hl.1 rfl (lv_room (Nat.le_of_ble_eq_true rfl)) dX4_isUnits_33 ⟨Nat.zero_le _, Nat.zero_le _⟩) hh_13.1 (fun q _ h => h) (fun q h => h) (fun r_17 u_16 t_16 H_16 locs_16 ht_16 hvm_16 hr_17 hb_16 hz_16 hk_16 hS_16 => ?_)
            rw [ht_16] at hb_16
            obtain ⟨hb_161, hb_162, hb_163, hb_164, hb_165⟩ := hb_16
            have hh_16 : jSt (dC, dI) B base G0 G0 EX4_isUnits s.heap 0 0 [(r0, 6, 2, .ref sizes_9), (r0, 6, 7, .int values_5)] [] [] H_16 locs_16 := ((hh_13.call hb_161 hb_162 hb_163 hb_164 hS_16 rfl (L1 := [(r0, 6, 2, .ref sizes_9), (r0, 6, 7, .int values_5)]) [0, 1] rfl rfl (M1 := []) [] rfl rfl (I1 := []) [] rfl rfl).more hb_165)
            clear hh_13 ht_16 hvm_16 hz_16 hk_16 hS_16 hb_161 hb_162 hb_163 hb_164 hb_165
            refine lv_aload_n hx hb dX4_isUnits_36 rfl (lv_at hl 2 rfl) ?_
            refine lv_iload_n hx hb dX4_isUnits_37 rfl (lv_at hl 3 rfl) ?_
            refine j7_iald hx hb hK hh_16 hB101 1 rfl (by decide) hg_r2 (x := v3_13.toInt) (rfl) (by omega) dX4_isUnits_38 (fun z_18 (hz_18 : True) => ?_)
            refine lv_icmp_eq (tgt := 44) hx hb dX4_isUnits_39 (by decide) (fun c_19 => ?_) (fun c_19 => ?_)
            · skip
              have c_19' : r_17.toInt = z_18.toInt := jb_eq (rfl) (rfl) c_19
              obtain ⟨z_20, ez_20⟩ : ∃ y : Int32, y = v3_13 + 1 := ⟨_, rfl⟩
              refine lv_iinc (v := z_20) (lv' := [(3, .int z_20), (0, .ref r0), (1, .int a1), (2, .ref r2)]) hx hb dX4_isUnits_44 hl (k := 3) rfl (by rw [ez_20]; rfl) (by decide) rfl (fun ls hl => ?_)
              have hz_20 : z_20.toInt = v3_13.toInt + 1 := by rw [ez_20]; exact jb_iadd2 (rfl) (by decide) (by omega)
              refine lv_goto (tgt := 24) hx hb dX4_isUnits_47 (by decide) ?_
              exact L24 z_20 _ _ hh_16 (by first | omega | (refine ⟨?_, ?_⟩ <;> (first | omega | rfl | assumption | decide | exact Or.inl rfl | exact Or.inr rfl | (simp only; omega)))) (by omega) _ (lv_sub hl [1, 2, 3, 0] rfl)
            · skip
              have c_19' : r_17.toInt ≠ z_18.toInt := jb_eq_n (rfl) (rfl) c_19
              refine lv_iconst (v := 0) hx hb dX4_isUnits_42 (by decide) ?_
              rw [hQ]
              exact W.zret (v := 0) hx hb hr (jb_nz (Or.inl rfl)) (fun t ht hW => ⟨⟨0, (), rfl, ⟨(Or.inl rfl), trivial⟩, hh_16.rt (M1 := []) [] rfl ht⟩, by rw [ht]; try exact hh_16.1.1, fun q h9 hq => by rw [ht]; try exact hh_16.1.2.1 q h9 hq⟩) hh_16.1.2.2 dX4_isUnits_43
      exact L24 (n2 - (0 : Int32).toInt : Int).toNat.succ 0 _ _ hh_8 (by first | omega | (refine ⟨?_, ?_⟩ <;> (first | omega | rfl | assumption | decide | exact Or.inl rfl | exact Or.inr rfl | (simp only; omega)))) (by omega) _ (lv_sub hl [1, 2, 3, 0] rfl)
    · skip
      have c_12' : z_10.toInt ≠ z_11.toInt := jb_eq_n (rfl) (rfl) c_12
      refine lv_iconst (v := 0) hx hb dX4_isUnits_20 (by decide) ?_
      rw [hQ]
      exact W.zret (v := 0) hx hb hr (jb_nz (Or.inl rfl)) (fun t ht hW => ⟨⟨0, (), rfl, ⟨(Or.inl rfl), trivial⟩, hh_8.rt (M1 := []) [] rfl ht⟩, by rw [ht]; try exact hh_8.1.1, fun q h9 hq => by rw [ht]; try exact hh_8.1.2.1 q h9 hq⟩) hh_8.1.2.2 dX4_isUnits_21
end
section
def jOpI (f : Nat → Int32) (i n : Int) : Int := if i + 1 < n ∧ (f i.toNat).toInt = 40 ∧ (f (i + 1).toNat).toInt = 42 then 1 else 0
def jClI (f : Nat → Int32) (i n : Int) : Int := if i + 1 < n ∧ (f i.toNat).toInt = 42 ∧ (f (i + 1).toNat).toInt = 41 then 1 else 0
def jBc (f : Nat → Int32) (n : Int) : Nat → Int → Int → Int
  | 0, _, _ => -1
  | k + 1, i, d => if i < n then (if jOpI f i n = 1 then jBc f n k (i + 2) (d + 1) else if jClI f i n = 1 then (if d = 1 then i + 2 else jBc f n k (i + 2) (d - 1)) else jBc f n k (i + 1) d) else -1
theorem jBc_s {f : Nat → Int32} {n i d : Int} {k : Nat} (hk : 0 < k) : jBc f n k i d = if i < n then (if jOpI f i n = 1 then jBc f n (k - 1) (i + 2) (d + 1) else if jClI f i n = 1 then (if d = 1 then i + 2 else jBc f n (k - 1) (i + 2) (d - 1)) else jBc f n (k - 1) (i + 1) d) else -1 := by
  cases k with
  | zero => omega
  | succ k => rfl
end
section
def F15 (n : Nat) (G : jT) : List (Value → Prop) := [jRf G 150 120000, jRf G 151 120000, jRf G 152 120000, jRf G 153 120000, jRf G 154 120000, jI 0 120000, jRf G 166 12000, jI 0 12000, jRf G 155 1600, jRf G 156 1600, jI 0 1600, jI 0 16, jRf G 163 16, jRf G 103 16, jRf G 165 16, jI 0 16, jRf G 163 16, jRf G 160 16, jZb, jI 0 1599, jI 0 119999, jI 0 6, jRf G 161 46, jRf G 158 46, jRf G 163 276, jRf G 159 46, jRf G 163 368, jRf G 162 368, jRf G 167 1500, jRf G 157 1500, jI 0 1500, jIa, jI 0 1600, jZb, jI 0 9, jRf G 163 200, jI 0 200, jRf G 169 1, jI 0 1599, jI 0 1599, jI 0 1599, jI 0 3, jI 0 119999, jRf G 169 100, jRf G 168 100, jRf G 101 100000, jI 0 100000, jRf G 163 100, jRf G 164 100, jI 0 100]
end
section
theorem dX1_endedBy_0 : decode cX1_endedBy 0 = .ok (.iconst 0, 1) := by decide +kernel
theorem dX1_endedBy_1 : decode cX1_endedBy 1 = .ok (.istore_n 2, 1) := by decide +kernel
theorem dX1_endedBy_2 : decode cX1_endedBy 2 = .ok (.iload_n 2, 1) := by decide +kernel
theorem dX1_endedBy_3 : decode cX1_endedBy 3 = .ok (.aload_n 0, 1) := by decide +kernel
theorem dX1_endedBy_4 : decode cX1_endedBy 4 = .ok (.getfield 69, 3) := by decide +kernel
theorem dX1_endedBy_7 : decode cX1_endedBy 7 = .ok (.if_icmp .ge 19, 3) := by decide +kernel
theorem dX1_endedBy_10 : decode cX1_endedBy 10 = .ok (.aload_n 0, 1) := by decide +kernel
theorem dX1_endedBy_11 : decode cX1_endedBy 11 = .ok (.getfield 21, 3) := by decide +kernel
theorem dX1_endedBy_14 : decode cX1_endedBy 14 = .ok (.iload_n 2, 1) := by decide +kernel
theorem dX1_endedBy_15 : decode cX1_endedBy 15 = .ok (.iaload, 1) := by decide +kernel
theorem dX1_endedBy_16 : decode cX1_endedBy 16 = .ok (.iload_n 1, 1) := by decide +kernel
theorem dX1_endedBy_17 : decode cX1_endedBy 17 = .ok (.if_icmp .gt 9, 3) := by decide +kernel
theorem dX1_endedBy_20 : decode cX1_endedBy 20 = .ok (.iinc 2 1, 3) := by decide +kernel
theorem dX1_endedBy_23 : decode cX1_endedBy 23 = .ok (.goto (-21), 3) := by decide +kernel
theorem dX1_endedBy_26 : decode cX1_endedBy 26 = .ok (.iload_n 2, 1) := by decide +kernel
theorem dX1_endedBy_27 : decode cX1_endedBy 27 = .ok (.ireturn, 1) := by decide +kernel
theorem dX1_placeOf_0 : decode cX1_placeOf 0 = .ok (.iload_n 1, 1) := by decide +kernel
theorem dX1_placeOf_1 : decode cX1_placeOf 1 = .ok (.ifCond .lt 7, 3) := by decide +kernel
theorem dX1_placeOf_4 : decode cX1_placeOf 4 = .ok (.iload_n 2, 1) := by decide +kernel
theorem dX1_placeOf_5 : decode cX1_placeOf 5 = .ok (.ifCond .ge 5, 3) := by decide +kernel
theorem dX1_placeOf_8 : decode cX1_placeOf 8 = .ok (.iconst (-1), 1) := by decide +kernel
theorem dX1_placeOf_9 : decode cX1_placeOf 9 = .ok (.ireturn, 1) := by decide +kernel
theorem dX1_placeOf_10 : decode cX1_placeOf 10 = .ok (.iconst 0, 1) := by decide +kernel
theorem dX1_placeOf_11 : decode cX1_placeOf 11 = .ok (.istore_n 3, 1) := by decide +kernel
theorem dX1_placeOf_12 : decode cX1_placeOf 12 = .ok (.iconst 0, 1) := by decide +kernel
theorem dX1_placeOf_13 : decode cX1_placeOf 13 = .ok (.istore 4, 2) := by decide +kernel
theorem dX1_placeOf_15 : decode cX1_placeOf 15 = .ok (.iload_n 3, 1) := by decide +kernel
theorem dX1_placeOf_16 : decode cX1_placeOf 16 = .ok (.aload_n 0, 1) := by decide +kernel
theorem dX1_placeOf_17 : decode cX1_placeOf 17 = .ok (.getfield 42, 3) := by decide +kernel
theorem dX1_placeOf_20 : decode cX1_placeOf 20 = .ok (.if_icmp .ge 26, 3) := by decide +kernel
theorem dX1_placeOf_23 : decode cX1_placeOf 23 = .ok (.iload 4, 2) := by decide +kernel
theorem dX1_placeOf_25 : decode cX1_placeOf 25 = .ok (.iload_n 1, 1) := by decide +kernel
theorem dX1_placeOf_26 : decode cX1_placeOf 26 = .ok (.if_icmp .ge 20, 3) := by decide +kernel
theorem dX1_placeOf_29 : decode cX1_placeOf 29 = .ok (.aload_n 0, 1) := by decide +kernel
theorem dX1_placeOf_30 : decode cX1_placeOf 30 = .ok (.iload_n 3, 1) := by decide +kernel
theorem dX1_placeOf_31 : decode cX1_placeOf 31 = .ok (.invokevirtual 108, 3) := by decide +kernel
theorem dX1_placeOf_34 : decode cX1_placeOf 34 = .ok (.ifCond .eq 6, 3) := by decide +kernel
theorem dX1_placeOf_37 : decode cX1_placeOf 37 = .ok (.iinc 4 1, 3) := by decide +kernel
theorem dX1_placeOf_40 : decode cX1_placeOf 40 = .ok (.iinc 3 1, 3) := by decide +kernel
theorem dX1_placeOf_43 : decode cX1_placeOf 43 = .ok (.goto (-28), 3) := by decide +kernel
theorem dX1_placeOf_46 : decode cX1_placeOf 46 = .ok (.iload 4, 2) := by decide +kernel
theorem dX1_placeOf_48 : decode cX1_placeOf 48 = .ok (.iload_n 1, 1) := by decide +kernel
theorem dX1_placeOf_49 : decode cX1_placeOf 49 = .ok (.if_icmp .ge 5, 3) := by decide +kernel
theorem dX1_placeOf_52 : decode cX1_placeOf 52 = .ok (.iconst (-1), 1) := by decide +kernel
theorem dX1_placeOf_53 : decode cX1_placeOf 53 = .ok (.ireturn, 1) := by decide +kernel
theorem dX1_placeOf_54 : decode cX1_placeOf 54 = .ok (.iload_n 3, 1) := by decide +kernel
theorem dX1_placeOf_55 : decode cX1_placeOf 55 = .ok (.istore 5, 2) := by decide +kernel
theorem dX1_placeOf_57 : decode cX1_placeOf 57 = .ok (.iload_n 3, 1) := by decide +kernel
theorem dX1_placeOf_58 : decode cX1_placeOf 58 = .ok (.aload_n 0, 1) := by decide +kernel
theorem dX1_placeOf_59 : decode cX1_placeOf 59 = .ok (.getfield 42, 3) := by decide +kernel
theorem dX1_placeOf_62 : decode cX1_placeOf 62 = .ok (.if_icmp .ge 39, 3) := by decide +kernel
theorem dX1_placeOf_65 : decode cX1_placeOf 65 = .ok (.iload_n 3, 1) := by decide +kernel
theorem dX1_placeOf_66 : decode cX1_placeOf 66 = .ok (.iload 5, 2) := by decide +kernel
theorem dX1_placeOf_68 : decode cX1_placeOf 68 = .ok (.isub, 1) := by decide +kernel
theorem dX1_placeOf_69 : decode cX1_placeOf 69 = .ok (.iload_n 2, 1) := by decide +kernel
theorem dX1_placeOf_70 : decode cX1_placeOf 70 = .ok (.if_icmp .ge 31, 3) := by decide +kernel
theorem dX1_placeOf_73 : decode cX1_placeOf 73 = .ok (.aload_n 0, 1) := by decide +kernel
theorem dX1_placeOf_74 : decode cX1_placeOf 74 = .ok (.getfield 15, 3) := by decide +kernel
theorem dX1_placeOf_77 : decode cX1_placeOf 77 = .ok (.iload_n 3, 1) := by decide +kernel
theorem dX1_placeOf_78 : decode cX1_placeOf 78 = .ok (.iaload, 1) := by decide +kernel
theorem dX1_placeOf_79 : decode cX1_placeOf 79 = .ok (.bipush 10, 2) := by decide +kernel
theorem dX1_placeOf_81 : decode cX1_placeOf 81 = .ok (.if_icmp .eq 20, 3) := by decide +kernel
theorem dX1_placeOf_84 : decode cX1_placeOf 84 = .ok (.aload_n 0, 1) := by decide +kernel
theorem dX1_placeOf_85 : decode cX1_placeOf 85 = .ok (.getfield 15, 3) := by decide +kernel
theorem dX1_placeOf_88 : decode cX1_placeOf 88 = .ok (.iload_n 3, 1) := by decide +kernel
theorem dX1_placeOf_89 : decode cX1_placeOf 89 = .ok (.iaload, 1) := by decide +kernel
theorem dX1_placeOf_90 : decode cX1_placeOf 90 = .ok (.bipush 13, 2) := by decide +kernel
theorem dX1_placeOf_92 : decode cX1_placeOf 92 = .ok (.if_icmp .eq 9, 3) := by decide +kernel
theorem dX1_placeOf_95 : decode cX1_placeOf 95 = .ok (.iinc 3 1, 3) := by decide +kernel
theorem dX1_placeOf_98 : decode cX1_placeOf 98 = .ok (.goto (-41), 3) := by decide +kernel
theorem dX1_placeOf_101 : decode cX1_placeOf 101 = .ok (.iload_n 3, 1) := by decide +kernel
theorem dX1_placeOf_102 : decode cX1_placeOf 102 = .ok (.ireturn, 1) := by decide +kernel
def EX1_endedBy : List (Nat × Nat) := []
def EX1_placeOf : List (Nat × Nat) := []
set_option maxHeartbeats 4000000 in
set_option maxRecDepth 20000 in
theorem uX1_endedBy (l : Launch) (dC : Nat → ClassId) (dI : Nat → Nat → Nat) (ca : Nat → ClassId) (base : Nat) (B : jF) (hB : jBok B) (hAp : jAp (dC, dI)) (hB3 : ∀ n G a H, B 3 n G a H ↔ jOb (dC, dI) 3 17 (F3 n G) a H) (hB172 : ∀ n G a H, B 172 n G a H ↔ jAr (dC, dI) (ca 1) (fun j z => 0 ≤ z.toInt ∧ z.toInt ≤ 1500) n a H) (G0 : jT) (H0 : Heap) (r0 : Nat) (a1 : Int32) : Met l yX1_endedBy (jw yX1_endedBy cX1_endedBy 3 (some .int)) ({ frames := 0, cells := 0, slots := 0, locals := 0 }) (va_Pc [.ref r0, .int a1] (fun U => U.heap = H0 ∧ jX B base G0 [] H0 ∧ jG dC dI ca base U ∧ G0 r0 = some (3, 0) ∧ jP (dC, dI) G0 H0 [] ∧ True)) (va_Qi (S := Unit) (fun r u => (0 ≤ r.toInt ∧ r.toInt ≤ 40)) (fun u t => jRt (dC, dI) B base G0 EX1_endedBy H0 [] t.heap) (jA base)) 0 0 (jA base) := by
  refine Met.ofW (cc := cX1_endedBy) (maxL := 3) (ret := (some .int)) (by decide) rfl ?_
  intro p e s m args below meth c s₁ Bd hml hv
  obtain ⟨rfl, hH0, hX, hG, hg_r0, hP0, hp0⟩ := hv
  have hK := hG.1
  have hx := Bd.exec
  have hb := Bd.bytes
  have hr := Bd.returns
  have hts := atoms_spec (ws := (jw yX1_endedBy cX1_endedBy 3 (some .int))) Bd.pre
  have htw : ∀ w ∈ jWl, w.before _ s = true := fun w h => hts w (List.mem_cons_of_mem _ h)
  have hown : s.vm.findClass RX1 = some m.cls := findClass_of_methodNamed Bd.named
  have hlocks := Bd.notSynchronized
  obtain ⟨Q, hQ⟩ : ∃ Q, Q = MQ below (va_Qi (S := Unit) (fun r u => (0 ≤ r.toInt ∧ r.toInt ≤ 40)) (fun u t => jRt (dC, dI) B base G0 EX1_endedBy H0 [] t.heap) (jA base)) ([.ref r0, .int a1] : List Value).toArray s 0 0 (jA base) := ⟨_, rfl⟩
  rw [← hQ]
  have hl := lv_entry ([.ref r0, .int a1]) (n := 3) (Nat.le_of_ble_eq_true rfl)
  rw [lg_entry_eq]
  generalize (lg_sl ([.ref r0, .int a1]) ++ List.replicate (3 - (lg_sl ([.ref r0, .int a1])).length) Slot.unset).toArray = ls at hl ⊢
  have hl : lv_has ls 3 [(0, .ref r0), (1, .int a1)] := hl
  generalize hR : (headSpec (jw yX1_endedBy cX1_endedBy 3 (some .int)) ({ frames := 0, cells := 0, slots := 0, locals := 0 })).room = R
  subst hH0
  have hh : jSt (dC, dI) B base G0 G0 EX1_endedBy s.heap 0 0 [] [] [] s.heap [] := jSt.start hX hP0 jMc.nil jIs.nil
  clear hX hP0
  have hk0 : (0 : Int32).toInt = 0 := by decide
  have hk1 : (1 : Int32).toInt = 1 := by decide
  have hly_3_4 := htw (u_lay RX1 TX1 4) (jWc_wsX10 _ (u_in_lay (by decide)))
  have hly_3_6 := htw (u_lay RX1 TX1 6) (jWc_wsX10 _ (u_in_lay (by decide)))
  have hlk_69 := (htw (.fieldLink RX1 69 "ProofServer$Document" "sentences" "I") (jWr_29 _ (List.mem_of_getElem? (i := 14) rfl)))
  have hlk_21 := (htw (.fieldLink RX1 21 "ProofServer$Document" "ends" "[I") (jWr_10 _ (List.mem_of_getElem? (i := 8) rfl)))
  have hrg_a1 := jb_rng a1
  refine lv_iconst (v := 0) hx hb dX1_endedBy_0 (by decide) ?_
  refine lv_istore_n (lv' := [(2, .int 0), (0, .ref r0), (1, .int a1)]) hx hb dX1_endedBy_1 rfl hl (by decide) rfl (fun ls hl => ?_)
  obtain ⟨v_1, hv_1, hh_2⟩ := hh.pin (C := RX1) (T := TX1) (N := 17) hB3 rfl (by decide) hg_r0 (i := 4) (by decide) rfl
  obtain ⟨sentences_3, rfl, hlosentences_3, hhisentences_3⟩ := hv_1
  have L2 : ∀ (N : Nat) (v2_4 : Int32) (H_4 : Heap) (locs_4 : List Loc), jSt (dC, dI) B base G0 G0 EX1_endedBy s.heap 0 0 [(r0, 3, 4, .int sentences_3)] [] [] H_4 locs_4 → (0 ≤ v2_4.toInt ∧ v2_4.toInt ≤ sentences_3.toInt) → (sentences_3.toInt - v2_4.toInt : Int) < N → ∀ ls : Array Slot, lv_has ls 3 [(0, .ref r0), (1, .int a1), (2, .int v2_4)] → W p l e R s m ([.ref r0, .int a1] : List Value).toArray below meth c H_4 locs_4 0 0 Q (F0 m 2 ls []) := by
    intro N
    induction N with
    | zero => intro v2_4 H_4 locs_4 hh_4  hi_4 hm; exact absurd hm (by omega)
    | succ N L2 =>
      intro v2_4 H_4 locs_4 hh_4  hi_4 hm_4 ls hl
      obtain ⟨hi_4_0, hi_4_1⟩ := hi_4
      refine lv_iload_n hx hb dX1_endedBy_2 rfl (lv_at hl 2 rfl) ?_
      refine lv_aload_n hx hb dX1_endedBy_3 rfl (lv_at hl 0 rfl) ?_
      refine j7_read hx hb hown hK (C := RX1) (T := TX1) (N := 17) rfl hly_3_4 hlk_69 (hh_4.at 0 rfl) dX1_endedBy_4 ?_
      refine lv_icmp_ge (tgt := 26) hx hb dX1_endedBy_7 (by decide) (fun c_5 => ?_) (fun c_5 => ?_)
      · skip
        have c_5' : v2_4.toInt ≥ sentences_3.toInt := jb_ge (rfl) (rfl) c_5
        refine lv_iload_n hx hb dX1_endedBy_26 rfl (lv_at hl 2 rfl) ?_
        rw [hQ]
        exact W.iret (v := v2_4) hx hb hr (fun t ht hW => ⟨⟨v2_4, (), rfl, by first | omega | (refine ⟨?_, ?_⟩ <;> (first | omega | rfl | assumption | decide | exact Or.inl rfl | exact Or.inr rfl | (simp only; omega))), hh_4.rt (M1 := []) [] rfl ht⟩, by rw [ht]; try exact hh_4.1.1, fun q h9 hq => by rw [ht]; try exact hh_4.1.2.1 q h9 hq⟩) hh_4.1.2.2 dX1_endedBy_27
      · skip
        have c_5' : v2_4.toInt < sentences_3.toInt := jb_ge_n (rfl) (rfl) c_5
        refine lv_aload_n hx hb dX1_endedBy_10 rfl (lv_at hl 0 rfl) ?_
        obtain ⟨v_6, hv_6, hh_7⟩ := hh_4.pin (C := RX1) (T := TX1) (N := 17) hB3 rfl (by decide) hg_r0 (i := 6) (by decide) rfl
        clear hh_4
        obtain ⟨ends_8, rfl, hg_ends_8⟩ := hv_6
        refine j7_read hx hb hown hK (C := RX1) (T := TX1) (N := 17) rfl hly_3_6 hlk_21 (hh_7.at 0 rfl) dX1_endedBy_11 ?_
        refine lv_iload_n hx hb dX1_endedBy_14 rfl (lv_at hl 2 rfl) ?_
        refine j7_iald hx hb hK hh_7 hB172 1 rfl (by decide) hg_ends_8 (x := v2_4.toInt) (rfl) (by omega) dX1_endedBy_15 (fun z_9 (hz_9 : 0 ≤ z_9.toInt ∧ z_9.toInt ≤ 1500) => ?_)
        refine lv_iload_n hx hb dX1_endedBy_16 rfl (lv_at hl 1 rfl) ?_
        refine lv_icmp_gt (tgt := 26) hx hb dX1_endedBy_17 (by decide) (fun c_10 => ?_) (fun c_10 => ?_)
        · skip
          have c_10' : z_9.toInt > a1.toInt := jb_gt (rfl) (rfl) c_10
          refine lv_iload_n hx hb dX1_endedBy_26 rfl (lv_at hl 2 rfl) ?_
          rw [hQ]
          exact W.iret (v := v2_4) hx hb hr (fun t ht hW => ⟨⟨v2_4, (), rfl, by first | omega | (refine ⟨?_, ?_⟩ <;> (first | omega | rfl | assumption | decide | exact Or.inl rfl | exact Or.inr rfl | (simp only; omega))), hh_7.rt (M1 := []) [] rfl ht⟩, by rw [ht]; try exact hh_7.1.1, fun q h9 hq => by rw [ht]; try exact hh_7.1.2.1 q h9 hq⟩) hh_7.1.2.2 dX1_endedBy_27
        · skip
          have c_10' : z_9.toInt ≤ a1.toInt := jb_gt_n (rfl) (rfl) c_10
          obtain ⟨z_11, ez_11⟩ : ∃ y : Int32, y = v2_4 + 1 := ⟨_, rfl⟩
          refine lv_iinc (v := z_11) (lv' := [(2, .int z_11), (0, .ref r0), (1, .int a1)]) hx hb dX1_endedBy_20 hl (k := 2) rfl (by rw [ez_11]; rfl) (by decide) rfl (fun ls hl => ?_)
          have hz_11 : z_11.toInt = v2_4.toInt + 1 := by rw [ez_11]; exact jb_iadd2 (rfl) (by decide) (by omega)
          refine lv_goto (tgt := 2) hx hb dX1_endedBy_23 (by decide) ?_
          exact L2 z_11 _ _ (hh_7.sub (L1 := [(r0, 3, 4, .int sentences_3)]) [1] rfl (M1 := []) [] rfl (I1 := []) [] rfl) (by first | omega | (refine ⟨?_, ?_⟩ <;> (first | omega | rfl | assumption | decide | exact Or.inl rfl | exact Or.inr rfl | (simp only; omega)))) (by omega) _ (lv_sub hl [1, 2, 0] rfl)
  exact L2 (sentences_3.toInt - (0 : Int32).toInt : Int).toNat.succ 0 _ _ hh_2 (by first | omega | (refine ⟨?_, ?_⟩ <;> (first | omega | rfl | assumption | decide | exact Or.inl rfl | exact Or.inr rfl | (simp only; omega)))) (by omega) _ (lv_sub hl [1, 2, 0] rfl)
set_option maxHeartbeats 4000000 in
set_option maxRecDepth 20000 in
theorem uX1_placeOf (l : Launch) (dC : Nat → ClassId) (dI : Nat → Nat → Nat) (ca : Nat → ClassId) (base : Nat) (B : jF) (hB : jBok B) (hAp : jAp (dC, dI)) (hB3 : ∀ n G a H, B 3 n G a H ↔ jOb (dC, dI) 3 17 (F3 n G) a H) (hB101 : ∀ n G a H, B 101 n G a H ↔ jAr (dC, dI) (ca 1) (fun j z => True) n a H) (G0 : jT) (H0 : Heap) (r0 : Nat) (a1 : Int32) (a2 : Int32) (n0 : Nat) : Met l yX1_placeOf (jw yX1_placeOf cX1_placeOf 6 (some .int)) ({ frames := 1, cells := 0, slots := 0, locals := 22 }) (va_Pc [.ref r0, .int a1, .int a2] (fun U => U.heap = H0 ∧ jX B base G0 [] H0 ∧ jG dC dI ca base U ∧ G0 r0 = some (3, n0) ∧ jP (dC, dI) G0 H0 [] ∧ True)) (va_Qi (S := Unit) (fun r u => (-1 ≤ r.toInt ∧ r.toInt ≤ 1500)) (fun u t => jRt (dC, dI) B base G0 EX1_placeOf H0 [] t.heap) (jA base)) 0 0 (jA base) := by
  refine Met.ofW (cc := cX1_placeOf) (maxL := 6) (ret := (some .int)) (by decide) rfl ?_
  intro p e s m args below meth c s₁ Bd hml hv
  obtain ⟨rfl, hH0, hX, hG, hg_r0, hP0, hp0⟩ := hv
  have hK := hG.1
  have hx := Bd.exec
  have hb := Bd.bytes
  have hr := Bd.returns
  have hts := atoms_spec (ws := (jw yX1_placeOf cX1_placeOf 6 (some .int))) Bd.pre
  have htw : ∀ w ∈ jWl, w.before _ s = true := fun w h => hts w (List.mem_cons_of_mem _ h)
  have hown : s.vm.findClass RX1 = some m.cls := findClass_of_methodNamed Bd.named
  have hlocks := Bd.notSynchronized
  obtain ⟨Q, hQ⟩ : ∃ Q, Q = MQ below (va_Qi (S := Unit) (fun r u => (-1 ≤ r.toInt ∧ r.toInt ≤ 1500)) (fun u t => jRt (dC, dI) B base G0 EX1_placeOf H0 [] t.heap) (jA base)) ([.ref r0, .int a1, .int a2] : List Value).toArray s 0 0 (jA base) := ⟨_, rfl⟩
  rw [← hQ]
  have hl := lv_entry ([.ref r0, .int a1, .int a2]) (n := 6) (Nat.le_of_ble_eq_true rfl)
  rw [lg_entry_eq]
  generalize (lg_sl ([.ref r0, .int a1, .int a2]) ++ List.replicate (6 - (lg_sl ([.ref r0, .int a1, .int a2])).length) Slot.unset).toArray = ls at hl ⊢
  have hl : lv_has ls 6 [(0, .ref r0), (1, .int a1), (2, .int a2)] := hl
  generalize hR : (headSpec (jw yX1_placeOf cX1_placeOf 6 (some .int)) ({ frames := 1, cells := 0, slots := 0, locals := 22 })).room = R
  subst hH0
  have hh : jSt (dC, dI) B base G0 G0 EX1_placeOf s.heap 0 0 [] [] [] s.heap [] := jSt.start hX hP0 jMc.nil jIs.nil
  clear hX hP0
  have hkm1 : ((-1) : Int32).toInt = (-1) := by decide
  have hk0 : (0 : Int32).toInt = 0 := by decide
  have hk1 : (1 : Int32).toInt = 1 := by decide
  have hk10 : (10 : Int32).toInt = 10 := by decide
  have hk13 : (13 : Int32).toInt = 13 := by decide
  have hly_3_2 := htw (u_lay RX1 TX1 2) (jWc_wsX10 _ (u_in_lay (by decide)))
  have hly_3_3 := htw (u_lay RX1 TX1 3) (jWc_wsX10 _ (u_in_lay (by decide)))
  have hlk_42 := (htw (.fieldLink RX1 42 "ProofServer$Document" "length" "I") (jWr_29 _ (List.mem_of_getElem? (i := 5) rfl)))
  have hlk_15 := (htw (.fieldLink RX1 15 "ProofServer$Document" "text" "[I") (jWr_10 _ (List.mem_of_getElem? (i := 6) rfl)))
  have hrg_a1 := jb_rng a1
  have hrg_a2 := jb_rng a2
  refine lv_iload_n hx hb dX1_placeOf_0 rfl (lv_at hl 1 rfl) ?_
  refine lv_if_lt (tgt := 8) hx hb dX1_placeOf_1 (by decide) (fun c_1 => ?_) (fun c_1 => ?_)
  · skip
    have c_1' : a1.toInt < 0 := jb_lt (rfl) ((by decide)) c_1
    refine lv_iconst (v := (-1)) hx hb dX1_placeOf_8 (by decide) ?_
    rw [hQ]
    exact W.iret (v := (-1)) hx hb hr (fun t ht hW => ⟨⟨(-1), (), rfl, by first | omega | (refine ⟨?_, ?_⟩ <;> (first | omega | rfl | assumption | decide | exact Or.inl rfl | exact Or.inr rfl | (simp only; omega))), hh.rt (M1 := []) [] rfl ht⟩, by rw [ht]; try exact hh.1.1, fun q h9 hq => by rw [ht]; try exact hh.1.2.1 q h9 hq⟩) hh.1.2.2 dX1_placeOf_9
  · skip
    have c_1' : a1.toInt ≥ 0 := jb_lt_n (rfl) ((by decide)) c_1
    refine lv_iload_n hx hb dX1_placeOf_4 rfl (lv_at hl 2 rfl) ?_
    refine lv_if_ge (tgt := 10) hx hb dX1_placeOf_5 (by decide) (fun c_2 => ?_) (fun c_2 => ?_)
    · skip
      have c_2' : a2.toInt ≥ 0 := jb_ge (rfl) ((by decide)) c_2
      refine lv_iconst (v := 0) hx hb dX1_placeOf_10 (by decide) ?_
      refine lv_istore_n (lv' := [(3, .int 0), (0, .ref r0), (1, .int a1), (2, .int a2)]) hx hb dX1_placeOf_11 rfl hl (by decide) rfl (fun ls hl => ?_)
      refine lv_iconst (v := 0) hx hb dX1_placeOf_12 (by decide) ?_
      refine lv_istore (lv' := [(4, .int 0), (3, .int 0), (0, .ref r0), (1, .int a1), (2, .int a2)]) hx hb dX1_placeOf_13 hl (by decide) rfl (fun ls hl => ?_)
      obtain ⟨v_3, hv_3, hh_4⟩ := hh.pin (C := RX1) (T := TX1) (N := 17) hB3 rfl (by decide) hg_r0 (i := 3) (by decide) rfl
      obtain ⟨length_5, rfl, hlolength_5, hhilength_5⟩ := hv_3
      have L15 : ∀ (N : Nat) (v3_6 : Int32) (v4_6 : Int32) (H_6 : Heap) (locs_6 : List Loc), jSt (dC, dI) B base G0 G0 EX1_placeOf s.heap 0 0 [(r0, 3, 3, .int length_5)] [] [] H_6 locs_6 → (0 ≤ v3_6.toInt ∧ v3_6.toInt ≤ length_5.toInt ∧ 0 ≤ v4_6.toInt ∧ v4_6.toInt ≤ v3_6.toInt) → (length_5.toInt - v3_6.toInt : Int) < N → ∀ ls : Array Slot, lv_has ls 6 [(0, .ref r0), (1, .int a1), (2, .int a2), (3, .int v3_6), (4, .int v4_6)] → W p l e R s m ([.ref r0, .int a1, .int a2] : List Value).toArray below meth c H_6 locs_6 0 0 Q (F0 m 15 ls []) := by
        intro N
        induction N with
        | zero => intro v3_6 v4_6 H_6 locs_6 hh_6  hi_6 hm; exact absurd hm (by omega)
        | succ N L15 =>
          intro v3_6 v4_6 H_6 locs_6 hh_6  hi_6 hm_6 ls hl
          obtain ⟨hi_6_0, hi_6_1, hi_6_2, hi_6_3⟩ := hi_6
          refine lv_iload_n hx hb dX1_placeOf_15 rfl (lv_at hl 3 rfl) ?_
          refine lv_aload_n hx hb dX1_placeOf_16 rfl (lv_at hl 0 rfl) ?_
          refine j7_read hx hb hown hK (C := RX1) (T := TX1) (N := 17) rfl hly_3_3 hlk_42 (hh_6.at 0 rfl) dX1_placeOf_17 ?_
          have C46 : ∀ (v3_7 : Int32) (v4_7 : Int32) (H_7 : Heap) (locs_7 : List Loc), jSt (dC, dI) B base G0 G0 EX1_placeOf s.heap 0 0 [(r0, 3, 3, .int length_5)] [] [] H_7 locs_7 → (0 ≤ v3_7.toInt ∧ v3_7.toInt ≤ length_5.toInt ∧ 0 ≤ v4_7.toInt) → ∀ ls : Array Slot, lv_has ls 6 [(0, .ref r0), (1, .int a1), (2, .int a2), (3, .int v3_7), (4, .int v4_7)] → W p l e R s m ([.ref r0, .int a1, .int a2] : List Value).toArray below meth c H_7 locs_7 0 0 Q (F0 m 46 ls []) := by
            intro v3_7 v4_7 H_7 locs_7 hh_7  hi_7 ls hl
            obtain ⟨hi_7_0, hi_7_1, hi_7_2⟩ := hi_7
            refine lv_iload hx hb dX1_placeOf_46 (lv_at hl 4 rfl) ?_
            refine lv_iload_n hx hb dX1_placeOf_48 rfl (lv_at hl 1 rfl) ?_
            refine lv_icmp_ge (tgt := 54) hx hb dX1_placeOf_49 (by decide) (fun c_8 => ?_) (fun c_8 => ?_)
            · skip
              have c_8' : v4_7.toInt ≥ a1.toInt := jb_ge (rfl) (rfl) c_8
              refine lv_iload_n hx hb dX1_placeOf_54 rfl (lv_at hl 3 rfl) ?_
              refine lv_istore (lv' := [(5, .int v3_7), (0, .ref r0), (1, .int a1), (2, .int a2), (3, .int v3_7), (4, .int v4_7)]) hx hb dX1_placeOf_55 hl (by decide) rfl (fun ls hl => ?_)
              have L57 : ∀ (N : Nat) (v3_9 : Int32) (H_9 : Heap) (locs_9 : List Loc), jSt (dC, dI) B base G0 G0 EX1_placeOf s.heap 0 0 [(r0, 3, 3, .int length_5)] [] [] H_9 locs_9 → (v3_7.toInt ≤ v3_9.toInt ∧ v3_9.toInt ≤ length_5.toInt) → (length_5.toInt - v3_9.toInt : Int) < N → ∀ ls : Array Slot, lv_has ls 6 [(0, .ref r0), (1, .int a1), (2, .int a2), (3, .int v3_9), (4, .int v4_7), (5, .int v3_7)] → W p l e R s m ([.ref r0, .int a1, .int a2] : List Value).toArray below meth c H_9 locs_9 0 0 Q (F0 m 57 ls []) := by
                intro N
                induction N with
                | zero => intro v3_9 H_9 locs_9 hh_9  hi_9 hm; exact absurd hm (by omega)
                | succ N L57 =>
                  intro v3_9 H_9 locs_9 hh_9  hi_9 hm_9 ls hl
                  obtain ⟨hi_9_0, hi_9_1⟩ := hi_9
                  refine lv_iload_n hx hb dX1_placeOf_57 rfl (lv_at hl 3 rfl) ?_
                  refine lv_aload_n hx hb dX1_placeOf_58 rfl (lv_at hl 0 rfl) ?_
                  refine j7_read hx hb hown hK (C := RX1) (T := TX1) (N := 17) rfl hly_3_3 hlk_42 (hh_9.at 0 rfl) dX1_placeOf_59 ?_
                  refine lv_icmp_ge (tgt := 101) hx hb dX1_placeOf_62 (by decide) (fun c_10 => ?_) (fun c_10 => ?_)
                  · skip
                    have c_10' : v3_9.toInt ≥ length_5.toInt := jb_ge (rfl) (rfl) c_10
                    refine lv_iload_n hx hb dX1_placeOf_101 rfl (lv_at hl 3 rfl) ?_
                    rw [hQ]
                    exact W.iret (v := v3_9) hx hb hr (fun t ht hW => ⟨⟨v3_9, (), rfl, by first | omega | (refine ⟨?_, ?_⟩ <;> (first | omega | rfl | assumption | decide | exact Or.inl rfl | exact Or.inr rfl | (simp only; omega))), hh_9.rt (M1 := []) [] rfl ht⟩, by rw [ht]; try exact hh_9.1.1, fun q h9 hq => by rw [ht]; try exact hh_9.1.2.1 q h9 hq⟩) hh_9.1.2.2 dX1_placeOf_102
                  · skip
                    have c_10' : v3_9.toInt < length_5.toInt := jb_ge_n (rfl) (rfl) c_10
                    refine lv_iload_n hx hb dX1_placeOf_65 rfl (lv_at hl 3 rfl) ?_
                    refine lv_iload hx hb dX1_placeOf_66 (lv_at hl 5 rfl) ?_
                    refine lv_isub hx hb dX1_placeOf_68 ?_
                    refine lv_topi (fun z_11 ez_11 => ?_)
                    have hz_11 : z_11.toInt = v3_9.toInt - v3_7.toInt := by rw [ez_11]; exact jb_isub2 (rfl) (rfl) (by omega)
                    refine lv_iload_n hx hb dX1_placeOf_69 rfl (lv_at hl 2 rfl) ?_
                    refine lv_icmp_ge (tgt := 101) hx hb dX1_placeOf_70 (by decide) (fun c_12 => ?_) (fun c_12 => ?_)
                    · skip
                      have c_12' : z_11.toInt ≥ a2.toInt := jb_ge (rfl) (rfl) c_12
                      refine lv_iload_n hx hb dX1_placeOf_101 rfl (lv_at hl 3 rfl) ?_
                      rw [hQ]
                      exact W.iret (v := v3_9) hx hb hr (fun t ht hW => ⟨⟨v3_9, (), rfl, by first | omega | (refine ⟨?_, ?_⟩ <;> (first | omega | rfl | assumption | decide | exact Or.inl rfl | exact Or.inr rfl | (simp only; omega))), hh_9.rt (M1 := []) [] rfl ht⟩, by rw [ht]; try exact hh_9.1.1, fun q h9 hq => by rw [ht]; try exact hh_9.1.2.1 q h9 hq⟩) hh_9.1.2.2 dX1_placeOf_102
                    · skip
                      have c_12' : z_11.toInt < a2.toInt := jb_ge_n (rfl) (rfl) c_12
                      refine lv_aload_n hx hb dX1_placeOf_73 rfl (lv_at hl 0 rfl) ?_
                      obtain ⟨v_13, hv_13, hh_14⟩ := hh_9.pin (C := RX1) (T := TX1) (N := 17) hB3 rfl (by decide) hg_r0 (i := 2) (by decide) rfl
                      clear hh_9
                      obtain ⟨text_15, rfl, hg_text_15⟩ := hv_13
                      refine j7_read hx hb hown hK (C := RX1) (T := TX1) (N := 17) rfl hly_3_2 hlk_15 (hh_14.at 0 rfl) dX1_placeOf_74 ?_
                      refine lv_iload_n hx hb dX1_placeOf_77 rfl (lv_at hl 3 rfl) ?_
                      refine j7_iald hx hb hK hh_14 hB101 1 rfl (by decide) hg_text_15 (x := v3_9.toInt) (rfl) (by omega) dX1_placeOf_78 (fun z_16 (hz_16 : True) => ?_)
                      refine lv_bipush (v := 10) hx hb dX1_placeOf_79 (by decide) ?_
                      refine lv_icmp_eq (tgt := 101) hx hb dX1_placeOf_81 (by decide) (fun c_17 => ?_) (fun c_17 => ?_)
                      · skip
                        have c_17' : z_16.toInt = 10 := jb_eq (rfl) ((by decide)) c_17
                        refine lv_iload_n hx hb dX1_placeOf_101 rfl (lv_at hl 3 rfl) ?_
                        rw [hQ]
                        exact W.iret (v := v3_9) hx hb hr (fun t ht hW => ⟨⟨v3_9, (), rfl, by first | omega | (refine ⟨?_, ?_⟩ <;> (first | omega | rfl | assumption | decide | exact Or.inl rfl | exact Or.inr rfl | (simp only; omega))), hh_14.rt (M1 := []) [] rfl ht⟩, by rw [ht]; try exact hh_14.1.1, fun q h9 hq => by rw [ht]; try exact hh_14.1.2.1 q h9 hq⟩) hh_14.1.2.2 dX1_placeOf_102
                      · skip
                        have c_17' : z_16.toInt ≠ 10 := jb_eq_n (rfl) ((by decide)) c_17
                        refine lv_aload_n hx hb dX1_placeOf_84 rfl (lv_at hl 0 rfl) ?_
                        refine j7_read hx hb hown hK (C := RX1) (T := TX1) (N := 17) rfl hly_3_2 hlk_15 (hh_14.at 0 rfl) dX1_placeOf_85 ?_
                        refine lv_iload_n hx hb dX1_placeOf_88 rfl (lv_at hl 3 rfl) ?_
                        refine j7_iald hx hb hK hh_14 hB101 1 rfl (by decide) hg_text_15 (x := v3_9.toInt) (rfl) (by omega) dX1_placeOf_89 (fun z_18 (hz_18 : True) => ?_)
                        refine lv_bipush (v := 13) hx hb dX1_placeOf_90 (by decide) ?_
                        refine lv_icmp_eq (tgt := 101) hx hb dX1_placeOf_92 (by decide) (fun c_19 => ?_) (fun c_19 => ?_)
                        · skip
                          have c_19' : z_18.toInt = 13 := jb_eq (rfl) ((by decide)) c_19
                          refine lv_iload_n hx hb dX1_placeOf_101 rfl (lv_at hl 3 rfl) ?_
                          rw [hQ]
                          exact W.iret (v := v3_9) hx hb hr (fun t ht hW => ⟨⟨v3_9, (), rfl, by first | omega | (refine ⟨?_, ?_⟩ <;> (first | omega | rfl | assumption | decide | exact Or.inl rfl | exact Or.inr rfl | (simp only; omega))), hh_14.rt (M1 := []) [] rfl ht⟩, by rw [ht]; try exact hh_14.1.1, fun q h9 hq => by rw [ht]; try exact hh_14.1.2.1 q h9 hq⟩) hh_14.1.2.2 dX1_placeOf_102
                        · skip
                          have c_19' : z_18.toInt ≠ 13 := jb_eq_n (rfl) ((by decide)) c_19
                          obtain ⟨z_20, ez_20⟩ : ∃ y : Int32, y = v3_9 + 1 := ⟨_, rfl⟩
                          refine lv_iinc (v := z_20) (lv' := [(3, .int z_20), (0, .ref r0), (1, .int a1), (2, .int a2), (4, .int v4_7), (5, .int v3_7)]) hx hb dX1_placeOf_95 hl (k := 3) rfl (by rw [ez_20]; rfl) (by decide) rfl (fun ls hl => ?_)
                          have hz_20 : z_20.toInt = v3_9.toInt + 1 := by rw [ez_20]; exact jb_iadd2 (rfl) (by decide) (by omega)
                          refine lv_goto (tgt := 57) hx hb dX1_placeOf_98 (by decide) ?_
                          exact L57 z_20 _ _ (hh_14.sub (L1 := [(r0, 3, 3, .int length_5)]) [1] rfl (M1 := []) [] rfl (I1 := []) [] rfl) (by first | omega | (refine ⟨?_, ?_⟩ <;> (first | omega | rfl | assumption | decide | exact Or.inl rfl | exact Or.inr rfl | (simp only; omega)))) (by omega) _ (lv_sub hl [1, 2, 3, 0, 4, 5] rfl)
              exact L57 (length_5.toInt - (v3_7 : Int32).toInt : Int).toNat.succ v3_7 _ _ hh_7 (by first | omega | (refine ⟨?_, ?_⟩ <;> (first | omega | rfl | assumption | decide | exact Or.inl rfl | exact Or.inr rfl | (simp only; omega)))) (by omega) _ (lv_sub hl [1, 2, 3, 4, 5, 0] rfl)
            · skip
              have c_8' : v4_7.toInt < a1.toInt := jb_ge_n (rfl) (rfl) c_8
              refine lv_iconst (v := (-1)) hx hb dX1_placeOf_52 (by decide) ?_
              rw [hQ]
              exact W.iret (v := (-1)) hx hb hr (fun t ht hW => ⟨⟨(-1), (), rfl, by first | omega | (refine ⟨?_, ?_⟩ <;> (first | omega | rfl | assumption | decide | exact Or.inl rfl | exact Or.inr rfl | (simp only; omega))), hh_7.rt (M1 := []) [] rfl ht⟩, by rw [ht]; try exact hh_7.1.1, fun q h9 hq => by rw [ht]; try exact hh_7.1.2.1 q h9 hq⟩) hh_7.1.2.2 dX1_placeOf_53
          refine lv_icmp_ge (tgt := 46) hx hb dX1_placeOf_20 (by decide) (fun c_21 => ?_) (fun c_21 => ?_)
          · skip
            have c_21' : v3_6.toInt ≥ length_5.toInt := jb_ge (rfl) (rfl) c_21
            exact C46 v3_6 v4_6 _ _ hh_6 (by first | omega | (refine ⟨?_, ?_, ?_⟩ <;> (first | omega | rfl | assumption | decide | exact Or.inl rfl | exact Or.inr rfl | (simp only; omega)))) _ (lv_sub hl [0, 1, 2, 3, 4] rfl)
          · skip
            have c_21' : v3_6.toInt < length_5.toInt := jb_ge_n (rfl) (rfl) c_21
            refine lv_iload hx hb dX1_placeOf_23 (lv_at hl 4 rfl) ?_
            refine lv_iload_n hx hb dX1_placeOf_25 rfl (lv_at hl 1 rfl) ?_
            refine lv_icmp_ge (tgt := 46) hx hb dX1_placeOf_26 (by decide) (fun c_22 => ?_) (fun c_22 => ?_)
            · skip
              have c_22' : v4_6.toInt ≥ a1.toInt := jb_ge (rfl) (rfl) c_22
              exact C46 v3_6 v4_6 _ _ hh_6 (by first | omega | (refine ⟨?_, ?_, ?_⟩ <;> (first | omega | rfl | assumption | decide | exact Or.inl rfl | exact Or.inr rfl | (simp only; omega)))) _ (lv_sub hl [0, 1, 2, 3, 4] rfl)
            · skip
              have c_22' : v4_6.toInt < a1.toInt := jb_ge_n (rfl) (rfl) c_22
              refine lv_aload_n hx hb dX1_placeOf_29 rfl (lv_at hl 0 rfl) ?_
              refine lv_iload_n hx hb dX1_placeOf_30 rfl (lv_at hl 3 rfl) ?_
              refine va_calli (A0 := jA base) (H0 := s.heap) (va_runV (As := [.int v3_6]) (rest := []) ⟨hx, hb, hml, hown, hts⟩ (uX1_endsLine l dC dI ca base B hB hAp hB3 hB101 G0 H_6 r0 v3_6 n0 length_5) (cwV 1 hts (jgV (jWr_29 _ (List.mem_of_getElem? (i := 6) rfl)) (jWr_29 _ (List.mem_of_getElem? (i := 7) rfl)) (jWr_29 _ (List.mem_of_getElem? (i := 8) rfl)) (jWr_2 _ (List.mem_of_getElem? (i := 21) rfl)) (jWr_29 _ (List.mem_of_getElem? (i := 9) rfl))) rfl rfl rfl (by decide +kernel) ⟨by rw [← hR]; exact Nat.le_of_ble_eq_true rfl, by rw [← hR]; exact Nat.le_of_ble_eq_true rfl⟩) ⟨fun a U g mk q => by obtain ⟨q0, q1, q2, qK, q10, q11, q12⟩ := q; exact ⟨q0, q1, q2, jG.calling g mk a qK, q10, q11, q12⟩, hh_6.recv (C := RX1) (T := TX1) (N := 17) hB3 rfl (by decide) hg_r0 hK, fun U hU hW => ⟨rfl, hU, hh_6.2.1, hG.step hW hU hh_6.1, hg_r0, (hh_6.2.2.1.sub (L1 := [(r0, 3, 3, .int length_5)]) [0] rfl), by first | omega | (refine ⟨?_, ?_, ?_⟩ <;> (first | omega | rfl | assumption | decide | exact Or.inl rfl | exact Or.inr rfl | (simp only; omega)))⟩⟩ rfl rfl hl.1 rfl (lv_room (Nat.le_of_ble_eq_true rfl)) dX1_placeOf_31 ⟨Nat.zero_le _, Nat.zero_le _⟩) hh_6.1 (fun q _ h => h) (fun q h => h) (fun r_24 u_23 t_23 H_23 locs_23 ht_23 hvm_23 hr_24 hb_23 hz_23 hk_23 hS_23 => ?_)
              rw [ht_23] at hb_23
              obtain ⟨hb_231, hb_232, hb_233, hb_234, hb_235⟩ := hb_23
              have hh_23 : jSt (dC, dI) B base G0 G0 EX1_placeOf s.heap 0 0 [(r0, 3, 3, .int length_5)] [] [] H_23 locs_23 := ((hh_6.call hb_231 hb_232 hb_233 hb_234 hS_23 rfl (L1 := [(r0, 3, 3, .int length_5)]) [0] rfl rfl (M1 := []) [] rfl rfl (I1 := []) [] rfl rfl).more hb_235)
              clear hh_6 ht_23 hvm_23 hz_23 hk_23 hS_23 hb_231 hb_232 hb_233 hb_234 hb_235
              obtain ⟨hr_24b, hr_24p⟩ := hr_24
              have hr_24' := jb_01 hr_24b
              refine lv_if_eq (tgt := 40) hx hb dX1_placeOf_34 (by decide) (fun c_25 => ?_) (fun c_25 => ?_)
              · skip
                have c_25' : r_24.toInt = 0 := jb_eq (rfl) ((by decide)) c_25
                obtain ⟨z_26, ez_26⟩ : ∃ y : Int32, y = v3_6 + 1 := ⟨_, rfl⟩
                refine lv_iinc (v := z_26) (lv' := [(3, .int z_26), (0, .ref r0), (1, .int a1), (2, .int a2), (4, .int v4_6)]) hx hb dX1_placeOf_40 hl (k := 3) rfl (by rw [ez_26]; rfl) (by decide) rfl (fun ls hl => ?_)
                have hz_26 : z_26.toInt = v3_6.toInt + 1 := by rw [ez_26]; exact jb_iadd2 (rfl) (by decide) (by omega)
                refine lv_goto (tgt := 15) hx hb dX1_placeOf_43 (by decide) ?_
                exact L15 z_26 v4_6 _ _ hh_23 (by first | omega | (refine ⟨?_, ?_, ?_, ?_⟩ <;> (first | omega | rfl | assumption | decide | exact Or.inl rfl | exact Or.inr rfl | (simp only; omega)))) (by omega) _ (lv_sub hl [1, 2, 3, 0, 4] rfl)
              · skip
                have c_25' : r_24.toInt ≠ 0 := jb_eq_n (rfl) ((by decide)) c_25
                obtain ⟨z_27, ez_27⟩ : ∃ y : Int32, y = v4_6 + 1 := ⟨_, rfl⟩
                refine lv_iinc (v := z_27) (lv' := [(4, .int z_27), (0, .ref r0), (1, .int a1), (2, .int a2), (3, .int v3_6)]) hx hb dX1_placeOf_37 hl (k := 4) rfl (by rw [ez_27]; rfl) (by decide) rfl (fun ls hl => ?_)
                have hz_27 : z_27.toInt = v4_6.toInt + 1 := by rw [ez_27]; exact jb_iadd2 (rfl) (by decide) (by omega)
                obtain ⟨z_28, ez_28⟩ : ∃ y : Int32, y = v3_6 + 1 := ⟨_, rfl⟩
                refine lv_iinc (v := z_28) (lv' := [(3, .int z_28), (4, .int z_27), (0, .ref r0), (1, .int a1), (2, .int a2)]) hx hb dX1_placeOf_40 hl (k := 4) rfl (by rw [ez_28]; rfl) (by decide) rfl (fun ls hl => ?_)
                have hz_28 : z_28.toInt = v3_6.toInt + 1 := by rw [ez_28]; exact jb_iadd2 (rfl) (by decide) (by omega)
                refine lv_goto (tgt := 15) hx hb dX1_placeOf_43 (by decide) ?_
                exact L15 z_28 z_27 _ _ hh_23 (by first | omega | (refine ⟨?_, ?_, ?_, ?_⟩ <;> (first | omega | rfl | assumption | decide | exact Or.inl rfl | exact Or.inr rfl | (simp only; omega)))) (by omega) _ (lv_sub hl [2, 3, 4, 0, 1] rfl)
      exact L15 (length_5.toInt - (0 : Int32).toInt : Int).toNat.succ 0 0 _ _ hh_4 (by first | omega | (refine ⟨?_, ?_, ?_, ?_⟩ <;> (first | omega | rfl | assumption | decide | exact Or.inl rfl | exact Or.inr rfl | (simp only; omega)))) (by omega) _ (lv_sub hl [2, 3, 4, 1, 0] rfl)
    · skip
      have c_2' : a2.toInt < 0 := jb_ge_n (rfl) ((by decide)) c_2
      refine lv_iconst (v := (-1)) hx hb dX1_placeOf_8 (by decide) ?_
      rw [hQ]
      exact W.iret (v := (-1)) hx hb hr (fun t ht hW => ⟨⟨(-1), (), rfl, by first | omega | (refine ⟨?_, ?_⟩ <;> (first | omega | rfl | assumption | decide | exact Or.inl rfl | exact Or.inr rfl | (simp only; omega))), hh.rt (M1 := []) [] rfl ht⟩, by rw [ht]; try exact hh.1.1, fun q h9 hq => by rw [ht]; try exact hh.1.2.1 q h9 hq⟩) hh.1.2.2 dX1_placeOf_9
end
section
def F14 (n : Nat) (G : jT) : List (Value → Prop) := [jRf G 101 40, jI 0 40, jIa, jRf G 101 1500, jI 0 1500, jI 0 40, jRf G 190 40, jRf G 191 40, jRf G 192 40, jI 0 40, jRf G 193 40]
end
section
section
variable {p : Program} {l : Launch} {e : Env} {R : Room} {s : State} {m : MethodId} {args : Array Value} {below : List Frame} {meth : Method} {c : Code} {H : Heap} {locs : List Loc} {cells slots : Nat} {Q : State → Prop}
variable {cc : ByteArray} {pc : Nat} {ls : Array Slot} {rest : List Value}
theorem j7_nst_n (hexec : p.tables.exec = Jvm.exec) (hb : c.code = cc) {k : Fin 4} {i nL : Nat} {lv lv' : List (Nat × Value)} (hdg : decode cc pc = .ok (.astore_n k, 1)) (hi : (k : Nat) = i) (h : lv_has ls nL lv) (hn : i < nL) (hl : (i, Value.null) :: lv.filter (fun q => !(q.1 == i) && !(q.1 + 1 == i && q.2.category == 2)) = lv')
    (kk : ∀ ls' : Array Slot, lv_has ls' nL lv' → W p l e R s m args below meth c H locs cells slots Q (F0 m (pc + 1) ls' rest)) : W p l e R s m args below meth c H locs cells slots Q (F0 m pc ls (.null :: rest)) := by
  subst hi
  obtain ⟨ls', e', h'⟩ := lv_store1 (v := .null) h hn rfl
  intro T hT X
  obtain ⟨t, a, b⟩ := kk ls' (hl ▸ h') T hT X
  refine ⟨t, ?_, b⟩
  jvm_step X.here [X.here.top, ↓top_set X.here.top, hexec, hb, hdg, e', Value.isRef]
  exact a
end
section
variable {p : Program} {l : Launch} {e : Env} {R : Room} {s : State} {m : MethodId} {args : Array Value} {below : List Frame} {meth : Method} {c : Code} {H : Heap} {locs : List Loc} {cells slots : Nat} {Q : State → Prop}
variable {cc : ByteArray} {pc : Nat} {ls : Array Slot} {rest : List Value}
theorem j7_nld_n (hexec : p.tables.exec = Jvm.exec) (hb : c.code = cc) {k : Fin 4} {i : Nat} (hdg : decode cc pc = .ok (.aload_n k, 1)) (hi : (k : Nat) = i) (hl : ls[i]? = some (.val .null))
    (k : W p l e R s m args below meth c H locs cells slots Q (F0 m (pc + 1) ls (.null :: rest))) : W p l e R s m args below meth c H locs cells slots Q (F0 m pc ls (rest)) := by
  subst hi
  intro T hT X
  obtain ⟨t, a, b⟩ := k T hT X
  refine ⟨t, ?_, b⟩
  jvm_step X.here [X.here.top, hexec, hb, hdg, hl, Value.isRef]
  exact a
end
end
section
-- goals, hypotheses, facts of the reference's kernel: slots of arrays
theorem jGl.less {P : Int → Prop} {fg fh fp : Nat → Int32} {n m : Int} (h : jGl P fg fh fp n) (hm : m ≤ n) : jGl P fg fh fp m := fun g g0 g1 => h g g0 (by omega)
end
section
-- printing: how often a bound name is marked
theorem jEqK.st {f g h : Nat → Int32} {n m x e : Int} (hv : jSo g e = x) (ho : ∀ j, j < 100 → j ≠ e.toNat → g j = f j) (he : e = n) (h0 : 0 ≤ n) (h1 : n ≤ 99) (h2 : jEqK g h m) (hm : n ≤ m) : jEqK f h n := fun k q0 q1 => by
  have hU := jUpd.mk (n := 100) hv ho he h0
  rw [h2 k q0 (by omega), hU.2 k q0 (by omega) (by omega)]
end
section
-- how a text is parted, as functions
def jBlk (x : Int) : Int := if x = 32 ∨ x = 9 ∨ x = 10 ∨ x = 13 then 1 else 0
def jBcc (f : Nat → Int32) (n i : Int) : Int := jBc f n ((n - i).toNat + 1) i 0
def jGa (f : Nat → Int32) (n : Int) : Nat → Int → Int
  | 0, _ => n
  | k + 1, i => if i < n then (if jBlk (jSo f i) = 1 then jGa f n k (i + 1) else if jOpI f i n = 1 ∧ 0 ≤ jBcc f n i then jGa f n k (jBcc f n i) else i) else n
theorem jGa_s {f : Nat → Int32} {n i : Int} {k : Nat} (hk : 0 < k) : jGa f n k i = if i < n then (if jBlk (jSo f i) = 1 then jGa f n (k - 1) (i + 1) else if jOpI f i n = 1 ∧ 0 ≤ jBcc f n i then jGa f n (k - 1) (jBcc f n i) else i) else n := by
  cases k with
  | zero => omega
  | succ k => rfl
def jGap (f : Nat → Int32) (n i : Int) : Int := jGa f n ((n - i).toNat + 1) i
def jDt (f : Nat → Int32) (n i : Int) : Int := if jSo f i = 46 ∧ (i + 1 = n ∨ jBlk (jSo f (i + 1)) = 1 ∨ jOpI f (i + 1) n = 1) then 1 else 0
def jSx (f : Nat → Int32) (n : Int) : Nat → Int → Int
  | 0, _ => -1
  | k + 1, i => if i < n then (if jOpI f i n = 1 then (if jBcc f n i < 0 then -1 else jSx f n k (jBcc f n i)) else if jDt f n i = 1 then i + 1 else jSx f n k (i + 1)) else -1
theorem jSx_s {f : Nat → Int32} {n i : Int} {k : Nat} (hk : 0 < k) : jSx f n k i = if i < n then (if jOpI f i n = 1 then (if jBcc f n i < 0 then -1 else jSx f n (k - 1) (jBcc f n i)) else if jDt f n i = 1 then i + 1 else jSx f n (k - 1) (i + 1)) else -1 := by
  cases k with
  | zero => omega
  | succ k => rfl
def jSen (f : Nat → Int32) (n i : Int) : Int := jSx f n ((n - i).toNat + 1) i
/-- where a sentence ends, and the next one begins; how many there are -/
def jEn (f : Nat → Int32) (n i : Int) : Int := if jSen f n i < 0 then n else jSen f n i
def jPn (f : Nat → Int32) (n : Int) : Nat → Int → Int → Int
  | 0, _, c => c
  | k + 1, i, c => if i < n then (if c = 39 then 40 else jPn f n k (jGap f n (jEn f n i)) (c + 1)) else c
theorem jPn_s {f : Nat → Int32} {n i c : Int} {k : Nat} (hk : 0 < k) : jPn f n k i c = if i < n then (if c = 39 then 40 else jPn f n (k - 1) (jGap f n (jEn f n i)) (c + 1)) else c := by
  cases k with
  | zero => omega
  | succ k => rfl
theorem jPn_m {f : Nat → Int32} {n i i1 c c1 : Int} {k : Nat} (hk : 0 < k) (hi : i < n) (hc : c ≠ 39) (e : i1 = jGap f n (jEn f n i)) (ec : c1 = c + 1) : jPn f n (k - 1) i1 c1 = jPn f n k i c := by rw [jPn_s hk, if_pos hi, if_neg hc, e, ec]
def jPar (f : Nat → Int32) (n : Int) : Int := jPn f n ((n - jGap f n 0).toNat + 2) (jGap f n 0) 0
end
section
-- the documents of the reference: their sentences are in order (an invariant with a footprint; x: the document that is being changed)
theorem jDX.less {dC : Nat → ClassId} {dI : Nat → Nat → Nat} {ca : Nat → ClassId} {G : jT} {H : Heap} (h : jDX dC dI ca G none H) (x : Option Nat) : jDX dC dI ca G x H := by
  obtain ⟨Yb, Ye, h1, h2, h3, h4⟩ := h
  exact ⟨Yb, Ye, h1, h2, h3, fun a ha _ => h4 a ha (fun q => by cases q)⟩
end
section
-- invariants with a footprint, as a walk carries them: contents of reference arrays, one field of all documents, the sentences of all documents
theorem jDY.less {dC : Nat → ClassId} {dI : Nat → Nat → Nat} {ca : Nat → ClassId} {G : jT} {sn : Nat → Int32} {H : Heap} (h : jDY dC dI ca G none sn H) (x : Nat) : jDY dC dI ca G (some x) sn H := by
  obtain ⟨Yb, Ye, h1, h2, h3, h4⟩ := h
  exact ⟨Yb, Ye, h1, h2, h3, fun a ha _ => h4 a ha (fun q => by cases q)⟩
theorem jDY.full {dC : Nat → ClassId} {dI : Nat → Nat → Nat} {ca : Nat → ClassId} {G : jT} {sn : Nat → Int32} {H : Heap} {a yb ye : Nat} {ps : Int32} {fb fe : Nat → Int32} (h : jDY dC dI ca G (some a) sn H) (ha : G a = some (14, 0)) (hb : G yb = some (190, 40)) (he : G ye = some (191, 40)) (hP : jP (dC, dI) G H [(a, 14, 6, .ref yb), (a, 14, 7, .ref ye), (a, 14, 5, .int ps)]) (hM : jMc (dC, dI) G H [(yb, 190, 40, ca 1, fb), (ye, 191, 40, ca 1, fe)]) (hs : jSrt fb fe ps.toInt 1500) (h0 : 0 ≤ ps.toInt) (h40 : ps.toInt ≤ 40) : jDY dC dI ca G none (jUn sn a ps) H := by
  obtain ⟨Yb, Ye, h1, h2, h3, h4⟩ := h
  refine ⟨Yb, Ye, h1, h2, h3, fun b hb1 _ => ?_⟩
  by_cases e : b = a
  · subst e
    rw [jUn_e]
    have e1 : Yb b = yb := by have := jf.uniq (h1 b ha).1 (hP _ List.mem_cons_self).2; cases this; rfl
    have e2 : Ye b = ye := by have := jf.uniq (h1 b ha).2.1 (hP _ (List.mem_cons_of_mem _ List.mem_cons_self)).2; cases this; rfl
    rw [e1, e2]
    exact ⟨fb, fe, hb, he, hP, hM, hs, h0, h40⟩
  · rw [jUn_n _ _ e]
    exact h4 b hb1 (fun q => e (Option.some.inj q))
section J15
variable {p : Program} {l : Launch} {e : Env} {R : Room} {s : State} {m : MethodId} {args : Array Value} {below : List Frame} {meth : Method} {c : Code} {H : Heap} {locs : List Loc} {cells slots : Nat} {Q : State → Prop}
variable {cc : ByteArray} {pc : Nat} {ls : Array Slot} {rest : List Value} {dC : Nat → ClassId} {dI : Nat → Nat → Nat} {ca : Nat → ClassId} {B : jF} {base : Nat} {G0 G : jT} {E : List (Nat × Nat)} {H0 : Heap} {zc zs : Nat} {L : List jPin} {M : List jCt} {I : List jIv} {a k n i N : Nat} {cA : ClassId} {tys : List (ClassId × FieldType)} {C own : String} {T : u_T} {index : Nat}
end J15
end
section
-- how a text is parted rests on its units alone
theorem jOpI_c {f g : Nat → Int32} {i n : Int} (h : jEqU f g n) (hi : 0 ≤ i) : jOpI f i n = jOpI g i n := by
  unfold jOpI
  by_cases q : i + 1 < n
  · have e1 : (f i.toNat).toInt = (g i.toNat).toInt := h i hi (by omega)
    have e2 : (f (i + 1).toNat).toInt = (g (i + 1).toNat).toInt := h (i + 1) (by omega) q
    rw [e1, e2]
  · rw [if_neg (fun w => q w.1), if_neg (fun w => q w.1)]
theorem jClI_c {f g : Nat → Int32} {i n : Int} (h : jEqU f g n) (hi : 0 ≤ i) : jClI f i n = jClI g i n := by
  unfold jClI
  by_cases q : i + 1 < n
  · have e1 : (f i.toNat).toInt = (g i.toNat).toInt := h i hi (by omega)
    have e2 : (f (i + 1).toNat).toInt = (g (i + 1).toNat).toInt := h (i + 1) (by omega) q
    rw [e1, e2]
  · rw [if_neg (fun w => q w.1), if_neg (fun w => q w.1)]
theorem jBc_c {f g : Nat → Int32} {n : Int} (h : jEqU f g n) : ∀ (k : Nat) (i d : Int), 0 ≤ i → jBc f n k i d = jBc g n k i d := by
  intro k
  induction k with
  | zero => intro i d _; rfl
  | succ k ih =>
    intro i d hi
    rw [jBc_s (f := f) (by omega), jBc_s (f := g) (by omega), jOpI_c h hi, jClI_c h hi, show k + 1 - 1 = k by omega, ih (i + 2) (d + 1) (by omega), ih (i + 2) (d - 1) (by omega), ih (i + 1) d (by omega)]
theorem jBcc_c {f g : Nat → Int32} {n i : Int} (h : jEqU f g n) (hi : 0 ≤ i) : jBcc f n i = jBcc g n i := jBc_c h _ _ _ hi
theorem jGa_cg {f g : Nat → Int32} {n : Int} (h : jEqU f g n) : ∀ (k : Nat) (i : Int), 0 ≤ i → jGa f n k i = jGa g n k i := by
  intro k
  induction k with
  | zero => intro i _; rfl
  | succ k ih =>
    intro i hi
    rw [jGa_s (f := f) (by omega), jGa_s (f := g) (by omega), show k + 1 - 1 = k by omega]
    by_cases q : i < n
    · rw [if_pos q, if_pos q, h i hi q, jOpI_c h hi, jBcc_c h hi, ih (i + 1) (by omega)]
      by_cases w : jOpI g i n = 1 ∧ 0 ≤ jBcc g n i
      · rw [if_pos w, if_pos w, ih _ w.2]
      · rw [if_neg w, if_neg w]
    · rw [if_neg q, if_neg q]
theorem jGa_nn {f : Nat → Int32} {n : Int} (hn : 0 ≤ n) : ∀ (k : Nat) (i : Int), 0 ≤ i → 0 ≤ jGa f n k i := by
  intro k
  induction k with
  | zero => intro i _; exact hn
  | succ k ih =>
    intro i hi
    rw [jGa_s (by omega), show k + 1 - 1 = k by omega]
    split
    · split
      · exact ih _ (by omega)
      · split
        · rename_i w; exact ih _ w.2
        · exact hi
    · exact hn
theorem jDt_cg {f g : Nat → Int32} {n i : Int} (h : jEqU f g n) (hi : 0 ≤ i) (hn : i < n) : jDt f n i = jDt g n i := by
  unfold jDt
  rw [h i hi hn, jOpI_c h (by omega : 0 ≤ i + 1)]
  by_cases q : i + 1 = n
  · by_cases w : jSo g i = 46
    · rw [if_pos ⟨w, Or.inl q⟩, if_pos ⟨w, Or.inl q⟩]
    · rw [if_neg (fun v => w v.1), if_neg (fun v => w v.1)]
  · rw [h (i + 1) (by omega) (by omega)]
theorem jSx_cg {f g : Nat → Int32} {n : Int} (h : jEqU f g n) : ∀ (k : Nat) (i : Int), 0 ≤ i → jSx f n k i = jSx g n k i := by
  intro k
  induction k with
  | zero => intro i _; rfl
  | succ k ih =>
    intro i hi
    rw [jSx_s (f := f) (by omega), jSx_s (f := g) (by omega), show k + 1 - 1 = k by omega]
    by_cases q : i < n
    · rw [if_pos q, if_pos q, jOpI_c h hi, jBcc_c h hi, jDt_cg h hi q, ih (i + 1) (by omega)]
      by_cases w : jBcc g n i < 0
      · rw [if_pos w, if_pos w]
      · rw [if_neg w, if_neg w, ih _ (by omega)]
    · rw [if_neg q, if_neg q]
theorem jEn_cg {f g : Nat → Int32} {n i : Int} (h : jEqU f g n) (hi : 0 ≤ i) : jEn f n i = jEn g n i := by
  unfold jEn jSen
  rw [jSx_cg h _ _ hi]
theorem jEn_nn {f : Nat → Int32} {n i : Int} (hn : 0 ≤ n) : 0 ≤ jEn f n i := by
  unfold jEn
  split
  · exact hn
  · omega
theorem jPn_cg {f g : Nat → Int32} {n : Int} (hn : 0 ≤ n) (h : jEqU f g n) : ∀ (k : Nat) (i c : Int), 0 ≤ i → jPn f n k i c = jPn g n k i c := by
  intro k
  induction k with
  | zero => intro i c _; rfl
  | succ k ih =>
    intro i c hi
    rw [jPn_s (f := f) (by omega), jPn_s (f := g) (by omega), show k + 1 - 1 = k by omega, jEn_cg h hi]
    have e : jGap f n (jEn g n i) = jGap g n (jEn g n i) := jGa_cg h _ _ (jEn_nn hn)
    have hnn : 0 ≤ jGap g n (jEn g n i) := jGa_nn hn _ _ (jEn_nn hn)
    rw [e, ih _ (c + 1) hnn]
theorem jPar_cg {f g : Nat → Int32} {n : Int} (hn : 0 ≤ n) (h : jEqU f g n) : jPar f n = jPar g n := by
  unfold jPar
  have e : jGap f n 0 = jGap g n 0 := jGa_cg h _ _ (by omega)
  have hnn : 0 ≤ jGap g n 0 := jGa_nn hn _ _ (by omega)
  rw [e, jPn_cg hn h _ _ _ hnn]
end
section
def Fz0 (n : Nat) (G : jT) : List (Value → Prop) := [jRk G 196 1000, jI 0 0, jZb, jI 0 1000]
end
section
theorem dJ8_newLength_cabcc_0 : decode cJ8_newLength_cabcc 0 = .ok (.iload_n 0, 1) := by decide +kernel
theorem dJ8_newLength_cabcc_1 : decode cJ8_newLength_cabcc 1 = .ok (.iload_n 1, 1) := by decide +kernel
theorem dJ8_newLength_cabcc_2 : decode cJ8_newLength_cabcc 2 = .ok (.iload_n 2, 1) := by decide +kernel
theorem dJ8_newLength_cabcc_3 : decode cJ8_newLength_cabcc 3 = .ok (.invokestatic 194, 3) := by decide +kernel
theorem dJ8_newLength_cabcc_6 : decode cJ8_newLength_cabcc 6 = .ok (.iadd, 1) := by decide +kernel
theorem dJ8_newLength_cabcc_7 : decode cJ8_newLength_cabcc 7 = .ok (.istore_n 3, 1) := by decide +kernel
theorem dJ8_newLength_cabcc_8 : decode cJ8_newLength_cabcc 8 = .ok (.iconst 0, 1) := by decide +kernel
theorem dJ8_newLength_cabcc_9 : decode cJ8_newLength_cabcc 9 = .ok (.iload_n 3, 1) := by decide +kernel
theorem dJ8_newLength_cabcc_10 : decode cJ8_newLength_cabcc 10 = .ok (.if_icmp .ge 11, 3) := by decide +kernel
theorem dJ8_newLength_cabcc_13 : decode cJ8_newLength_cabcc 13 = .ok (.iload_n 3, 1) := by decide +kernel
theorem dJ8_newLength_cabcc_14 : decode cJ8_newLength_cabcc 14 = .ok (.ldc 200, 2) := by decide +kernel
theorem dJ8_newLength_cabcc_16 : decode cJ8_newLength_cabcc 16 = .ok (.if_icmp .gt 5, 3) := by decide +kernel
theorem dJ8_newLength_cabcc_19 : decode cJ8_newLength_cabcc 19 = .ok (.iload_n 3, 1) := by decide +kernel
theorem dJ8_newLength_cabcc_20 : decode cJ8_newLength_cabcc 20 = .ok (.ireturn, 1) := by decide +kernel
def EJ8_newLength_cabcc : List (Nat × Nat) := []
set_option maxHeartbeats 4000000 in
set_option maxRecDepth 20000 in
theorem uJ8_newLength_cabcc (l : Launch) (dC : Nat → ClassId) (dI : Nat → Nat → Nat) (ca : Nat → ClassId) (base : Nat) (B : jF) (hB : jBok B) (hAp : jAp (dC, dI)) (G0 : jT) (H0 : Heap) (a0 : Int32) (a1 : Int32) (a2 : Int32) : Met l yJ8_newLength_cabcc (jw yJ8_newLength_cabcc cJ8_newLength_cabcc 4 (some .int)) ({ frames := 1, cells := 0, slots := 0, locals := 32 }) (va_Pc [.int a0, .int a1, .int a2] (fun U => U.heap = H0 ∧ jX B base G0 [] H0 ∧ jG dC dI ca base U ∧ jP (dC, dI) G0 H0 [] ∧ 0 ≤ a0.toInt ∧ a0.toInt ≤ 100000 ∧ 1 ≤ a1.toInt ∧ a1.toInt ≤ 100000 ∧ 0 ≤ a2.toInt ∧ a2.toInt ≤ 100000)) (va_Qi (S := Unit) (fun r u => (a0.toInt + a1.toInt ≤ r.toInt ∧ a0.toInt + a2.toInt ≤ r.toInt ∧ (r.toInt ≤ a0.toInt + a1.toInt ∨ r.toInt ≤ a0.toInt + a2.toInt))) (fun u t => jRt (dC, dI) B base G0 EJ8_newLength_cabcc H0 [] t.heap) (jA base)) 0 0 (jA base) := by
  refine Met.ofW (cc := cJ8_newLength_cabcc) (maxL := 4) (ret := (some .int)) (by decide) rfl ?_
  intro p e s m args below meth c s₁ Bd hml hv
  obtain ⟨rfl, hH0, hX, hG, hP0, hp0, hp1, hp2, hp3, hp4, hp5⟩ := hv
  have hK := hG.1
  have hx := Bd.exec
  have hb := Bd.bytes
  have hr := Bd.returns
  have hts := atoms_spec (ws := (jw yJ8_newLength_cabcc cJ8_newLength_cabcc 4 (some .int))) Bd.pre
  have htw : ∀ w ∈ jWl, w.before _ s = true := fun w h => hts w (List.mem_cons_of_mem _ h)
  have hown : s.vm.findClass RJ8 = some m.cls := findClass_of_methodNamed Bd.named
  have hlocks := Bd.notSynchronized
  obtain ⟨Q, hQ⟩ : ∃ Q, Q = MQ below (va_Qi (S := Unit) (fun r u => (a0.toInt + a1.toInt ≤ r.toInt ∧ a0.toInt + a2.toInt ≤ r.toInt ∧ (r.toInt ≤ a0.toInt + a1.toInt ∨ r.toInt ≤ a0.toInt + a2.toInt))) (fun u t => jRt (dC, dI) B base G0 EJ8_newLength_cabcc H0 [] t.heap) (jA base)) ([.int a0, .int a1, .int a2] : List Value).toArray s 0 0 (jA base) := ⟨_, rfl⟩
  rw [← hQ]
  have hl := lv_entry ([.int a0, .int a1, .int a2]) (n := 4) (Nat.le_of_ble_eq_true rfl)
  rw [lg_entry_eq]
  generalize (lg_sl ([.int a0, .int a1, .int a2]) ++ List.replicate (4 - (lg_sl ([.int a0, .int a1, .int a2])).length) Slot.unset).toArray = ls at hl ⊢
  have hl : lv_has ls 4 [(0, .int a0), (1, .int a1), (2, .int a2)] := hl
  generalize hR : (headSpec (jw yJ8_newLength_cabcc cJ8_newLength_cabcc 4 (some .int)) ({ frames := 1, cells := 0, slots := 0, locals := 32 })).room = R
  subst hH0
  have hh : jSt (dC, dI) B base G0 G0 EJ8_newLength_cabcc s.heap 0 0 [] [] [] s.heap [] := jSt.start hX hP0 jMc.nil jIs.nil
  clear hX hP0
  have hk0 : (0 : Int32).toInt = 0 := by decide
  have hk1 : (1 : Int32).toInt = 1 := by decide
  have hk2147483639 : (2147483639 : Int32).toInt = 2147483639 := by decide
  have hcs_200 := htw (.constant RJ8 200 2147483639) (jWr_34 _ (List.mem_of_getElem? (i := 8) rfl))
  have hrg_a0 := jb_rng a0
  have hrg_a1 := jb_rng a1
  have hrg_a2 := jb_rng a2
  refine lv_iload_n hx hb dJ8_newLength_cabcc_0 rfl (lv_at hl 0 rfl) ?_
  refine lv_iload_n hx hb dJ8_newLength_cabcc_1 rfl (lv_at hl 1 rfl) ?_
  refine lv_iload_n hx hb dJ8_newLength_cabcc_2 rfl (lv_at hl 2 rfl) ?_
  refine va_mmax hx hb (by rw [hml]; exact hl.1.symm) hown (htw (.methodLink RJ8 194 Lib.Math.max.name) (jWr_34 _ (List.mem_of_getElem? (i := 7) rfl))) (htw (.static Lib.Math.max.name) (jWr_3 _ (List.mem_of_getElem? (i := 6) rfl))) (htw (.initialized "java/lang/Math") (jWr_3 _ (List.mem_of_getElem? (i := 7) rfl))) (htw (.code Lib.Math.max.name Lib.Math.max.code 2 (some .int)) (jWr_3 _ (List.mem_of_getElem? (i := 8) rfl))) (by rw [← hR]; exact Nat.le_of_ble_eq_true rfl) (by rw [← hR]; exact Nat.le_of_ble_eq_true rfl) (Nat.zero_le _) (Nat.zero_le _) dJ8_newLength_cabcc_3 ?_
  refine lv_topi (fun z_1 ez_1 => ?_)
  have hz_1 := jb_max ez_1
  refine lv_iadd hx hb dJ8_newLength_cabcc_6 ?_
  refine lv_topi (fun z_2 ez_2 => ?_)
  have hz_2 : z_2.toInt = a0.toInt + z_1.toInt := by rw [ez_2]; exact jb_iadd2 (rfl) (rfl) (by omega)
  refine lv_istore_n (lv' := [(3, .int z_2), (0, .int a0), (1, .int a1), (2, .int a2)]) hx hb dJ8_newLength_cabcc_7 rfl hl (by decide) rfl (fun ls hl => ?_)
  refine lv_iconst (v := 0) hx hb dJ8_newLength_cabcc_8 (by decide) ?_
  refine lv_iload_n hx hb dJ8_newLength_cabcc_9 rfl (lv_at hl 0 rfl) ?_
  refine lv_icmp_ge (tgt := 21) hx hb dJ8_newLength_cabcc_10 (by decide) (fun c_3 => ?_) (fun c_3 => ?_)
  · skip
    have c_3' : 0 ≥ z_2.toInt := jb_ge ((by decide)) (rfl) c_3
    exact absurd c_3' (by omega)
  · skip
    have c_3' : 0 < z_2.toInt := jb_ge_n ((by decide)) (rfl) c_3
    refine lv_iload_n hx hb dJ8_newLength_cabcc_13 rfl (lv_at hl 0 rfl) ?_
    refine lv_ldc hx hb hown hcs_200 dJ8_newLength_cabcc_14 ?_
    refine lv_icmp_gt (tgt := 21) hx hb dJ8_newLength_cabcc_16 (by decide) (fun c_4 => ?_) (fun c_4 => ?_)
    · skip
      have c_4' : z_2.toInt > 2147483639 := jb_gt (rfl) ((by decide)) c_4
      exact absurd c_4' (by omega)
    · skip
      have c_4' : z_2.toInt ≤ 2147483639 := jb_gt_n (rfl) ((by decide)) c_4
      refine lv_iload_n hx hb dJ8_newLength_cabcc_19 rfl (lv_at hl 0 rfl) ?_
      rw [hQ]
      exact W.iret (v := z_2) hx hb hr (fun t ht hW => ⟨⟨z_2, (), rfl, by first | omega | (refine ⟨?_, ?_, ?_⟩ <;> (first | omega | rfl | assumption | decide | exact Or.inl rfl | exact Or.inr rfl | (simp only; omega))), hh.rt (M1 := []) [] rfl ht⟩, by rw [ht]; try exact hh.1.1, fun q h9 hq => by rw [ht]; try exact hh.1.2.1 q h9 hq⟩) hh.1.2.2 dJ8_newLength_cabcc_20
end
section
theorem dX4_isText_0 : decode cX4_isText 0 = .ok (.aload_n 0, 1) := by decide +kernel
theorem dX4_isText_1 : decode cX4_isText 1 = .ok (.iload_n 1, 1) := by decide +kernel
theorem dX4_isText_2 : decode cX4_isText 2 = .ok (.invokevirtual 63, 3) := by decide +kernel
theorem dX4_isText_5 : decode cX4_isText 5 = .ok (.iconst 3, 1) := by decide +kernel
theorem dX4_isText_6 : decode cX4_isText 6 = .ok (.if_icmp .ne 27, 3) := by decide +kernel
theorem dX4_isText_9 : decode cX4_isText 9 = .ok (.aload_n 0, 1) := by decide +kernel
theorem dX4_isText_10 : decode cX4_isText 10 = .ok (.aload_n 0, 1) := by decide +kernel
theorem dX4_isText_11 : decode cX4_isText 11 = .ok (.getfield 15, 3) := by decide +kernel
theorem dX4_isText_14 : decode cX4_isText 14 = .ok (.iload_n 1, 1) := by decide +kernel
theorem dX4_isText_15 : decode cX4_isText 15 = .ok (.iaload, 1) := by decide +kernel
theorem dX4_isText_16 : decode cX4_isText 16 = .ok (.aload_n 0, 1) := by decide +kernel
theorem dX4_isText_17 : decode cX4_isText 17 = .ok (.getfield 18, 3) := by decide +kernel
theorem dX4_isText_20 : decode cX4_isText 20 = .ok (.iload_n 1, 1) := by decide +kernel
theorem dX4_isText_21 : decode cX4_isText 21 = .ok (.iaload, 1) := by decide +kernel
theorem dX4_isText_22 : decode cX4_isText 22 = .ok (.aload_n 2, 1) := by decide +kernel
theorem dX4_isText_23 : decode cX4_isText 23 = .ok (.invokevirtual 66, 3) := by decide +kernel
theorem dX4_isText_26 : decode cX4_isText 26 = .ok (.ifCond .eq 7, 3) := by decide +kernel
theorem dX4_isText_29 : decode cX4_isText 29 = .ok (.iconst 1, 1) := by decide +kernel
theorem dX4_isText_30 : decode cX4_isText 30 = .ok (.goto 4, 3) := by decide +kernel
theorem dX4_isText_33 : decode cX4_isText 33 = .ok (.iconst 0, 1) := by decide +kernel
theorem dX4_isText_34 : decode cX4_isText 34 = .ok (.ireturn, 1) := by decide +kernel
end
section
-- new objects: raw while they are made, typed when they are whole
theorem jKe.st {G : jT} {H0 H H1 : Heap} {G0 : jT} {a : Nat} (h : jKe G0 G H0 H) (ha : H0.size ≤ a) (hr : ∀ q, q ≠ a → H1[q]? = H[q]?) : jKe G0 G H0 H1 := ⟨fun q hq => (hr q (by omega)).trans (h.1 q hq), h.2⟩
section J20
variable {p : Program} {l : Launch} {e : Env} {R : Room} {s : State} {m : MethodId} {args : Array Value} {below : List Frame} {meth : Method} {c : Code} {H : Heap} {locs : List Loc} {cells slots : Nat} {Q : State → Prop}
variable {cc : ByteArray} {pc : Nat} {ls : Array Slot} {rest : List Value} {dC : Nat → ClassId} {dI : Nat → Nat → Nat} {ca : Nat → ClassId} {B : jF} {base : Nat} {G0 G : jT} {E : List (Nat × Nat)} {H0 : Heap} {zc zs : Nat} {L : List jPin} {M : List jCt} {I : List jIv} {a k n i index N : Nat} {tys : List (ClassId × FieldType)} {own C : String} {T : u_T} {fs : List Value}
/-- an array of references: null at first -/
theorem j7_newqK {cA : ClassId} {P : jT → Option Nat → Prop} (hexec : p.tables.exec = Jvm.exec) (hb : c.code = cc) (hown : s.vm.findClass own = some m.cls) (hclink : (Cond.classLink own index C).before args s = true) (hover : va_AO C s) (hK : va_K (dC, dI) vwCl tys s) (hh : jSt (dC, dI) B base G0 G E s.heap zc zs L M I H locs) (hB : jBok B) (hBk : ∀ n G a H, B k n G a H ↔ jAq (dC, dI) cA P n G a H) (t0 : Nat) (ht : tys[t0]? = some (cA, .object C)) (hk : k < 1000) (hb0 : base ≤ s.heap.size) {z : Int32} {x : Int} (hi : z.toInt = x) (h0 : 0 ≤ x ∧ x ≤ 200000) (hP : ∀ G, P G none) (hR : zc + 1 ≤ R.cells) (hR2 : zs + x.toNat ≤ R.slots) (hdg : decode cc pc = .ok (.anewarray index, 3))
    (kk : ∀ (H1 : Heap), (∀ q, q < H.size → H1[q]? = H[q]?) → jSt (dC, dI) B base G0 (va_up G H.size (some (k, x.toNat))) E s.heap (zc + 1) (zs + x.toNat) L M I H1 locs → va_at (dC, dI) vwCl (H.size, .inl (cA, x.toNat, .inr (.inr (.inr (.inr (fun _ => none)))))) H1 → W p l e R s m args below meth c H1 locs (zc + 1) (zs + x.toNat) Q (F0 m (pc + 3) ls (.ref H.size :: rest))) : W p l e R s m args below meth c H locs cells slots Q (F0 m pc ls (.int z :: rest)) := by
  have hn0 : ¬ z < 0 := jb_n0 hi h0.1
  have hcl : z.toNatClampNeg = x.toNat := jb_cl hi h0.1
  have hsz := hh.1.1
  refine W.tight (c2 := zc) (n2 := zs) hh.2.2.2.2.2.1 hh.2.2.2.2.2.2.1 ?_
  refine W.anew hexec hb hown hclink (va_AO.use hover) rfl hdg rfl hn0 (by rw [hcl]; omega) hR (by rw [hcl]; exact hR2) fun cB kA comp f1 f2 f3 f4 => ?_
  obtain ⟨kA', comp', k1, k2, k3, k4⟩ := (hK.2 t0 _ ht).2
  have hc : cB = cA := by
    first
      | exact Option.some.inj (f1.symm.trans k4)
      | exact Option.some.inj (f4.symm.trans k4)
      | exact (Option.some.inj (f1.symm.trans k3))
  subst hc
  generalize hH1 : H.push ({ cls := cB, slots := Array.replicate z.toNatClampNeg .null, vm := .none } : Cell) = H1
  have z1 : H1.size = H.size + 1 := by rw [← hH1, Array.size_push]
  have e1 : H1[H.size]? = some (arrV cB z.toNatClampNeg (fun _ => .null)) := by rw [← hH1, Array.getElem?_push_size, ← arrV_new]
  have o1 : ∀ q : Nat, q < H.size → H1[q]? = H[q]? := fun q hq => by rw [← hH1, Array.getElem?_push, if_neg (Nat.ne_of_lt hq)]
  have hat : va_at (dC, dI) vwCl (H.size, .inl (cB, x.toNat, .inr (.inr (.inr (.inr (fun _ => none)))))) H1 := by
    show H1[H.size]? = some (vp_cell _ _)
    rw [e1, hcl]; rfl
  rw [hcl]
  exact kk H1 o1 (hh.new hB (Nat.le_trans hb0 hsz) z1 o1 (by rw [jTot_push z1 e1 o1, arrV_size, hcl]) hk ((hBk _ _ _ _).mpr ⟨fun _ => none, hat, fun j _ => hP _⟩)) hat
end J20
-- all growing Bytes hold no more than they have room for
def jQa (k : Nat) (G : jT) : Option Nat → Prop := fun o => o = none ∨ ∃ x n, o = some x ∧ G x = some (k, n)
end
section
-- arrays of references that get their kind when they are filled; arrays of arrays of ints
section J22
variable {p : Program} {l : Launch} {e : Env} {R : Room} {s : State} {m : MethodId} {args : Array Value} {below : List Frame} {meth : Method} {c : Code} {H : Heap} {locs : List Loc} {cells slots : Nat} {Q : State → Prop}
variable {cc : ByteArray} {pc : Nat} {ls : Array Slot} {rest : List Value} {dC : Nat → ClassId} {dI : Nat → Nat → Nat} {ca : Nat → ClassId} {B : jF} {base : Nat} {G0 G : jT} {E : List (Nat × Nat)} {H0 : Heap} {zc zs : Nat} {L : List jPin} {M : List jCt} {I : List jIv} {a k n index : Nat} {tys : List (ClassId × FieldType)} {own C : String} {cA : ClassId} {f : Nat → Option Nat}
theorem j7_newqR (hexec : p.tables.exec = Jvm.exec) (hb : c.code = cc) (hown : s.vm.findClass own = some m.cls) (hclink : (Cond.classLink own index C).before args s = true) (hover : va_AO C s) (hK : va_K (dC, dI) vwCl tys s) (hh : jSt (dC, dI) B base G0 G E s.heap zc zs L M I H locs) (hB : jBok B) (t0 : Nat) (ht : tys[t0]? = some (cA, .object C)) {z : Int32} {x : Int} (hi : z.toInt = x) (h0 : 0 ≤ x ∧ x ≤ 200000) (hR : zc + 1 ≤ R.cells) (hR2 : zs + x.toNat ≤ R.slots) (hdg : decode cc pc = .ok (.anewarray index, 3))
    (kk : ∀ (H1 : Heap), (∀ q, q < H.size → H1[q]? = H[q]?) → (∀ t, G H.size ≠ some t) → va_at (dC, dI) vwCl (H.size, .inl (cA, x.toNat, .inr (.inr (.inr (.inr (fun _ => none)))))) H1 → jSt (dC, dI) B base G0 G E s.heap (zc + 1) (zs + x.toNat) L M I H1 locs → W p l e R s m args below meth c H1 locs (zc + 1) (zs + x.toNat) Q (F0 m (pc + 3) ls (.ref H.size :: rest))) : W p l e R s m args below meth c H locs cells slots Q (F0 m pc ls (.int z :: rest)) := by
  have hn0 : ¬ z < 0 := jb_n0 hi h0.1
  have hcl : z.toNatClampNeg = x.toNat := jb_cl hi h0.1
  refine W.tight (c2 := zc) (n2 := zs) hh.2.2.2.2.2.1 hh.2.2.2.2.2.2.1 ?_
  refine W.anew hexec hb hown hclink (va_AO.use hover) rfl hdg rfl hn0 (by rw [hcl]; omega) hR (by rw [hcl]; exact hR2) fun cB kA comp f1 f2 f3 f4 => ?_
  obtain ⟨kA', comp', k1, k2, k3, k4⟩ := (hK.2 t0 _ ht).2
  have hc : cB = cA := Option.some.inj (f1.symm.trans k4)
  subst hc
  generalize hH1 : H.push ({ cls := cB, slots := Array.replicate z.toNatClampNeg .null, vm := .none } : Cell) = H1
  have z1 : H1.size = H.size + 1 := by rw [← hH1, Array.size_push]
  have e1 : H1[H.size]? = some (arrV cB z.toNatClampNeg (fun _ => .null)) := by rw [← hH1, Array.getElem?_push_size, ← arrV_new]
  have o1 : ∀ q : Nat, q < H.size → H1[q]? = H[q]? := fun q hq => by rw [← hH1, Array.getElem?_push, if_neg (Nat.ne_of_lt hq)]
  rw [hcl] at e1 ⊢
  exact kk H1 o1 (fun t => by rw [hh.2.1.fresh]; exact fun h => by cases h) (by show H1[H.size]? = some (vp_cell _ _); rw [e1]; rfl) (hh.newR hB z1 o1 (by rw [jTot_push z1 e1 o1, arrV_size]))
end J22
end
section
theorem dX8_isReady_0 : decode cX8_isReady 0 = .ok (.aload_n 0, 1) := by decide +kernel
theorem dX8_isReady_1 : decode cX8_isReady 1 = .ok (.getfield 47, 3) := by decide +kernel
theorem dX8_isReady_4 : decode cX8_isReady 4 = .ok (.ifnull 17, 3) := by decide +kernel
theorem dX8_isReady_7 : decode cX8_isReady 7 = .ok (.aload_n 0, 1) := by decide +kernel
theorem dX8_isReady_8 : decode cX8_isReady 8 = .ok (.getfield 47, 3) := by decide +kernel
theorem dX8_isReady_11 : decode cX8_isReady 11 = .ok (.getfield 51, 3) := by decide +kernel
theorem dX8_isReady_14 : decode cX8_isReady 14 = .ok (.aload_n 0, 1) := by decide +kernel
theorem dX8_isReady_15 : decode cX8_isReady 15 = .ok (.getfield 56, 3) := by decide +kernel
theorem dX8_isReady_18 : decode cX8_isReady 18 = .ok (.if_icmp .lt 7, 3) := by decide +kernel
theorem dX8_isReady_21 : decode cX8_isReady 21 = .ok (.iconst 1, 1) := by decide +kernel
theorem dX8_isReady_22 : decode cX8_isReady 22 = .ok (.goto 4, 3) := by decide +kernel
theorem dX8_isReady_25 : decode cX8_isReady 25 = .ok (.iconst 0, 1) := by decide +kernel
theorem dX8_isReady_26 : decode cX8_isReady 26 = .ok (.ireturn, 1) := by decide +kernel
def EX8_isReady : List (Nat × Nat) := []
set_option maxHeartbeats 4000000 in
set_option maxRecDepth 20000 in
theorem uX8_isReady (l : Launch) (dC : Nat → ClassId) (dI : Nat → Nat → Nat) (ca : Nat → ClassId) (base : Nat) (B : jF) (hB : jBok B) (hAp : jAp (dC, dI)) (hB3 : ∀ n G a H, B 3 n G a H ↔ jOb (dC, dI) 3 17 (F3 n G) a H) (hB10 : ∀ n G a H, B 10 n G a H ↔ jOb (dC, dI) 10 5 (F10 n G) a H) (G0 : jT) (H0 : Heap) (r0 : Nat) : Met l yX8_isReady (jw yX8_isReady cX8_isReady 1 (some .boolean)) ({ frames := 0, cells := 0, slots := 0, locals := 0 }) (va_Pc [.ref r0] (fun U => U.heap = H0 ∧ jX B base G0 [] H0 ∧ jG dC dI ca base U ∧ G0 r0 = some (10, 0) ∧ jP (dC, dI) G0 H0 [] ∧ True)) (va_Qi (S := Unit) (fun r u => (r = 0 ∨ r = 1) ∧ (True)) (fun u t => jRt (dC, dI) B base G0 EX8_isReady H0 [] t.heap) (jA base)) 0 0 (jA base) := by
  refine Met.ofW (cc := cX8_isReady) (maxL := 1) (ret := (some .boolean)) (by decide) rfl ?_
  intro p e s m args below meth c s₁ Bd hml hv
  obtain ⟨rfl, hH0, hX, hG, hg_r0, hP0, hp0⟩ := hv
  have hK := hG.1
  have hx := Bd.exec
  have hb := Bd.bytes
  have hr := Bd.returns
  have hts := atoms_spec (ws := (jw yX8_isReady cX8_isReady 1 (some .boolean))) Bd.pre
  have htw : ∀ w ∈ jWl, w.before _ s = true := fun w h => hts w (List.mem_cons_of_mem _ h)
  have hown : s.vm.findClass RX8 = some m.cls := findClass_of_methodNamed Bd.named
  have hlocks := Bd.notSynchronized
  obtain ⟨Q, hQ⟩ : ∃ Q, Q = MQ below (va_Qi (S := Unit) (fun r u => (r = 0 ∨ r = 1) ∧ (True)) (fun u t => jRt (dC, dI) B base G0 EX8_isReady H0 [] t.heap) (jA base)) ([.ref r0] : List Value).toArray s 0 0 (jA base) := ⟨_, rfl⟩
  rw [← hQ]
  have hl := lv_entry ([.ref r0]) (n := 1) (Nat.le_of_ble_eq_true rfl)
  rw [lg_entry_eq]
  generalize (lg_sl ([.ref r0]) ++ List.replicate (1 - (lg_sl ([.ref r0])).length) Slot.unset).toArray = ls at hl ⊢
  have hl : lv_has ls 1 [(0, .ref r0)] := hl
  generalize hR : (headSpec (jw yX8_isReady cX8_isReady 1 (some .boolean)) ({ frames := 0, cells := 0, slots := 0, locals := 0 })).room = R
  subst hH0
  have hh : jSt (dC, dI) B base G0 G0 EX8_isReady s.heap 0 0 [] [] [] s.heap [] := jSt.start hX hP0 jMc.nil jIs.nil
  clear hX hP0
  have hk0 : (0 : Int32).toInt = 0 := by decide
  have hk1 : (1 : Int32).toInt = 1 := by decide
  have hly_3_10 := htw (u_lay RX1 TX1 10) (jWc_wsX10 _ (u_in_lay (by decide)))
  have hly_10_1 := htw (u_lay RX8 TX8 1) (jWc_wsX80 _ (u_in_lay (by decide)))
  have hly_10_2 := htw (u_lay RX8 TX8 2) (jWc_wsX80 _ (u_in_lay (by decide)))
  have hlk_47 := (htw (.fieldLink RX8 47 "ProofServer$Request" "about" "LProofServer$Document;") (jWr_29 _ (List.mem_of_getElem? (i := 23) rfl)))
  have hlk_51 := (htw (.fieldLink RX8 51 "ProofServer$Document" "checked" "I") (jWr_30 _ (List.mem_of_getElem? (i := 0) rfl)))
  have hlk_56 := (htw (.fieldLink RX8 56 "ProofServer$Request" "needed" "I") (jWr_30 _ (List.mem_of_getElem? (i := 1) rfl)))
  refine lv_aload_n hx hb dX8_isReady_0 rfl (lv_at hl 0 rfl) ?_
  obtain ⟨v_1, hv_1, hh_2⟩ := hh.pin (C := RX8) (T := TX8) (N := 5) hB10 rfl (by decide) hg_r0 (i := 1) (by decide) rfl
  clear hh
  rcases hv_1 with rfl | ⟨about_3, rfl, hg_about_3⟩
  · refine j7_read hx hb hown hK (C := RX8) (T := TX8) (N := 5) rfl hly_10_1 hlk_47 (hh_2.at 0 rfl) dX8_isReady_1 ?_
    refine lv_ifnullN (tgt := 21) hx hb dX8_isReady_4 (by decide) ?_
    refine lv_iconst (v := 1) hx hb dX8_isReady_21 (by decide) ?_
    refine lv_goto (tgt := 26) hx hb dX8_isReady_22 (by decide) ?_
    rw [hQ]
    exact W.zret (v := 1) hx hb hr (jb_nz (Or.inr rfl)) (fun t ht hW => ⟨⟨1, (), rfl, ⟨(Or.inr rfl), trivial⟩, hh_2.rt (M1 := []) [] rfl ht⟩, by rw [ht]; try exact hh_2.1.1, fun q h9 hq => by rw [ht]; try exact hh_2.1.2.1 q h9 hq⟩) hh_2.1.2.2 dX8_isReady_26
  · refine j7_read hx hb hown hK (C := RX8) (T := TX8) (N := 5) rfl hly_10_1 hlk_47 (hh_2.at 0 rfl) dX8_isReady_1 ?_
    refine lv_ifnull hx hb dX8_isReady_4 ?_
    refine lv_aload_n hx hb dX8_isReady_7 rfl (lv_at hl 0 rfl) ?_
    refine j7_read hx hb hown hK (C := RX8) (T := TX8) (N := 5) rfl hly_10_1 hlk_47 (hh_2.at 0 rfl) dX8_isReady_8 ?_
    obtain ⟨v_4, hv_4, hh_5⟩ := hh_2.pin (C := RX1) (T := TX1) (N := 17) hB3 rfl (by decide) hg_about_3 (i := 10) (by decide) rfl
    clear hh_2
    obtain ⟨checked_6, rfl, hlochecked_6, hhichecked_6⟩ := hv_4
    refine j7_read hx hb hown hK (C := RX1) (T := TX1) (N := 17) rfl hly_3_10 hlk_51 (hh_5.at 0 rfl) dX8_isReady_11 ?_
    refine lv_aload_n hx hb dX8_isReady_14 rfl (lv_at hl 0 rfl) ?_
    obtain ⟨v_7, hv_7, hh_8⟩ := hh_5.pin (C := RX8) (T := TX8) (N := 5) hB10 rfl (by decide) hg_r0 (i := 2) (by decide) rfl
    clear hh_5
    obtain ⟨needed_9, rfl⟩ := hv_7
    refine j7_read hx hb hown hK (C := RX8) (T := TX8) (N := 5) rfl hly_10_2 hlk_56 (hh_8.at 0 rfl) dX8_isReady_15 ?_
    refine lv_icmp_lt (tgt := 25) hx hb dX8_isReady_18 (by decide) (fun c_10 => ?_) (fun c_10 => ?_)
    · skip
      have c_10' : checked_6.toInt < needed_9.toInt := jb_lt (rfl) (rfl) c_10
      refine lv_iconst (v := 0) hx hb dX8_isReady_25 (by decide) ?_
      rw [hQ]
      exact W.zret (v := 0) hx hb hr (jb_nz (Or.inl rfl)) (fun t ht hW => ⟨⟨0, (), rfl, ⟨(Or.inl rfl), trivial⟩, hh_8.rt (M1 := []) [] rfl ht⟩, by rw [ht]; try exact hh_8.1.1, fun q h9 hq => by rw [ht]; try exact hh_8.1.2.1 q h9 hq⟩) hh_8.1.2.2 dX8_isReady_26
    · skip
      have c_10' : checked_6.toInt ≥ needed_9.toInt := jb_lt_n (rfl) (rfl) c_10
      refine lv_iconst (v := 1) hx hb dX8_isReady_21 (by decide) ?_
      refine lv_goto (tgt := 26) hx hb dX8_isReady_22 (by decide) ?_
      rw [hQ]
      exact W.zret (v := 1) hx hb hr (jb_nz (Or.inr rfl)) (fun t ht hW => ⟨⟨1, (), rfl, ⟨(Or.inr rfl), trivial⟩, hh_8.rt (M1 := []) [] rfl ht⟩, by rw [ht]; try exact hh_8.1.1, fun q h9 hq => by rw [ht]; try exact hh_8.1.2.1 q h9 hq⟩) hh_8.1.2.2 dX8_isReady_26
end
section
-- System.arraycopy of ints in a walk
section J21
variable {p : Program} {l : Launch} {e : Env} {R : Room} {s : State} {m : MethodId} {args : Array Value} {below : List Frame} {meth : Method} {c : Code} {H : Heap} {locs : List Loc} {cells slots : Nat} {Q : State → Prop}
variable {cc : ByteArray} {pc : Nat} {ls : Array Slot} {rest : List Value} {dC : Nat → ClassId} {dI : Nat → Nat → Nat} {ca : Nat → ClassId} {B : jF} {base : Nat} {G0 G : jT} {E : List (Nat × Nat)} {H0 : Heap} {zc zs : Nat} {L : List jPin} {M : List jCt} {I : List jIv} {a a0 k k0 n n0 index : Nat} {tys : List (ClassId × FieldType)} {own : String} {P P0 : Nat → Int32 → Prop} {cA : ClassId}
theorem j7_iastF (hexec : p.tables.exec = Jvm.exec) (hb : c.code = cc) (hK : va_K (dC, dI) vwCl tys s) (hh : jSt (dC, dI) B base G0 G E H0 zc zs L M I H locs) (hB : jBok B) (hBk : ∀ n G a H, B k n G a H ↔ jAr (dC, dI) cA P n a H) (t0 : Nat) (ht : tys[t0]? = some (cA, .int)) (hk : k < 1000) (hk2 : 17 ≤ k) (hE : E.contains (k, 0) = true) (hM : M.all (fun q => !(q.2.1 == k)) = true) (hI : I.all (fun q => !(q.1.contains (k, 0))) = true) (ha : G a = some (k, n)) {i v : Int32} {x : Int} (hi : i.toInt = x) (h12 : 0 ≤ x ∧ x < n) (hv : P x.toNat v) (hdg : decode cc pc = .ok (.iastore, 1))
    (kk : ∀ (H1 : Heap) (locs1 : List Loc), (∀ q, q ≠ a → H1[q]? = H[q]?) → jSt (dC, dI) B base G0 G E H0 zc zs L M I H1 locs1 → W p l e R s m args below meth c H1 locs1 cells slots Q (F0 m (pc + 1) ls rest)) : W p l e R s m args below meth c H locs cells slots Q (F0 m pc ls (.int v :: .int i :: .ref a :: rest)) := by
  obtain ⟨h1, h2⟩ := h12
  obtain ⟨f, g1, g2⟩ := hh.ar hBk hk ha
  exact j_iast (A := jA base) hexec hb hK t0 g1 (hh.ab ha).1 hh.1.2.2 ht (jb_in hi h1 h2) hdg (fun H1 locs1 hat hsz hfr hT hL => kk H1 locs1 hfr (hh.arr hB ha hk hk2 hE hM hI hsz hfr hT hL ((hBk _ _ _ _).mpr ⟨_, hat, jAr_upd g2 hi h1 hv⟩)))
end J21
end
section
-- an array of arrays gets its kind
theorem jKe.typn {G0 G : jT} {H0 H : Heap} {a : Nat} {t : Option (Nat × Nat)} (h : jKe G0 G H0 H) (ha : H0.size ≤ a) : jKe G0 (va_up G a t) H0 H := ⟨h.1, fun q u hq hg => h.2 q u hq (by rw [va_up_ne _ _ (by omega)] at hg; exact hg)⟩
end
section
-- what the kernel's walks need: raw arrays of ints, arrays whose last element is null, states, new goals
section J30
variable {p : Program} {l : Launch} {e : Env} {R : Room} {s : State} {m : MethodId} {args : Array Value} {below : List Frame} {meth : Method} {c : Code} {H : Heap} {locs : List Loc} {cells slots : Nat} {Q : State → Prop}
variable {cc : ByteArray} {pc : Nat} {ls : Array Slot} {rest : List Value} {dC : Nat → ClassId} {dI : Nat → Nat → Nat} {ca : Nat → ClassId} {B : jF} {base : Nat} {G0 G : jT} {E : List (Nat × Nat)} {H0 : Heap} {zc zs : Nat} {L : List jPin} {M : List jCt} {I : List jIv} {a a0 k k0 n n0 index : Nat} {tys : List (ClassId × FieldType)} {own C : String} {cA : ClassId}
end J30
theorem jFrc.full {f : Nat → Option Nat} {c c1 : Int} (h : jFrc f c) (hc : 6 ≤ c) : jFrc f c1 := fun i h6 _ => h i h6 (by omega)
end
section
-- all cells but these stay
theorem jKx.st {r : Nat} {G : jT} {H0 H H1 : Heap} {G0 : jT} {a : Nat} (h : jKx r G0 G H0 H) (ha : H0.size ≤ a) (hr : ∀ q, q ≠ a → H1[q]? = H[q]?) : jKx r G0 G H0 H1 := ⟨fun q hq hn => (hr q (by omega)).trans (h.1 q hq hn), h.2⟩
theorem jKx.typn {r : Nat} {G0 G : jT} {H0 H : Heap} {a : Nat} {t : Option (Nat × Nat)} (h : jKx r G0 G H0 H) (ha : H0.size ≤ a) : jKx r G0 (va_up G a t) H0 H := ⟨h.1, fun q u hq hn hg => h.2 q u hq hn (by rw [va_up_ne _ _ (by omega)] at hg; exact hg)⟩
section J31
variable {p : Program} {l : Launch} {e : Env} {R : Room} {s : State} {m : MethodId} {args : Array Value} {below : List Frame} {meth : Method} {c : Code} {H : Heap} {locs : List Loc} {cells slots : Nat} {Q : State → Prop}
variable {cc : ByteArray} {pc : Nat} {ls : Array Slot} {rest : List Value} {dC : Nat → ClassId} {dI : Nat → Nat → Nat} {ca : Nat → ClassId} {B : jF} {base : Nat} {G0 G : jT} {E : List (Nat × Nat)} {H0 : Heap} {zc zs : Nat} {L : List jPin} {M : List jCt} {I : List jIv} {a k n : Nat} {tys : List (ClassId × FieldType)} {cA : ClassId}
theorem j7_lastF (hexec : p.tables.exec = Jvm.exec) (hb : c.code = cc) (hK : va_K (dC, dI) vwCl tys s) (hh : jSt (dC, dI) B base G0 G E H0 zc zs L M I H locs) (hB : jBok B) (hBk : ∀ n G a H, B k n G a H ↔ jAl (dC, dI) cA n a H) (t0 : Nat) (ht : tys[t0]? = some (cA, .long)) (hk : k < 1000) (hk2 : 17 ≤ k) (hE : E.contains (k, 0) = true) (hM : M.all (fun q => !(q.2.1 == k)) = true) (hI : I.all (fun q => !(q.1.contains (k, 0))) = true) (ha : G a = some (k, n)) {i : Int32} {v : Int64} {x : Int} (hi : i.toInt = x) (h12 : 0 ≤ x ∧ x < n) (hdg : decode cc pc = .ok (.lastore, 1))
    (kk : ∀ (H1 : Heap) (locs1 : List Loc), (∀ q, q ≠ a → H1[q]? = H[q]?) → jSt (dC, dI) B base G0 G E H0 zc zs L M I H1 locs1 → W p l e R s m args below meth c H1 locs1 cells slots Q (F0 m (pc + 1) ls rest)) : W p l e R s m args below meth c H locs cells slots Q (F0 m pc ls (.long v :: .int i :: .ref a :: rest)) := by
  obtain ⟨h1, h2⟩ := h12
  obtain ⟨f, g1⟩ := hh.al hBk hk ha
  exact j_last (A := jA base) hexec hb hK t0 g1 (hh.ab ha).1 hh.1.2.2 ht (jb_in hi h1 h2) hdg (fun H1 locs1 hat hsz hfr hT hL => kk H1 locs1 hfr (hh.arr hB ha hk hk2 hE hM hI hsz hfr hT hL ((hBk _ _ _ _).mpr ⟨_, hat⟩)))
end J31
end
section
def F12b (n : Nat) (G : jT) : List (Value → Prop) := [jRf G 8 0, jRf G 101 1500, jRf G 293 1500, jI 0 1500, jI 0 1503, jIa, jRf G 292 3, jI 0 3, jIa, jRf G 280 3000, jI 0 3000]
end
section
def jQh (G : jT) : Option Nat → Prop := fun o => o = none ∨ ∃ x n, o = some x ∧ G x = some (5, n) ∧ (n % 10 ≠ 4 ∨ 10 ≤ n)
end
