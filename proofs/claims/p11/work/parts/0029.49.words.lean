section
theorem jWr_59 : ∀ w ∈ wsL_law_r59, w ∈ jWl := fun w h => jT59 w (List.mem_append_left _ h)
theorem jWr_60 : ∀ w ∈ wsL_law_r60, w ∈ jWl := fun w h => jT60 w (List.mem_append_left _ h)
theorem jWr_62 : ∀ w ∈ wsL_law_r62, w ∈ jWl := fun w h => jT62 w (List.mem_append_left _ h)
theorem jWr_64 : ∀ w ∈ wsL_law_r64, w ∈ jWl := fun w h => jT64 w (List.mem_append_left _ h)
end
section
-- the refined heap: every field of a typed object holds a value of its own predicate, every element of a typed array too; what is known of a field just now is a pin (address, kind, field, value)
section J7
variable {p : Program} {l : Launch} {e : Env} {R : Room} {s : State} {m : MethodId} {args : Array Value} {below : List Frame} {meth : Method} {c : Code} {H : Heap} {locs : List Loc} {cells slots : Nat} {Q : State → Prop}
variable {cc : ByteArray} {pc : Nat} {ls : Array Slot} {rest : List Value} {dC : Nat → ClassId} {dI : Nat → Nat → Nat} {ca : Nat → ClassId} {B : jF} {base : Nat} {G0 G : jT} {E : List (Nat × Nat)} {H0 : Heap} {zc zs : Nat} {L : List jPin} {M : List jCt} {I : List jIv} {a k n i index N : Nat} {tys : List (ClassId × FieldType)} {own C : String} {T : u_T}
end J7
section J8
variable {p : Program} {l : Launch} {e : Env} {R : Room} {s : State} {m : MethodId} {args : Array Value} {below : List Frame} {meth : Method} {c : Code} {H : Heap} {locs : List Loc} {cells slots : Nat} {Q : State → Prop}
variable {cc : ByteArray} {pc : Nat} {ls : Array Slot} {rest : List Value} {dC : Nat → ClassId} {dI : Nat → Nat → Nat} {ca : Nat → ClassId} {B : jF} {base : Nat} {G0 G : jT} {E : List (Nat × Nat)} {H0 : Heap} {zc zs : Nat} {L : List jPin} {M : List jCt} {I : List jIv} {a k n : Nat} {P : Nat → Int32 → Prop} {cA : ClassId} {tys : List (ClassId × FieldType)}
theorem j7_zald (hexec : p.tables.exec = Jvm.exec) (hb : c.code = cc) (hK : va_K (dC, dI) vwCl tys s) (hh : jSt (dC, dI) B base G0 G E H0 zc zs L M I H locs) (hBk : ∀ n G a H, B k n G a H ↔ jAr (dC, dI) cA P n a H) (t0 : Nat) (ht : tys[t0]? = some (cA, .boolean)) (hk : k < 1000) (ha : G a = some (k, n)) {i : Int32} {x : Int} (hi : i.toInt = x) (h12 : 0 ≤ x ∧ x < n) (hdg : decode cc pc = .ok (.baload, 1))
    (kk : ∀ z : Int32, P x.toNat z → W p l e R s m args below meth c H locs cells slots Q (F0 m (pc + 1) ls (.int z :: rest))) : W p l e R s m args below meth c H locs cells slots Q (F0 m pc ls (.int i :: .ref a :: rest)) := by
  obtain ⟨h1, h2⟩ := h12
  obtain ⟨f, g1, g2⟩ := hh.ar hBk hk ha
  exact va_zald hexec hb hK (jp_one g1) 0 t0 rfl ht (jb_in hi h1 h2) hdg (kk _ (by rw [← jb_cl hi h1]; exact g2 _ (jb_cl_lt hi h1 h2)))
end J8
end
section
theorem dX13_node_0 : decode cX13_node 0 = .ok (.aload_n 0, 1) := by decide +kernel
theorem dX13_node_1 : decode cX13_node 1 = .ok (.getfield 12, 3) := by decide +kernel
theorem dX13_node_4 : decode cX13_node 4 = .ok (.aload_n 0, 1) := by decide +kernel
theorem dX13_node_5 : decode cX13_node 5 = .ok (.getfield 99, 3) := by decide +kernel
theorem dX13_node_8 : decode cX13_node 8 = .ok (.iload_n 1, 1) := by decide +kernel
theorem dX13_node_9 : decode cX13_node 9 = .ok (.iastore, 1) := by decide +kernel
theorem dX13_node_10 : decode cX13_node 10 = .ok (.aload_n 0, 1) := by decide +kernel
theorem dX13_node_11 : decode cX13_node 11 = .ok (.getfield 16, 3) := by decide +kernel
theorem dX13_node_14 : decode cX13_node 14 = .ok (.aload_n 0, 1) := by decide +kernel
theorem dX13_node_15 : decode cX13_node 15 = .ok (.getfield 99, 3) := by decide +kernel
theorem dX13_node_18 : decode cX13_node 18 = .ok (.iload_n 2, 1) := by decide +kernel
theorem dX13_node_19 : decode cX13_node 19 = .ok (.iastore, 1) := by decide +kernel
theorem dX13_node_20 : decode cX13_node 20 = .ok (.aload_n 0, 1) := by decide +kernel
theorem dX13_node_21 : decode cX13_node 21 = .ok (.getfield 19, 3) := by decide +kernel
theorem dX13_node_24 : decode cX13_node 24 = .ok (.aload_n 0, 1) := by decide +kernel
theorem dX13_node_25 : decode cX13_node 25 = .ok (.getfield 99, 3) := by decide +kernel
theorem dX13_node_28 : decode cX13_node 28 = .ok (.iload_n 3, 1) := by decide +kernel
theorem dX13_node_29 : decode cX13_node 29 = .ok (.iastore, 1) := by decide +kernel
theorem dX13_node_30 : decode cX13_node 30 = .ok (.aload_n 0, 1) := by decide +kernel
theorem dX13_node_31 : decode cX13_node 31 = .ok (.getfield 22, 3) := by decide +kernel
theorem dX13_node_34 : decode cX13_node 34 = .ok (.aload_n 0, 1) := by decide +kernel
theorem dX13_node_35 : decode cX13_node 35 = .ok (.getfield 99, 3) := by decide +kernel
theorem dX13_node_38 : decode cX13_node 38 = .ok (.iload 4, 2) := by decide +kernel
theorem dX13_node_40 : decode cX13_node 40 = .ok (.iastore, 1) := by decide +kernel
theorem dX13_node_41 : decode cX13_node 41 = .ok (.aload_n 0, 1) := by decide +kernel
theorem dX13_node_42 : decode cX13_node 42 = .ok (.getfield 25, 3) := by decide +kernel
theorem dX13_node_45 : decode cX13_node 45 = .ok (.aload_n 0, 1) := by decide +kernel
theorem dX13_node_46 : decode cX13_node 46 = .ok (.getfield 99, 3) := by decide +kernel
theorem dX13_node_49 : decode cX13_node 49 = .ok (.iload 5, 2) := by decide +kernel
theorem dX13_node_51 : decode cX13_node 51 = .ok (.iastore, 1) := by decide +kernel
theorem dX13_node_52 : decode cX13_node 52 = .ok (.aload_n 0, 1) := by decide +kernel
theorem dX13_node_53 : decode cX13_node 53 = .ok (.dup, 1) := by decide +kernel
theorem dX13_node_54 : decode cX13_node 54 = .ok (.getfield 99, 3) := by decide +kernel
theorem dX13_node_57 : decode cX13_node 57 = .ok (.iconst 1, 1) := by decide +kernel
theorem dX13_node_58 : decode cX13_node 58 = .ok (.iadd, 1) := by decide +kernel
theorem dX13_node_59 : decode cX13_node 59 = .ok (.putfield 99, 3) := by decide +kernel
theorem dX13_node_62 : decode cX13_node 62 = .ok (.aload_n 0, 1) := by decide +kernel
theorem dX13_node_63 : decode cX13_node 63 = .ok (.getfield 99, 3) := by decide +kernel
theorem dX13_node_66 : decode cX13_node 66 = .ok (.iconst 1, 1) := by decide +kernel
theorem dX13_node_67 : decode cX13_node 67 = .ok (.isub, 1) := by decide +kernel
theorem dX13_node_68 : decode cX13_node 68 = .ok (.ireturn, 1) := by decide +kernel
theorem dX13_fails_0 : decode cX13_fails 0 = .ok (.aload_n 0, 1) := by decide +kernel
theorem dX13_fails_1 : decode cX13_fails 1 = .ok (.getfield 221, 3) := by decide +kernel
theorem dX13_fails_4 : decode cX13_fails 4 = .ok (.ifCond .ne 8, 3) := by decide +kernel
theorem dX13_fails_7 : decode cX13_fails 7 = .ok (.aload_n 0, 1) := by decide +kernel
theorem dX13_fails_8 : decode cX13_fails 8 = .ok (.iload_n 1, 1) := by decide +kernel
theorem dX13_fails_9 : decode cX13_fails 9 = .ok (.putfield 221, 3) := by decide +kernel
theorem dX13_fails_12 : decode cX13_fails 12 = .ok (.return_, 1) := by decide +kernel
theorem dX13_symbolOf_0 : decode cX13_symbolOf 0 = .ok (.iconst 0, 1) := by decide +kernel
theorem dX13_symbolOf_1 : decode cX13_symbolOf 1 = .ok (.istore_n 2, 1) := by decide +kernel
theorem dX13_symbolOf_2 : decode cX13_symbolOf 2 = .ok (.iload_n 2, 1) := by decide +kernel
theorem dX13_symbolOf_3 : decode cX13_symbolOf 3 = .ok (.aload_n 0, 1) := by decide +kernel
theorem dX13_symbolOf_4 : decode cX13_symbolOf 4 = .ok (.getfield 109, 3) := by decide +kernel
theorem dX13_symbolOf_7 : decode cX13_symbolOf 7 = .ok (.if_icmp .ge 21, 3) := by decide +kernel
theorem dX13_symbolOf_10 : decode cX13_symbolOf 10 = .ok (.aload_n 0, 1) := by decide +kernel
theorem dX13_symbolOf_11 : decode cX13_symbolOf 11 = .ok (.getfield 37, 3) := by decide +kernel
theorem dX13_symbolOf_14 : decode cX13_symbolOf 14 = .ok (.iload_n 2, 1) := by decide +kernel
theorem dX13_symbolOf_15 : decode cX13_symbolOf 15 = .ok (.iaload, 1) := by decide +kernel
theorem dX13_symbolOf_16 : decode cX13_symbolOf 16 = .ok (.iload_n 1, 1) := by decide +kernel
theorem dX13_symbolOf_17 : decode cX13_symbolOf 17 = .ok (.if_icmp .ne 5, 3) := by decide +kernel
theorem dX13_symbolOf_20 : decode cX13_symbolOf 20 = .ok (.iload_n 2, 1) := by decide +kernel
theorem dX13_symbolOf_21 : decode cX13_symbolOf 21 = .ok (.ireturn, 1) := by decide +kernel
theorem dX13_symbolOf_22 : decode cX13_symbolOf 22 = .ok (.iinc 2 1, 3) := by decide +kernel
theorem dX13_symbolOf_25 : decode cX13_symbolOf 25 = .ok (.goto (-23), 3) := by decide +kernel
theorem dX13_symbolOf_28 : decode cX13_symbolOf 28 = .ok (.iconst (-1), 1) := by decide +kernel
theorem dX13_symbolOf_29 : decode cX13_symbolOf 29 = .ok (.ireturn, 1) := by decide +kernel
theorem dX13_isVariable_0 : decode cX13_isVariable 0 = .ok (.iconst 0, 1) := by decide +kernel
theorem dX13_isVariable_1 : decode cX13_isVariable 1 = .ok (.istore_n 2, 1) := by decide +kernel
theorem dX13_isVariable_2 : decode cX13_isVariable 2 = .ok (.aload_n 0, 1) := by decide +kernel
theorem dX13_isVariable_3 : decode cX13_isVariable 3 = .ok (.getfield 119, 3) := by decide +kernel
theorem dX13_isVariable_6 : decode cX13_isVariable 6 = .ok (.ifCond .le 31, 3) := by decide +kernel
theorem dX13_isVariable_9 : decode cX13_isVariable 9 = .ok (.iload_n 2, 1) := by decide +kernel
theorem dX13_isVariable_10 : decode cX13_isVariable 10 = .ok (.aload_n 0, 1) := by decide +kernel
theorem dX13_isVariable_11 : decode cX13_isVariable 11 = .ok (.getfield 56, 3) := by decide +kernel
theorem dX13_isVariable_14 : decode cX13_isVariable 14 = .ok (.iconst 0, 1) := by decide +kernel
theorem dX13_isVariable_15 : decode cX13_isVariable 15 = .ok (.iaload, 1) := by decide +kernel
theorem dX13_isVariable_16 : decode cX13_isVariable 16 = .ok (.if_icmp .ge 21, 3) := by decide +kernel
theorem dX13_isVariable_19 : decode cX13_isVariable 19 = .ok (.aload_n 0, 1) := by decide +kernel
theorem dX13_isVariable_20 : decode cX13_isVariable 20 = .ok (.getfield 59, 3) := by decide +kernel
theorem dX13_isVariable_23 : decode cX13_isVariable 23 = .ok (.iload_n 2, 1) := by decide +kernel
theorem dX13_isVariable_24 : decode cX13_isVariable 24 = .ok (.iaload, 1) := by decide +kernel
theorem dX13_isVariable_25 : decode cX13_isVariable 25 = .ok (.iload_n 1, 1) := by decide +kernel
theorem dX13_isVariable_26 : decode cX13_isVariable 26 = .ok (.if_icmp .ne 5, 3) := by decide +kernel
theorem dX13_isVariable_29 : decode cX13_isVariable 29 = .ok (.iconst 1, 1) := by decide +kernel
theorem dX13_isVariable_30 : decode cX13_isVariable 30 = .ok (.ireturn, 1) := by decide +kernel
theorem dX13_isVariable_31 : decode cX13_isVariable 31 = .ok (.iinc 2 1, 3) := by decide +kernel
theorem dX13_isVariable_34 : decode cX13_isVariable 34 = .ok (.goto (-32), 3) := by decide +kernel
theorem dX13_isVariable_37 : decode cX13_isVariable 37 = .ok (.iconst 0, 1) := by decide +kernel
theorem dX13_isVariable_38 : decode cX13_isVariable 38 = .ok (.ireturn, 1) := by decide +kernel
def EX13_isVariable : List (Nat × Nat) := []
set_option maxHeartbeats 4000000 in
set_option maxRecDepth 20000 in
theorem uX13_isVariable (l : Launch) (dC : Nat → ClassId) (dI : Nat → Nat → Nat) (ca : Nat → ClassId) (base : Nat) (B : jF) (hB : jBok B) (hAp : jAp (dC, dI)) (hB15 : ∀ n G a H, B 15 n G a H ↔ jOb (dC, dI) 15 50 (F15 n G) a H) (hB158 : ∀ n G a H, B 158 n G a H ↔ jAr (dC, dI) (ca 1) (fun j z => 0 ≤ z.toInt ∧ z.toInt ≤ 6) n a H) (hB163 : ∀ n G a H, B 163 n G a H ↔ jAr (dC, dI) (ca 1) (fun j z => 0 ≤ z.toInt ∧ z.toInt ≤ 1599) n a H) (G0 : jT) (H0 : Heap) (r0 : Nat) (a1 : Int32) : Met l yX13_isVariable (jw yX13_isVariable cX13_isVariable 3 (some .boolean)) ({ frames := 0, cells := 0, slots := 0, locals := 0 }) (va_Pc [.ref r0, .int a1] (fun U => U.heap = H0 ∧ jX B base G0 [] H0 ∧ jG dC dI ca base U ∧ G0 r0 = some (15, 0) ∧ jP (dC, dI) G0 H0 [] ∧ True)) (va_Qi (S := Unit) (fun r u => (r = 0 ∨ r = 1) ∧ (True)) (fun u t => jRt (dC, dI) B base G0 EX13_isVariable H0 [] t.heap) (jA base)) 0 0 (jA base) := by
  refine Met.ofW (cc := cX13_isVariable) (maxL := 3) (ret := (some .boolean)) (by decide) rfl ?_
  intro p e s m args below meth c s₁ Bd hml hv
  obtain ⟨rfl, hH0, hX, hG, hg_r0, hP0, hp0⟩ := hv
  have hK := hG.1
  have hx := Bd.exec
  have hb := Bd.bytes
  have hr := Bd.returns
  have hts := atoms_spec (ws := (jw yX13_isVariable cX13_isVariable 3 (some .boolean))) Bd.pre
  have htw : ∀ w ∈ jWl, w.before _ s = true := fun w h => hts w (List.mem_cons_of_mem _ h)
  have hown : s.vm.findClass RX13 = some m.cls := findClass_of_methodNamed Bd.named
  have hlocks := Bd.notSynchronized
  obtain ⟨Q, hQ⟩ : ∃ Q, Q = MQ below (va_Qi (S := Unit) (fun r u => (r = 0 ∨ r = 1) ∧ (True)) (fun u t => jRt (dC, dI) B base G0 EX13_isVariable H0 [] t.heap) (jA base)) ([.ref r0, .int a1] : List Value).toArray s 0 0 (jA base) := ⟨_, rfl⟩
  rw [← hQ]
  have hl := lv_entry ([.ref r0, .int a1]) (n := 3) (Nat.le_of_ble_eq_true rfl)
  rw [lg_entry_eq]
  generalize (lg_sl ([.ref r0, .int a1]) ++ List.replicate (3 - (lg_sl ([.ref r0, .int a1])).length) Slot.unset).toArray = ls at hl ⊢
  have hl : lv_has ls 3 [(0, .ref r0), (1, .int a1)] := hl
  generalize hR : (headSpec (jw yX13_isVariable cX13_isVariable 3 (some .boolean)) ({ frames := 0, cells := 0, slots := 0, locals := 0 })).room = R
  subst hH0
  have hh : jSt (dC, dI) B base G0 G0 EX13_isVariable s.heap 0 0 [] [] [] s.heap [] := jSt.start hX hP0 jMc.nil jIs.nil
  clear hX hP0
  have hk0 : (0 : Int32).toInt = 0 := by decide
  have hk1 : (1 : Int32).toInt = 1 := by decide
  have hly_15_21 := htw (u_lay RX13 TX13 21) (jWc_wsX130 _ (u_in_lay (by decide)))
  have hly_15_23 := htw (u_lay RX13 TX13 23) (jWc_wsX130 _ (u_in_lay (by decide)))
  have hly_15_24 := htw (u_lay RX13 TX13 24) (jWc_wsX130 _ (u_in_lay (by decide)))
  have hlk_119 := (htw (.fieldLink RX13 119 "ProofServerModel$Kernel" "goals" "I") (jWr_59 _ (List.mem_of_getElem? (i := 20) rfl)))
  have hlk_56 := (htw (.fieldLink RX13 56 "ProofServerModel$Kernel" "vars" "[I") (jWr_14 _ (List.mem_of_getElem? (i := 23) rfl)))
  have hlk_59 := (htw (.fieldLink RX13 59 "ProofServerModel$Kernel" "varName" "[I") (jWr_15 _ (List.mem_of_getElem? (i := 0) rfl)))
  have hrg_a1 := jb_rng a1
  refine lv_iconst (v := 0) hx hb dX13_isVariable_0 (by decide) ?_
  refine lv_istore_n (lv' := [(2, .int 0), (0, .ref r0), (1, .int a1)]) hx hb dX13_isVariable_1 rfl hl (by decide) rfl (fun ls hl => ?_)
  have L2 : ∀ (N : Nat) (v2_1 : Int32) (H_1 : Heap) (locs_1 : List Loc), jSt (dC, dI) B base G0 G0 EX13_isVariable s.heap 0 0 [] [] [] H_1 locs_1 → (0 ≤ v2_1.toInt ∧ v2_1.toInt ≤ 6) → (6 - v2_1.toInt : Int) < N → ∀ ls : Array Slot, lv_has ls 3 [(0, .ref r0), (1, .int a1), (2, .int v2_1)] → W p l e R s m ([.ref r0, .int a1] : List Value).toArray below meth c H_1 locs_1 0 0 Q (F0 m 2 ls []) := by
    intro N
    induction N with
    | zero => intro v2_1 H_1 locs_1 hh_1  hi_1 hm; exact absurd hm (by omega)
    | succ N L2 =>
      intro v2_1 H_1 locs_1 hh_1  hi_1 hm_1 ls hl
      obtain ⟨hi_1_0, hi_1_1⟩ := hi_1
      refine lv_aload_n hx hb dX13_isVariable_2 rfl (lv_at hl 0 rfl) ?_
      obtain ⟨v_2, hv_2, hh_3⟩ := hh_1.pin (C := RX13) (T := TX13) (N := 50) hB15 rfl (by decide) hg_r0 (i := 21) (by decide) rfl
      clear hh_1
      obtain ⟨goals_4, rfl, hlogoals_4, hhigoals_4⟩ := hv_2
      refine j7_read hx hb hown hK (C := RX13) (T := TX13) (N := 50) rfl hly_15_21 hlk_119 (hh_3.at 0 rfl) dX13_isVariable_3 ?_
      refine lv_if_le (tgt := 37) hx hb dX13_isVariable_6 (by decide) (fun c_5 => ?_) (fun c_5 => ?_)
      · skip
        have c_5' : goals_4.toInt ≤ 0 := jb_le (rfl) ((by decide)) c_5
        refine lv_iconst (v := 0) hx hb dX13_isVariable_37 (by decide) ?_
        rw [hQ]
        exact W.zret (v := 0) hx hb hr (jb_nz (Or.inl rfl)) (fun t ht hW => ⟨⟨0, (), rfl, ⟨(Or.inl rfl), trivial⟩, hh_3.rt (M1 := []) [] rfl ht⟩, by rw [ht]; try exact hh_3.1.1, fun q h9 hq => by rw [ht]; try exact hh_3.1.2.1 q h9 hq⟩) hh_3.1.2.2 dX13_isVariable_38
      · skip
        have c_5' : goals_4.toInt > 0 := jb_le_n (rfl) ((by decide)) c_5
        refine lv_iload_n hx hb dX13_isVariable_9 rfl (lv_at hl 2 rfl) ?_
        refine lv_aload_n hx hb dX13_isVariable_10 rfl (lv_at hl 0 rfl) ?_
        obtain ⟨v_6, hv_6, hh_7⟩ := hh_3.pin (C := RX13) (T := TX13) (N := 50) hB15 rfl (by decide) hg_r0 (i := 23) (by decide) rfl
        clear hh_3
        obtain ⟨vars_8, rfl, hg_vars_8⟩ := hv_6
        refine j7_read hx hb hown hK (C := RX13) (T := TX13) (N := 50) rfl hly_15_23 hlk_56 (hh_7.at 0 rfl) dX13_isVariable_11 ?_
        refine lv_iconst (v := 0) hx hb dX13_isVariable_14 (by decide) ?_
        refine j7_iald hx hb hK hh_7 hB158 1 rfl (by decide) hg_vars_8 (x := 0) ((by decide)) (by omega) dX13_isVariable_15 (fun z_9 (hz_9 : 0 ≤ z_9.toInt ∧ z_9.toInt ≤ 6) => ?_)
        refine lv_icmp_ge (tgt := 37) hx hb dX13_isVariable_16 (by decide) (fun c_10 => ?_) (fun c_10 => ?_)
        · skip
          have c_10' : v2_1.toInt ≥ z_9.toInt := jb_ge (rfl) (rfl) c_10
          refine lv_iconst (v := 0) hx hb dX13_isVariable_37 (by decide) ?_
          rw [hQ]
          exact W.zret (v := 0) hx hb hr (jb_nz (Or.inl rfl)) (fun t ht hW => ⟨⟨0, (), rfl, ⟨(Or.inl rfl), trivial⟩, hh_7.rt (M1 := []) [] rfl ht⟩, by rw [ht]; try exact hh_7.1.1, fun q h9 hq => by rw [ht]; try exact hh_7.1.2.1 q h9 hq⟩) hh_7.1.2.2 dX13_isVariable_38
        · skip
          have c_10' : v2_1.toInt < z_9.toInt := jb_ge_n (rfl) (rfl) c_10
          refine lv_aload_n hx hb dX13_isVariable_19 rfl (lv_at hl 0 rfl) ?_
          obtain ⟨v_11, hv_11, hh_12⟩ := hh_7.pin (C := RX13) (T := TX13) (N := 50) hB15 rfl (by decide) hg_r0 (i := 24) (by decide) rfl
          clear hh_7
          obtain ⟨varName_13, rfl, hg_varName_13⟩ := hv_11
          refine j7_read hx hb hown hK (C := RX13) (T := TX13) (N := 50) rfl hly_15_24 hlk_59 (hh_12.at 0 rfl) dX13_isVariable_20 ?_
          refine lv_iload_n hx hb dX13_isVariable_23 rfl (lv_at hl 2 rfl) ?_
          refine j7_iald hx hb hK hh_12 hB163 1 rfl (by decide) hg_varName_13 (x := v2_1.toInt) (rfl) (by omega) dX13_isVariable_24 (fun z_14 (hz_14 : 0 ≤ z_14.toInt ∧ z_14.toInt ≤ 1599) => ?_)
          refine lv_iload_n hx hb dX13_isVariable_25 rfl (lv_at hl 1 rfl) ?_
          refine lv_icmp_ne (tgt := 31) hx hb dX13_isVariable_26 (by decide) (fun c_15 => ?_) (fun c_15 => ?_)
          · skip
            have c_15' : z_14.toInt ≠ a1.toInt := jb_ne (rfl) (rfl) c_15
            obtain ⟨z_16, ez_16⟩ : ∃ y : Int32, y = v2_1 + 1 := ⟨_, rfl⟩
            refine lv_iinc (v := z_16) (lv' := [(2, .int z_16), (0, .ref r0), (1, .int a1)]) hx hb dX13_isVariable_31 hl (k := 2) rfl (by rw [ez_16]; rfl) (by decide) rfl (fun ls hl => ?_)
            have hz_16 : z_16.toInt = v2_1.toInt + 1 := by rw [ez_16]; exact jb_iadd2 (rfl) (by decide) (by omega)
            refine lv_goto (tgt := 2) hx hb dX13_isVariable_34 (by decide) ?_
            exact L2 z_16 _ _ (hh_12.sub (L1 := []) [] rfl (M1 := []) [] rfl (I1 := []) [] rfl) (by first | omega | (refine ⟨?_, ?_⟩ <;> (first | omega | rfl | assumption | decide | exact Or.inl rfl | exact Or.inr rfl | (simp only; omega)))) (by omega) _ (lv_sub hl [1, 2, 0] rfl)
          · skip
            have c_15' : z_14.toInt = a1.toInt := jb_ne_n (rfl) (rfl) c_15
            refine lv_iconst (v := 1) hx hb dX13_isVariable_29 (by decide) ?_
            rw [hQ]
            exact W.zret (v := 1) hx hb hr (jb_nz (Or.inr rfl)) (fun t ht hW => ⟨⟨1, (), rfl, ⟨(Or.inr rfl), trivial⟩, hh_12.rt (M1 := []) [] rfl ht⟩, by rw [ht]; try exact hh_12.1.1, fun q h9 hq => by rw [ht]; try exact hh_12.1.2.1 q h9 hq⟩) hh_12.1.2.2 dX13_isVariable_30
  exact L2 (6 - (0 : Int32).toInt : Int).toNat.succ 0 _ _ hh (by first | omega | (refine ⟨?_, ?_⟩ <;> (first | omega | rfl | assumption | decide | exact Or.inl rfl | exact Or.inr rfl | (simp only; omega)))) (by omega) _ (lv_sub hl [1, 2, 0] rfl)
end
section
-- formulas of the reference's kernel as rows of numbers: what a node is, its size, likeness, counting, putting in
theorem jNw.fm {C D : jK} {N Y b ws wn wa wb wc : Int} {d : Nat} (h : jNw C D N ws wn wa wb wc) (hnd : jNd D (N + 1) Y b N) (ha : 0 < jPts D N → jFm C N Y d (b + jQf D N) wa) (hb : 1 < jPts D N → jFm C N Y d (b + jQf D N) wb) (hc : 2 < jPts D N → jFm C N Y d (b + jQf D N) wc) : jFm D (N + 1) Y (d + 1) b N := by
  obtain ⟨hA, e1, e2, e3, e4, e5⟩ := h
  refine ⟨hnd, fun k g0 g1 => ?_⟩
  have hp3 : jPts D N ≤ 3 := hnd.2.2.2.2.2.2.2.2
  have hk : k = 0 ∨ k = 1 ∨ k = 2 := by omega
  rcases hk with rfl | rfl | rfl
  · show jFm D (N + 1) Y d (b + jQf D N) (jSo D.a N); rw [e3]; exact (ha g1).ag hA (by omega)
  · show jFm D (N + 1) Y d (b + jQf D N) (jSo D.b N); rw [e4]; exact (hb g1).ag hA (by omega)
  · show jFm D (N + 1) Y d (b + jQf D N) (jSo D.c N); rw [e5]; exact (hc g1).ag hA (by omega)
theorem jNw.sz {C D : jK} {N Y b ws wn wa wb wc : Int} {d : Nat} (h : jNw C D N ws wn wa wb wc) (hd : d + 1 ≤ 4000) (hF : jFm D (N + 1) Y (d + 1) b N) (ha : 0 < jPts D N → jFm C N Y d (b + jQf D N) wa) (hb : 1 < jPts D N → jFm C N Y d (b + jQf D N) wb) (hc : 2 < jPts D N → jFm C N Y d (b + jQf D N) wc) : jsz D N = 1 + (if 0 < jPts D N then jsz C wa else 0) + (if 1 < jPts D N then jsz C wb else 0) + (if 2 < jPts D N then jsz C wc else 0) := by
  obtain ⟨hA, e1, e2, e3, e4, e5⟩ := h
  rw [jsz_step hF hd]
  unfold jSzK
  have q0 : (if 0 < jPts D N then jsz D (jPr D N 0) else 0) = (if 0 < jPts D N then jsz C wa else 0) := by split; (next g => show jsz D (jSo D.a N) = _; rw [e3, jsz_ag hA (ha g)]); rfl
  have q1 : (if 1 < jPts D N then jsz D (jPr D N 1) else 0) = (if 1 < jPts D N then jsz C wb else 0) := by split; (next g => show jsz D (jSo D.b N) = _; rw [e4, jsz_ag hA (hb g)]); rfl
  have q2 : (if 2 < jPts D N then jsz D (jPr D N 2) else 0) = (if 2 < jPts D N then jsz C wc else 0) := by split; (next g => show jsz D (jSo D.c N) = _; rw [e5, jsz_ag hA (hc g)]); rfl
  rw [q0, q1, q2]
theorem jFm.leaf {C : jK} {N Y b n : Int} {d : Nat} (h : jFm C N Y d b n) (h0 : jPts C n = 0) {b1 : Int} (h1 : jSo C.s n = 10 → jSo C.n n < b1) {e : Nat} (he : 1 ≤ e) : jFm C N Y e b1 n ∧ jsz C n = 1 := by
  obtain ⟨q1, q2, q3, q4, q5, q6, q7⟩ := h.nd
  cases e with
  | zero => omega
  | succ e =>
    refine ⟨⟨⟨q1, q2, q3, q4, q5, fun q => ⟨(q6 q).1, h1 q⟩, q7⟩, fun k g0 g1 => by omega⟩, ?_⟩
    unfold jsz
    show 1 + (if 0 < jPts C n then jSzF C 3999 (jPr C n 0) else 0) + (if 1 < jPts C n then jSzF C 3999 (jPr C n 1) else 0) + (if 2 < jPts C n then jSzF C 3999 (jPr C n 2) else 0) = 1
    rw [h0]; simp
theorem jIf4 (p c A B E : Int) : (p = 0 → c + (if 0 < p then A else 0) + (if 1 < p then B else 0) + (if 2 < p then E else 0) = c) ∧ (p = 1 → c + (if 0 < p then A else 0) + (if 1 < p then B else 0) + (if 2 < p then E else 0) = c + A) ∧ (p = 2 → c + (if 0 < p then A else 0) + (if 1 < p then B else 0) + (if 2 < p then E else 0) = c + A + B) ∧ (p = 3 → c + (if 0 < p then A else 0) + (if 1 < p then B else 0) + (if 2 < p then E else 0) = c + A + B + E) := by
  refine ⟨fun h => ?_, fun h => ?_, fun h => ?_, fun h => ?_⟩ <;> subst h <;> simp
section J12
variable {p : Program} {l : Launch} {e : Env} {R : Room} {s : State} {m : MethodId} {args : Array Value} {below : List Frame} {meth : Method} {c : Code} {H : Heap} {locs : List Loc} {cells slots : Nat} {Q : State → Prop}
variable {cc : ByteArray} {pc : Nat} {ls : Array Slot} {rest : List Value} {dC : Nat → ClassId} {dI : Nat → Nat → Nat} {ca : Nat → ClassId} {B : jF} {base : Nat} {G0 G : jT} {E : List (Nat × Nat)} {H0 : Heap} {zc zs : Nat} {L : List jPin} {M : List jCt} {I : List jIv} {a k n : Nat} {P : Nat → Int32 → Prop} {cA : ClassId} {tys : List (ClassId × FieldType)}
end J12
end
section
def EX13_nodeK : List (Nat × Nat) := [(15, 5), (150, 0), (151, 0), (152, 0), (153, 0), (154, 0)]
set_option maxHeartbeats 4000000 in
set_option maxRecDepth 20000 in
theorem uX13_nodeK (l : Launch) (dC : Nat → ClassId) (dI : Nat → Nat → Nat) (ca : Nat → ClassId) (base : Nat) (B : jF) (hB : jBok B) (hAp : jAp (dC, dI)) (hB15 : ∀ n G a H, B 15 n G a H ↔ jOb (dC, dI) 15 50 (F15 n G) a H) (hB150 : ∀ n G a H, B 150 n G a H ↔ jAr (dC, dI) (ca 1) (fun j z => True) n a H) (hB151 : ∀ n G a H, B 151 n G a H ↔ jAr (dC, dI) (ca 1) (fun j z => True) n a H) (hB152 : ∀ n G a H, B 152 n G a H ↔ jAr (dC, dI) (ca 1) (fun j z => True) n a H) (hB153 : ∀ n G a H, B 153 n G a H ↔ jAr (dC, dI) (ca 1) (fun j z => True) n a H) (hB154 : ∀ n G a H, B 154 n G a H ↔ jAr (dC, dI) (ca 1) (fun j z => True) n a H) (hB165 : ∀ n G a H, B 165 n G a H ↔ jAr (dC, dI) (ca 1) (fun j z => 0 ≤ z.toInt ∧ z.toInt ≤ 3) n a H) (G0 : jT) (H0 : Heap) (r0 : Nat) (a1 : Int32) (a2 : Int32) (a3 : Int32) (a4 : Int32) (a5 : Int32) (pn : Int32) (zs : Nat) (zn : Nat) (za : Nat) (zb : Nat) (zc : Nat) (zy : Nat) (C : jK) : Met l yX13_node (jw yX13_node cX13_node 6 (some .int)) ({ frames := 0, cells := 0, slots := 0, locals := 0 }) (va_Pc [.ref r0, .int a1, .int a2, .int a3, .int a4, .int a5] (fun U => U.heap = H0 ∧ jX B base G0 [] H0 ∧ jG dC dI ca base U ∧ G0 r0 = some (15, 0) ∧ G0 zs = some (150, 120000) ∧ G0 zn = some (151, 120000) ∧ G0 za = some (152, 120000) ∧ G0 zb = some (153, 120000) ∧ G0 zc = some (154, 120000) ∧ G0 zy = some (165, 16) ∧ jP (dC, dI) G0 H0 [(r0, 15, 5, .int pn), (r0, 15, 0, .ref zs), (r0, 15, 1, .ref zn), (r0, 15, 2, .ref za), (r0, 15, 3, .ref zb), (r0, 15, 4, .ref zc), (r0, 15, 14, .ref zy)] ∧ jMc (dC, dI) G0 H0 [(zs, 150, 120000, ca 1, C.s), (zn, 151, 120000, ca 1, C.n), (za, 152, 120000, ca 1, C.a), (zb, 153, 120000, ca 1, C.b), (zc, 154, 120000, ca 1, C.c), (zy, 165, 16, ca 1, C.y)] ∧ 0 ≤ pn.toInt ∧ pn.toInt ≤ 119999)) (va_Qi (S := Int32 × jK) (fun r u => (r.toInt = pn.toInt ∧ u.1.toInt = pn.toInt + 1 ∧ jNw C u.2 pn.toInt a1.toInt a2.toInt a3.toInt a4.toInt a5.toInt)) (fun u t => jRt (dC, dI) B base G0 EX13_nodeK H0 [(r0, 15, 5, .int u.1)] t.heap ∧ jMc (dC, dI) G0 t.heap [(zs, 150, 120000, ca 1, u.2.s), (zn, 151, 120000, ca 1, u.2.n), (za, 152, 120000, ca 1, u.2.a), (zb, 153, 120000, ca 1, u.2.b), (zc, 154, 120000, ca 1, u.2.c), (zy, 165, 16, ca 1, u.2.y)]) (jA base)) 0 0 (jA base) := by
  refine Met.ofW (cc := cX13_node) (maxL := 6) (ret := (some .int)) (by decide) rfl ?_
  intro p e s m args below meth c s₁ Bd hml hv
  obtain ⟨rfl, hH0, hX, hG, hg_r0, hg_zs, hg_zn, hg_za, hg_zb, hg_zc, hg_zy, hP0, hM0, hp0, hp1⟩ := hv
  have hK := hG.1
  have hx := Bd.exec
  have hb := Bd.bytes
  have hr := Bd.returns
  have hts := atoms_spec (ws := (jw yX13_node cX13_node 6 (some .int))) Bd.pre
  have htw : ∀ w ∈ jWl, w.before _ s = true := fun w h => hts w (List.mem_cons_of_mem _ h)
  have hown : s.vm.findClass RX13 = some m.cls := findClass_of_methodNamed Bd.named
  have hlocks := Bd.notSynchronized
  obtain ⟨Q, hQ⟩ : ∃ Q, Q = MQ below (va_Qi (S := Int32 × jK) (fun r u => (r.toInt = pn.toInt ∧ u.1.toInt = pn.toInt + 1 ∧ jNw C u.2 pn.toInt a1.toInt a2.toInt a3.toInt a4.toInt a5.toInt)) (fun u t => jRt (dC, dI) B base G0 EX13_nodeK H0 [(r0, 15, 5, .int u.1)] t.heap ∧ jMc (dC, dI) G0 t.heap [(zs, 150, 120000, ca 1, u.2.s), (zn, 151, 120000, ca 1, u.2.n), (za, 152, 120000, ca 1, u.2.a), (zb, 153, 120000, ca 1, u.2.b), (zc, 154, 120000, ca 1, u.2.c), (zy, 165, 16, ca 1, u.2.y)]) (jA base)) ([.ref r0, .int a1, .int a2, .int a3, .int a4, .int a5] : List Value).toArray s 0 0 (jA base) := ⟨_, rfl⟩
  rw [← hQ]
  have hl := lv_entry ([.ref r0, .int a1, .int a2, .int a3, .int a4, .int a5]) (n := 6) (Nat.le_of_ble_eq_true rfl)
  rw [lg_entry_eq]
  generalize (lg_sl ([.ref r0, .int a1, .int a2, .int a3, .int a4, .int a5]) ++ List.replicate (6 - (lg_sl ([.ref r0, .int a1, .int a2, .int a3, .int a4, .int a5])).length) Slot.unset).toArray = ls at hl ⊢
  have hl : lv_has ls 6 [(0, .ref r0), (1, .int a1), (2, .int a2), (3, .int a3), (4, .int a4), (5, .int a5)] := hl
  generalize hR : (headSpec (jw yX13_node cX13_node 6 (some .int)) ({ frames := 0, cells := 0, slots := 0, locals := 0 })).room = R
  subst hH0
  have hh : jSt (dC, dI) B base G0 G0 EX13_nodeK s.heap 0 0 [(r0, 15, 5, .int pn), (r0, 15, 0, .ref zs), (r0, 15, 1, .ref zn), (r0, 15, 2, .ref za), (r0, 15, 3, .ref zb), (r0, 15, 4, .ref zc), (r0, 15, 14, .ref zy)] [(zs, 150, 120000, ca 1, C.s), (zn, 151, 120000, ca 1, C.n), (za, 152, 120000, ca 1, C.a), (zb, 153, 120000, ca 1, C.b), (zc, 154, 120000, ca 1, C.c), (zy, 165, 16, ca 1, C.y)] [] s.heap [] := jSt.start hX hP0 hM0 jIs.nil
  clear hX hP0
  have hk0 : (0 : Int32).toInt = 0 := by decide
  have hk1 : (1 : Int32).toInt = 1 := by decide
  have hly_15_0 := htw (u_lay RX13 TX13 0) (jWc_wsX130 _ (u_in_lay (by decide)))
  have hly_15_1 := htw (u_lay RX13 TX13 1) (jWc_wsX130 _ (u_in_lay (by decide)))
  have hly_15_2 := htw (u_lay RX13 TX13 2) (jWc_wsX130 _ (u_in_lay (by decide)))
  have hly_15_3 := htw (u_lay RX13 TX13 3) (jWc_wsX130 _ (u_in_lay (by decide)))
  have hly_15_4 := htw (u_lay RX13 TX13 4) (jWc_wsX130 _ (u_in_lay (by decide)))
  have hly_15_5 := htw (u_lay RX13 TX13 5) (jWc_wsX130 _ (u_in_lay (by decide)))
  have hlk_12 := (htw (.fieldLink RX13 12 "ProofServerModel$Kernel" "sort" "[I") (jWr_14 _ (List.mem_of_getElem? (i := 9) rfl)))
  have hlk_99 := (htw (.fieldLink RX13 99 "ProofServerModel$Kernel" "nodes" "I") (jWr_59 _ (List.mem_of_getElem? (i := 14) rfl)))
  have hlk_16 := (htw (.fieldLink RX13 16 "ProofServerModel$Kernel" "name" "[I") (jWr_14 _ (List.mem_of_getElem? (i := 10) rfl)))
  have hlk_19 := (htw (.fieldLink RX13 19 "ProofServerModel$Kernel" "one" "[I") (jWr_14 _ (List.mem_of_getElem? (i := 11) rfl)))
  have hlk_22 := (htw (.fieldLink RX13 22 "ProofServerModel$Kernel" "two" "[I") (jWr_14 _ (List.mem_of_getElem? (i := 12) rfl)))
  have hlk_25 := (htw (.fieldLink RX13 25 "ProofServerModel$Kernel" "three" "[I") (jWr_14 _ (List.mem_of_getElem? (i := 13) rfl)))
  have hrg_a1 := jb_rng a1
  have hrg_a2 := jb_rng a2
  have hrg_a3 := jb_rng a3
  have hrg_a4 := jb_rng a4
  have hrg_a5 := jb_rng a5
  refine lv_aload_n hx hb dX13_node_0 rfl (lv_at hl 0 rfl) ?_
  refine j7_read hx hb hown hK (C := RX13) (T := TX13) (N := 50) rfl hly_15_0 hlk_12 (hh.at 1 rfl) dX13_node_1 ?_
  refine lv_aload_n hx hb dX13_node_4 rfl (lv_at hl 0 rfl) ?_
  refine j7_read hx hb hown hK (C := RX13) (T := TX13) (N := 50) rfl hly_15_5 hlk_99 (hh.at 0 rfl) dX13_node_5 ?_
  refine lv_iload_n hx hb dX13_node_8 rfl (lv_at hl 1 rfl) ?_
  refine j7_iastU hx hb hK hh hB hB150 1 rfl (by decide) (by decide) rfl 0 rfl (M1 := [(zn, 151, 120000, ca 1, C.n), (za, 152, 120000, ca 1, C.a), (zb, 153, 120000, ca 1, C.b), (zc, 154, 120000, ca 1, C.c), (zy, 165, 16, ca 1, C.y)]) [1, 2, 3, 4, 5] rfl rfl rfl hg_zs (x := pn.toInt) (rfl) (by omega) (trivial) dX13_node_9 (fun H_1 locs_1 fs_2 hv_1 ho_1 hh_1 => ?_)
  have hv_1 : jSo fs_2 (pn.toInt) = a1.toInt := by unfold jSo; rw [hv_1]; try exact rfl
  clear hh
  refine lv_aload_n hx hb dX13_node_10 rfl (lv_at hl 0 rfl) ?_
  refine j7_read hx hb hown hK (C := RX13) (T := TX13) (N := 50) rfl hly_15_1 hlk_16 (hh_1.at 2 rfl) dX13_node_11 ?_
  refine lv_aload_n hx hb dX13_node_14 rfl (lv_at hl 0 rfl) ?_
  refine j7_read hx hb hown hK (C := RX13) (T := TX13) (N := 50) rfl hly_15_5 hlk_99 (hh_1.at 0 rfl) dX13_node_15 ?_
  refine lv_iload_n hx hb dX13_node_18 rfl (lv_at hl 2 rfl) ?_
  refine j7_iastU hx hb hK hh_1 hB hB151 1 rfl (by decide) (by decide) rfl 1 rfl (M1 := [(zs, 150, 120000, ca 1, fs_2), (za, 152, 120000, ca 1, C.a), (zb, 153, 120000, ca 1, C.b), (zc, 154, 120000, ca 1, C.c), (zy, 165, 16, ca 1, C.y)]) [0, 2, 3, 4, 5] rfl rfl rfl hg_zn (x := pn.toInt) (rfl) (by omega) (trivial) dX13_node_19 (fun H_3 locs_3 fs_4 hv_3 ho_3 hh_3 => ?_)
  have hv_3 : jSo fs_4 (pn.toInt) = a2.toInt := by unfold jSo; rw [hv_3]; try exact rfl
  clear hh_1
  refine lv_aload_n hx hb dX13_node_20 rfl (lv_at hl 0 rfl) ?_
  refine j7_read hx hb hown hK (C := RX13) (T := TX13) (N := 50) rfl hly_15_2 hlk_19 (hh_3.at 3 rfl) dX13_node_21 ?_
  refine lv_aload_n hx hb dX13_node_24 rfl (lv_at hl 0 rfl) ?_
  refine j7_read hx hb hown hK (C := RX13) (T := TX13) (N := 50) rfl hly_15_5 hlk_99 (hh_3.at 0 rfl) dX13_node_25 ?_
  refine lv_iload_n hx hb dX13_node_28 rfl (lv_at hl 3 rfl) ?_
  refine j7_iastU hx hb hK hh_3 hB hB152 1 rfl (by decide) (by decide) rfl 2 rfl (M1 := [(zn, 151, 120000, ca 1, fs_4), (zs, 150, 120000, ca 1, fs_2), (zb, 153, 120000, ca 1, C.b), (zc, 154, 120000, ca 1, C.c), (zy, 165, 16, ca 1, C.y)]) [0, 1, 3, 4, 5] rfl rfl rfl hg_za (x := pn.toInt) (rfl) (by omega) (trivial) dX13_node_29 (fun H_5 locs_5 fs_6 hv_5 ho_5 hh_5 => ?_)
  have hv_5 : jSo fs_6 (pn.toInt) = a3.toInt := by unfold jSo; rw [hv_5]; try exact rfl
  clear hh_3
  refine lv_aload_n hx hb dX13_node_30 rfl (lv_at hl 0 rfl) ?_
  refine j7_read hx hb hown hK (C := RX13) (T := TX13) (N := 50) rfl hly_15_3 hlk_22 (hh_5.at 4 rfl) dX13_node_31 ?_
  refine lv_aload_n hx hb dX13_node_34 rfl (lv_at hl 0 rfl) ?_
  refine j7_read hx hb hown hK (C := RX13) (T := TX13) (N := 50) rfl hly_15_5 hlk_99 (hh_5.at 0 rfl) dX13_node_35 ?_
  refine lv_iload hx hb dX13_node_38 (lv_at hl 4 rfl) ?_
  refine j7_iastU hx hb hK hh_5 hB hB153 1 rfl (by decide) (by decide) rfl 3 rfl (M1 := [(za, 152, 120000, ca 1, fs_6), (zn, 151, 120000, ca 1, fs_4), (zs, 150, 120000, ca 1, fs_2), (zc, 154, 120000, ca 1, C.c), (zy, 165, 16, ca 1, C.y)]) [0, 1, 2, 4, 5] rfl rfl rfl hg_zb (x := pn.toInt) (rfl) (by omega) (trivial) dX13_node_40 (fun H_7 locs_7 fs_8 hv_7 ho_7 hh_7 => ?_)
  have hv_7 : jSo fs_8 (pn.toInt) = a4.toInt := by unfold jSo; rw [hv_7]; try exact rfl
  clear hh_5
  refine lv_aload_n hx hb dX13_node_41 rfl (lv_at hl 0 rfl) ?_
  refine j7_read hx hb hown hK (C := RX13) (T := TX13) (N := 50) rfl hly_15_4 hlk_25 (hh_7.at 5 rfl) dX13_node_42 ?_
  refine lv_aload_n hx hb dX13_node_45 rfl (lv_at hl 0 rfl) ?_
  refine j7_read hx hb hown hK (C := RX13) (T := TX13) (N := 50) rfl hly_15_5 hlk_99 (hh_7.at 0 rfl) dX13_node_46 ?_
  refine lv_iload hx hb dX13_node_49 (lv_at hl 5 rfl) ?_
  refine j7_iastU hx hb hK hh_7 hB hB154 1 rfl (by decide) (by decide) rfl 4 rfl (M1 := [(zb, 153, 120000, ca 1, fs_8), (za, 152, 120000, ca 1, fs_6), (zn, 151, 120000, ca 1, fs_4), (zs, 150, 120000, ca 1, fs_2), (zy, 165, 16, ca 1, C.y)]) [0, 1, 2, 3, 5] rfl rfl rfl hg_zc (x := pn.toInt) (rfl) (by omega) (trivial) dX13_node_51 (fun H_9 locs_9 fs_10 hv_9 ho_9 hh_9 => ?_)
  have hv_9 : jSo fs_10 (pn.toInt) = a5.toInt := by unfold jSo; rw [hv_9]; try exact rfl
  clear hh_7
  refine lv_aload_n hx hb dX13_node_52 rfl (lv_at hl 0 rfl) ?_
  refine lv_dup hx hb dX13_node_53 rfl ?_
  refine j7_read hx hb hown hK (C := RX13) (T := TX13) (N := 50) rfl hly_15_5 hlk_99 (hh_9.at 0 rfl) dX13_node_54 ?_
  refine lv_iconst (v := 1) hx hb dX13_node_57 (by decide) ?_
  refine lv_iadd hx hb dX13_node_58 ?_
  refine lv_topi (fun z_11 ez_11 => ?_)
  have hz_11 : z_11.toInt = pn.toInt + 1 := by rw [ez_11]; exact jb_iadd2 (rfl) ((by decide)) (by omega)
  refine j7_put hx hb hown hK hh_9 hB hAp hB15 (C := RX13) (T := TX13) (N := 50) rfl (by decide) hg_r0 (i := 5) (by decide) hly_15_5 rfl hlk_99 rfl (ty := .int) (v := .int z_11) (by decide +kernel) rfl rfl (⟨_, rfl, by omega, by omega⟩) rfl (L1 := [(r0, 15, 0, .ref zs), (r0, 15, 1, .ref zn), (r0, 15, 2, .ref za), (r0, 15, 3, .ref zb), (r0, 15, 4, .ref zc), (r0, 15, 14, .ref zy)]) [1, 2, 3, 4, 5, 6] rfl rfl rfl dX13_node_59 (fun H_12 locs_12 hh_12 => ?_)
  clear hh_9
  refine lv_aload_n hx hb dX13_node_62 rfl (lv_at hl 0 rfl) ?_
  refine j7_read hx hb hown hK (C := RX13) (T := TX13) (N := 50) rfl hly_15_5 hlk_99 (hh_12.at 0 rfl) dX13_node_63 ?_
  refine lv_iconst (v := 1) hx hb dX13_node_66 (by decide) ?_
  refine lv_isub hx hb dX13_node_67 ?_
  refine lv_topi (fun z_13 ez_13 => ?_)
  have hz_13 : z_13.toInt = z_11.toInt - 1 := by rw [ez_13]; exact jb_isub2 (rfl) ((by decide)) (by omega)
  rw [hQ]
  exact W.iret (v := z_13) hx hb hr (fun t ht hW => ⟨⟨z_13, (z_11, (jK.mk fs_2 fs_4 fs_6 fs_8 fs_10 C.y)), rfl, by (try dsimp only); refine ⟨by omega, by omega, ⟨fun j hj => ⟨?_, ?_, ?_, ?_, ?_⟩, fun _ => rfl⟩, ?_, ?_, ?_, ?_, ?_⟩ <;> first | exact ho_1 j (by omega) (by omega) | exact ho_3 j (by omega) (by omega) | exact ho_5 j (by omega) (by omega) | exact ho_7 j (by omega) (by omega) | exact ho_9 j (by omega) (by omega) | exact hv_1 | exact hv_3 | exact hv_5 | exact hv_7 | exact hv_9, ⟨hh_12.rt (M1 := [(r0, 15, 5, .int z_11)]) [0] rfl ht, by rw [ht]; exact hh_12.2.2.2.2.2.2.2.1.sub [4, 3, 2, 1, 0, 5] rfl⟩⟩, by rw [ht]; try exact hh_12.1.1, fun q h9 hq => by rw [ht]; try exact hh_12.1.2.1 q h9 hq⟩) hh_12.1.2.2 dX13_node_68
end
section
-- goals, hypotheses, facts of the reference's kernel: slots of arrays
theorem jTu1.two {fg fh fp gg gh gp : Nat → Int32} {p n v : Int} (h : jTu1 fg fh fp gg gh gp p n v) (hv : v = 0) : jTu2 fg fh fp gg gh gp p n 1 := by
  subst hv
  exact ⟨h.1, fun j g0 g1 => by rw [show j = 0 by omega]; exact h.2 0 (by omega) (by omega)⟩
end
section
def EX13_failsK : List (Nat × Nat) := [(15, 34)]
def EX13_symbolOfK : List (Nat × Nat) := []
set_option maxHeartbeats 4000000 in
set_option maxRecDepth 20000 in
theorem uX13_failsK (l : Launch) (dC : Nat → ClassId) (dI : Nat → Nat → Nat) (ca : Nat → ClassId) (base : Nat) (B : jF) (hB : jBok B) (hAp : jAp (dC, dI)) (hB15 : ∀ n G a H, B 15 n G a H ↔ jOb (dC, dI) 15 50 (F15 n G) a H) (G0 : jT) (H0 : Heap) (r0 : Nat) (a1 : Int32) (pu : Int32) : Met l yX13_fails (jw yX13_fails cX13_fails 2 none) ({ frames := 0, cells := 0, slots := 0, locals := 0 }) (va_Pc [.ref r0, .int a1] (fun U => U.heap = H0 ∧ jX B base G0 [] H0 ∧ jG dC dI ca base U ∧ G0 r0 = some (15, 0) ∧ jP (dC, dI) G0 H0 [(r0, 15, 34, .int pu)] ∧ 0 ≤ pu.toInt ∧ pu.toInt ≤ 9 ∧ 1 ≤ a1.toInt ∧ a1.toInt ≤ 9)) (va_Qv (S := Int32) (fun u => 1 ≤ u.toInt ∧ u.toInt ≤ 9 ∧ pu.toInt ≤ u.toInt ∧ (1 ≤ pu.toInt → u.toInt = pu.toInt)) (fun u t => jRt (dC, dI) B base G0 EX13_failsK H0 [(r0, 15, 34, .int u)] t.heap) (jA base)) 0 0 (jA base) := by
  refine Met.ofW (cc := cX13_fails) (maxL := 2) (ret := none) (by decide) rfl ?_
  intro p e s m args below meth c s₁ Bd hml hv
  obtain ⟨rfl, hH0, hX, hG, hg_r0, hP0, hp0, hp1, hp2, hp3⟩ := hv
  have hK := hG.1
  have hx := Bd.exec
  have hb := Bd.bytes
  have hr := Bd.returns
  have hts := atoms_spec (ws := (jw yX13_fails cX13_fails 2 none)) Bd.pre
  have htw : ∀ w ∈ jWl, w.before _ s = true := fun w h => hts w (List.mem_cons_of_mem _ h)
  have hown : s.vm.findClass RX13 = some m.cls := findClass_of_methodNamed Bd.named
  have hlocks := Bd.notSynchronized
  obtain ⟨Q, hQ⟩ : ∃ Q, Q = MQ below (va_Qv (S := Int32) (fun u => 1 ≤ u.toInt ∧ u.toInt ≤ 9 ∧ pu.toInt ≤ u.toInt ∧ (1 ≤ pu.toInt → u.toInt = pu.toInt)) (fun u t => jRt (dC, dI) B base G0 EX13_failsK H0 [(r0, 15, 34, .int u)] t.heap) (jA base)) ([.ref r0, .int a1] : List Value).toArray s 0 0 (jA base) := ⟨_, rfl⟩
  rw [← hQ]
  have hl := lv_entry ([.ref r0, .int a1]) (n := 2) (Nat.le_of_ble_eq_true rfl)
  rw [lg_entry_eq]
  generalize (lg_sl ([.ref r0, .int a1]) ++ List.replicate (2 - (lg_sl ([.ref r0, .int a1])).length) Slot.unset).toArray = ls at hl ⊢
  have hl : lv_has ls 2 [(0, .ref r0), (1, .int a1)] := hl
  generalize hR : (headSpec (jw yX13_fails cX13_fails 2 none) ({ frames := 0, cells := 0, slots := 0, locals := 0 })).room = R
  subst hH0
  have hh : jSt (dC, dI) B base G0 G0 EX13_failsK s.heap 0 0 [(r0, 15, 34, .int pu)] [] [] s.heap [] := jSt.start hX hP0 jMc.nil jIs.nil
  clear hX hP0
  have hk0 : (0 : Int32).toInt = 0 := by decide
  have hk1 : (1 : Int32).toInt = 1 := by decide
  have hly_15_34 := htw (u_lay RX13 TX13 34) (jWc_wsX130 _ (u_in_lay (by decide)))
  have hlk_221 := (htw (.fieldLink RX13 221 "ProofServerModel$Kernel" "fault" "I") (jWr_60 _ (List.mem_of_getElem? (i := 3) rfl)))
  have hrg_a1 := jb_rng a1
  refine lv_aload_n hx hb dX13_fails_0 rfl (lv_at hl 0 rfl) ?_
  refine j7_read hx hb hown hK (C := RX13) (T := TX13) (N := 50) rfl hly_15_34 hlk_221 (hh.at 0 rfl) dX13_fails_1 ?_
  refine lv_if_ne (tgt := 12) hx hb dX13_fails_4 (by decide) (fun c_1 => ?_) (fun c_1 => ?_)
  · skip
    have c_1' : pu.toInt ≠ 0 := jb_ne (rfl) ((by decide)) c_1
    rw [hQ]
    exact W.vret hx hb hr (fun t ht hW => ⟨⟨pu, rfl, by first | omega | (refine ⟨?_, ?_, ?_, ?_⟩ <;> (first | omega | rfl | assumption | decide | exact Or.inl rfl | exact Or.inr rfl | (simp only; omega))), hh.rt (M1 := [(r0, 15, 34, .int pu)]) [0] rfl ht⟩, by rw [ht]; try exact hh.1.1, fun q h9 hq => by rw [ht]; try exact hh.1.2.1 q h9 hq⟩) hh.1.2.2 dX13_fails_12
  · skip
    have c_1' : pu.toInt = 0 := jb_ne_n (rfl) ((by decide)) c_1
    refine lv_aload_n hx hb dX13_fails_7 rfl (lv_at hl 0 rfl) ?_
    refine lv_iload_n hx hb dX13_fails_8 rfl (lv_at hl 1 rfl) ?_
    refine j7_put hx hb hown hK hh hB hAp hB15 (C := RX13) (T := TX13) (N := 50) rfl (by decide) hg_r0 (i := 34) (by decide) hly_15_34 rfl hlk_221 rfl (ty := .int) (v := .int a1) (by decide +kernel) rfl rfl (⟨_, rfl, by omega, by omega⟩) rfl (L1 := []) [] rfl rfl rfl dX13_fails_9 (fun H_2 locs_2 hh_2 => ?_)
    clear hh
    rw [hQ]
    exact W.vret hx hb hr (fun t ht hW => ⟨⟨a1, rfl, by first | omega | (refine ⟨?_, ?_, ?_, ?_⟩ <;> (first | omega | rfl | assumption | decide | exact Or.inl rfl | exact Or.inr rfl | (simp only; omega))), hh_2.rt (M1 := [(r0, 15, 34, .int a1)]) [0] rfl ht⟩, by rw [ht]; try exact hh_2.1.1, fun q h9 hq => by rw [ht]; try exact hh_2.1.2.1 q h9 hq⟩) hh_2.1.2.2 dX13_fails_12
set_option maxHeartbeats 4000000 in
set_option maxRecDepth 20000 in
theorem uX13_symbolOfK (l : Launch) (dC : Nat → ClassId) (dI : Nat → Nat → Nat) (ca : Nat → ClassId) (base : Nat) (B : jF) (hB : jBok B) (hAp : jAp (dC, dI)) (hB15 : ∀ n G a H, B 15 n G a H ↔ jOb (dC, dI) 15 50 (F15 n G) a H) (hB163 : ∀ n G a H, B 163 n G a H ↔ jAr (dC, dI) (ca 1) (fun j z => 0 ≤ z.toInt ∧ z.toInt ≤ 1599) n a H) (G0 : jT) (H0 : Heap) (r0 : Nat) (a1 : Int32) (py : Int32) : Met l yX13_symbolOf (jw yX13_symbolOf cX13_symbolOf 3 (some .int)) ({ frames := 0, cells := 0, slots := 0, locals := 0 }) (va_Pc [.ref r0, .int a1] (fun U => U.heap = H0 ∧ jX B base G0 [] H0 ∧ jG dC dI ca base U ∧ G0 r0 = some (15, 0) ∧ jP (dC, dI) G0 H0 [(r0, 15, 11, .int py)] ∧ 0 ≤ py.toInt ∧ py.toInt ≤ 16)) (va_Qi (S := Unit) (fun r u => (-1 ≤ r.toInt ∧ r.toInt < py.toInt)) (fun u t => jRt (dC, dI) B base G0 EX13_symbolOfK H0 [] t.heap) (jA base)) 0 0 (jA base) := by
  refine Met.ofW (cc := cX13_symbolOf) (maxL := 3) (ret := (some .int)) (by decide) rfl ?_
  intro p e s m args below meth c s₁ Bd hml hv
  obtain ⟨rfl, hH0, hX, hG, hg_r0, hP0, hp0, hp1⟩ := hv
  have hK := hG.1
  have hx := Bd.exec
  have hb := Bd.bytes
  have hr := Bd.returns
  have hts := atoms_spec (ws := (jw yX13_symbolOf cX13_symbolOf 3 (some .int))) Bd.pre
  have htw : ∀ w ∈ jWl, w.before _ s = true := fun w h => hts w (List.mem_cons_of_mem _ h)
  have hown : s.vm.findClass RX13 = some m.cls := findClass_of_methodNamed Bd.named
  have hlocks := Bd.notSynchronized
  obtain ⟨Q, hQ⟩ : ∃ Q, Q = MQ below (va_Qi (S := Unit) (fun r u => (-1 ≤ r.toInt ∧ r.toInt < py.toInt)) (fun u t => jRt (dC, dI) B base G0 EX13_symbolOfK H0 [] t.heap) (jA base)) ([.ref r0, .int a1] : List Value).toArray s 0 0 (jA base) := ⟨_, rfl⟩
  rw [← hQ]
  have hl := lv_entry ([.ref r0, .int a1]) (n := 3) (Nat.le_of_ble_eq_true rfl)
  rw [lg_entry_eq]
  generalize (lg_sl ([.ref r0, .int a1]) ++ List.replicate (3 - (lg_sl ([.ref r0, .int a1])).length) Slot.unset).toArray = ls at hl ⊢
  have hl : lv_has ls 3 [(0, .ref r0), (1, .int a1)] := hl
  generalize hR : (headSpec (jw yX13_symbolOf cX13_symbolOf 3 (some .int)) ({ frames := 0, cells := 0, slots := 0, locals := 0 })).room = R
  subst hH0
  have hh : jSt (dC, dI) B base G0 G0 EX13_symbolOfK s.heap 0 0 [(r0, 15, 11, .int py)] [] [] s.heap [] := jSt.start hX hP0 jMc.nil jIs.nil
  clear hX hP0
  have hkm1 : ((-1) : Int32).toInt = (-1) := by decide
  have hk0 : (0 : Int32).toInt = 0 := by decide
  have hk1 : (1 : Int32).toInt = 1 := by decide
  have hly_15_11 := htw (u_lay RX13 TX13 11) (jWc_wsX130 _ (u_in_lay (by decide)))
  have hly_15_12 := htw (u_lay RX13 TX13 12) (jWc_wsX130 _ (u_in_lay (by decide)))
  have hlk_109 := (htw (.fieldLink RX13 109 "ProofServerModel$Kernel" "symbols" "I") (jWr_59 _ (List.mem_of_getElem? (i := 17) rfl)))
  have hlk_37 := (htw (.fieldLink RX13 37 "ProofServerModel$Kernel" "symbol" "[I") (jWr_14 _ (List.mem_of_getElem? (i := 17) rfl)))
  have hrg_a1 := jb_rng a1
  refine lv_iconst (v := 0) hx hb dX13_symbolOf_0 (by decide) ?_
  refine lv_istore_n (lv' := [(2, .int 0), (0, .ref r0), (1, .int a1)]) hx hb dX13_symbolOf_1 rfl hl (by decide) rfl (fun ls hl => ?_)
  have L2 : ∀ (N : Nat) (v2_1 : Int32) (H_1 : Heap) (locs_1 : List Loc), jSt (dC, dI) B base G0 G0 EX13_symbolOfK s.heap 0 0 [(r0, 15, 11, .int py)] [] [] H_1 locs_1 → (0 ≤ v2_1.toInt ∧ v2_1.toInt ≤ py.toInt) → (py.toInt - v2_1.toInt : Int) < N → ∀ ls : Array Slot, lv_has ls 3 [(0, .ref r0), (1, .int a1), (2, .int v2_1)] → W p l e R s m ([.ref r0, .int a1] : List Value).toArray below meth c H_1 locs_1 0 0 Q (F0 m 2 ls []) := by
    intro N
    induction N with
    | zero => intro v2_1 H_1 locs_1 hh_1  hi_1 hm; exact absurd hm (by omega)
    | succ N L2 =>
      intro v2_1 H_1 locs_1 hh_1  hi_1 hm_1 ls hl
      obtain ⟨hi_1_0, hi_1_1⟩ := hi_1
      refine lv_iload_n hx hb dX13_symbolOf_2 rfl (lv_at hl 2 rfl) ?_
      refine lv_aload_n hx hb dX13_symbolOf_3 rfl (lv_at hl 0 rfl) ?_
      refine j7_read hx hb hown hK (C := RX13) (T := TX13) (N := 50) rfl hly_15_11 hlk_109 (hh_1.at 0 rfl) dX13_symbolOf_4 ?_
      refine lv_icmp_ge (tgt := 28) hx hb dX13_symbolOf_7 (by decide) (fun c_2 => ?_) (fun c_2 => ?_)
      · skip
        have c_2' : v2_1.toInt ≥ py.toInt := jb_ge (rfl) (rfl) c_2
        refine lv_iconst (v := (-1)) hx hb dX13_symbolOf_28 (by decide) ?_
        rw [hQ]
        exact W.iret (v := (-1)) hx hb hr (fun t ht hW => ⟨⟨(-1), (), rfl, by first | omega | (refine ⟨?_, ?_⟩ <;> (first | omega | rfl | assumption | decide | exact Or.inl rfl | exact Or.inr rfl | (simp only; omega))), hh_1.rt (M1 := []) [] rfl ht⟩, by rw [ht]; try exact hh_1.1.1, fun q h9 hq => by rw [ht]; try exact hh_1.1.2.1 q h9 hq⟩) hh_1.1.2.2 dX13_symbolOf_29
      · skip
        have c_2' : v2_1.toInt < py.toInt := jb_ge_n (rfl) (rfl) c_2
        refine lv_aload_n hx hb dX13_symbolOf_10 rfl (lv_at hl 0 rfl) ?_
        obtain ⟨v_3, hv_3, hh_4⟩ := hh_1.pin (C := RX13) (T := TX13) (N := 50) hB15 rfl (by decide) hg_r0 (i := 12) (by decide) rfl
        clear hh_1
        obtain ⟨symbol_5, rfl, hg_symbol_5⟩ := hv_3
        refine j7_read hx hb hown hK (C := RX13) (T := TX13) (N := 50) rfl hly_15_12 hlk_37 (hh_4.at 0 rfl) dX13_symbolOf_11 ?_
        refine lv_iload_n hx hb dX13_symbolOf_14 rfl (lv_at hl 2 rfl) ?_
        refine j7_iald hx hb hK hh_4 hB163 1 rfl (by decide) hg_symbol_5 (x := v2_1.toInt) (rfl) (by omega) dX13_symbolOf_15 (fun z_6 (hz_6 : 0 ≤ z_6.toInt ∧ z_6.toInt ≤ 1599) => ?_)
        refine lv_iload_n hx hb dX13_symbolOf_16 rfl (lv_at hl 1 rfl) ?_
        refine lv_icmp_ne (tgt := 22) hx hb dX13_symbolOf_17 (by decide) (fun c_7 => ?_) (fun c_7 => ?_)
        · skip
          have c_7' : z_6.toInt ≠ a1.toInt := jb_ne (rfl) (rfl) c_7
          obtain ⟨z_8, ez_8⟩ : ∃ y : Int32, y = v2_1 + 1 := ⟨_, rfl⟩
          refine lv_iinc (v := z_8) (lv' := [(2, .int z_8), (0, .ref r0), (1, .int a1)]) hx hb dX13_symbolOf_22 hl (k := 2) rfl (by rw [ez_8]; rfl) (by decide) rfl (fun ls hl => ?_)
          have hz_8 : z_8.toInt = v2_1.toInt + 1 := by rw [ez_8]; exact jb_iadd2 (rfl) (by decide) (by omega)
          refine lv_goto (tgt := 2) hx hb dX13_symbolOf_25 (by decide) ?_
          exact L2 z_8 _ _ (hh_4.sub (L1 := [(r0, 15, 11, .int py)]) [1] rfl (M1 := []) [] rfl (I1 := []) [] rfl) (by first | omega | (refine ⟨?_, ?_⟩ <;> (first | omega | rfl | assumption | decide | exact Or.inl rfl | exact Or.inr rfl | (simp only; omega)))) (by omega) _ (lv_sub hl [1, 2, 0] rfl)
        · skip
          have c_7' : z_6.toInt = a1.toInt := jb_ne_n (rfl) (rfl) c_7
          refine lv_iload_n hx hb dX13_symbolOf_20 rfl (lv_at hl 2 rfl) ?_
          rw [hQ]
          exact W.iret (v := v2_1) hx hb hr (fun t ht hW => ⟨⟨v2_1, (), rfl, by first | omega | (refine ⟨?_, ?_⟩ <;> (first | omega | rfl | assumption | decide | exact Or.inl rfl | exact Or.inr rfl | (simp only; omega))), hh_4.rt (M1 := []) [] rfl ht⟩, by rw [ht]; try exact hh_4.1.1, fun q h9 hq => by rw [ht]; try exact hh_4.1.2.1 q h9 hq⟩) hh_4.1.2.2 dX13_symbolOf_21
  exact L2 (py.toInt - (0 : Int32).toInt : Int).toNat.succ 0 _ _ hh (by first | omega | (refine ⟨?_, ?_⟩ <;> (first | omega | rfl | assumption | decide | exact Or.inl rfl | exact Or.inr rfl | (simp only; omega)))) (by omega) _ (lv_sub hl [1, 2, 0] rfl)
end
section
-- formulas as they are read: raw terms (their parts behind them), raw formulas (their parts ahead of them)
theorem jRtm.one {C : jK} {d : Nat} {x hi : Int} (h : jRtm C d x hi) (hc : jSo C.c x = 1) : x < jSo C.a x ∧ jRtm C (d - 1) (jSo C.a x) hi := by
  cases d with
  | zero => exact h.elim
  | succ d => exact h.2.2.2.2.2.2.1 hc
theorem jRtm.two {C : jK} {d : Nat} {x hi : Int} (h : jRtm C d x hi) (hc : jSo C.c x = 2) : x < jSo C.a x ∧ jRtm C (d - 1) (jSo C.a x) (jSo C.b (jSo C.a x)) ∧ jRtm C (d - 1) (jSo C.b (jSo C.a x)) hi := by
  cases d with
  | zero => exact h.elim
  | succ d => exact h.2.2.2.2.2.2.2.1 hc
theorem jRtm.three {C : jK} {d : Nat} {x hi : Int} (h : jRtm C d x hi) (hc : jSo C.c x = 3) : x < jSo C.a x ∧ jRtm C (d - 1) (jSo C.a x) (jSo C.b (jSo C.a x)) ∧ jRtm C (d - 1) (jSo C.b (jSo C.a x)) (jSo C.b (jSo C.b (jSo C.a x))) ∧ jRtm C (d - 1) (jSo C.b (jSo C.b (jSo C.a x))) hi := by
  cases d with
  | zero => exact h.elim
  | succ d => exact h.2.2.2.2.2.2.2.2 hc
theorem jRw.c11 {C : jK} {e q : Nat} {lo x hi : Int} (h : jRw C e q lo x hi) (hs : jSo C.s x = 11) : jRtm C 13 x hi := by
  cases e with
  | zero => exact h.elim
  | succ e =>
    rcases h.2.2.2 with ⟨_, t1⟩ | s1 | ⟨s1, _⟩ | ⟨s1, _⟩ | ⟨s1, s2, _⟩
    · exact t1
    all_goals omega
theorem jRw.c6 {C : jK} {e q : Nat} {lo x hi : Int} (h : jRw C e q lo x hi) (hs : jSo C.s x = 6) : ∃ m : Int, lo ≤ jSo C.a x ∧ jRtm C 13 (jSo C.a x) m ∧ m ≤ jSo C.b x ∧ jRtm C 13 (jSo C.b x) x := by
  cases e with
  | zero => exact h.elim
  | succ e =>
    rcases h.2.2.2 with ⟨s1, _⟩ | s1 | ⟨_, t1⟩ | ⟨s1, _⟩ | ⟨s1, s2, _⟩
    · omega
    · omega
    · exact t1
    all_goals omega
theorem jRw.c45 {C : jK} {e q : Nat} {lo x hi : Int} (h : jRw C e q lo x hi) (hs : jSo C.s x = 4 ∨ jSo C.s x = 5) : 0 ≤ jSo C.n x ∧ jSo C.n x ≤ 1599 ∧ 1 ≤ q ∧ jRw C (e - 1) (q - 1) lo (jSo C.a x) x := by
  cases e with
  | zero => exact h.elim
  | succ e =>
    rcases h.2.2.2 with ⟨s1, _⟩ | s1 | ⟨s1, _⟩ | ⟨_, t1⟩ | ⟨s1, s2, _⟩
    · omega
    · omega
    · omega
    · exact t1
    · omega
theorem jRw.c012 {C : jK} {e q : Nat} {lo x hi : Int} (h : jRw C e q lo x hi) (h1 : jSo C.s x ≠ 11) (h2 : jSo C.s x ≠ 3) (h3 : jSo C.s x ≠ 6) (h4 : jSo C.s x ≠ 4) (h5 : jSo C.s x ≠ 5) : 0 ≤ jSo C.s x ∧ jSo C.s x ≤ 2 ∧ ∃ m : Int, jRw C (e - 1) q lo (jSo C.a x) m ∧ jRw C (e - 1) q m (jSo C.b x) x := by
  cases e with
  | zero => exact h.elim
  | succ e =>
    rcases h.2.2.2 with ⟨s1, _⟩ | s1 | ⟨s1, _⟩ | ⟨s1, _⟩ | t1
    · exact absurd s1 h1
    · exact absurd s1 h2
    · exact absurd s1 h3
    · omega
    · exact t1
def jH1 (C : jK) (x hi : Int) : Int := if jSo C.c x = 1 then hi else jSo C.b (jSo C.a x)
def jH2 (C : jK) (x hi : Int) : Int := if jSo C.c x = 2 then hi else jSo C.b (jSo C.b (jSo C.a x))
theorem jRtm.p1 {C : jK} {d : Nat} {x hi : Int} (h : jRtm C d x hi) (h1 : 1 ≤ jSo C.c x) (h3 : jSo C.c x ≤ 3) : x < jSo C.a x ∧ jRtm C (d - 1) (jSo C.a x) (jH1 C x hi) ∧ jH1 C x hi ≤ hi ∧ jSo C.a x < hi := by
  unfold jH1
  have hc : jSo C.c x = 1 ∨ jSo C.c x = 2 ∨ jSo C.c x = 3 := by omega
  rcases hc with q | q | q
  · rw [if_pos q]; obtain ⟨z1, z2⟩ := h.one q; have := z2.ok; exact ⟨z1, z2, by omega, by omega⟩
  · rw [if_neg (by omega)]; obtain ⟨z1, z2, z3⟩ := h.two q; have := z2.ok; have := z3.ok; exact ⟨z1, z2, by omega, by omega⟩
  · rw [if_neg (by omega)]; obtain ⟨z1, z2, z3, z4⟩ := h.three q; have := z2.ok; have := z3.ok; have := z4.ok; exact ⟨z1, z2, by omega, by omega⟩
theorem jRtm.p2 {C : jK} {d : Nat} {x hi : Int} (h : jRtm C d x hi) (h1 : 2 ≤ jSo C.c x) (h3 : jSo C.c x ≤ 3) : jRtm C (d - 1) (jSo C.b (jSo C.a x)) (jH2 C x hi) ∧ jH1 C x hi = jSo C.b (jSo C.a x) ∧ jH2 C x hi ≤ hi := by
  have e1 : jH1 C x hi = jSo C.b (jSo C.a x) := by unfold jH1; rw [if_neg (by omega)]
  rw [e1]
  unfold jH2
  have hc : jSo C.c x = 2 ∨ jSo C.c x = 3 := by omega
  rcases hc with q | q
  · rw [if_pos q]; obtain ⟨z1, z2, z3⟩ := h.two q; exact ⟨z3, rfl, by omega⟩
  · rw [if_neg (by omega)]; obtain ⟨z1, z2, z3, z4⟩ := h.three q; have := z3.ok; have := z4.ok; exact ⟨z3, rfl, by omega⟩
theorem jRtm.p3 {C : jK} {d : Nat} {x hi : Int} (h : jRtm C d x hi) (h3 : jSo C.c x = 3) : jRtm C (d - 1) (jSo C.b (jSo C.b (jSo C.a x))) hi ∧ jH2 C x hi = jSo C.b (jSo C.b (jSo C.a x)) := by
  unfold jH2
  rw [if_neg (by omega)]
  exact ⟨(h.three h3).2.2.2, rfl⟩
-- new nodes of formulas
theorem jMk0 {C D : jK} {N Y b ws wn wa wb wc : Int} {e : Nat} (h : jNw C D N ws wn wa wb wc) (hs : (ws = 10 ∧ 0 ≤ wn ∧ wn < b) ∨ (ws = 9 ∧ 0 ≤ wn ∧ wn ≤ 1599) ∨ ws = 3) (h0 : 0 ≤ N) (he : 1 ≤ e) : jFm D (N + 1) Y e b N ∧ jsz D N = 1 := by
  obtain ⟨hA, e1, e2, e3, e4, e5⟩ := h
  have hl := jPts_nl D N
  have hp : jPts D N = 0 := by
    by_cases q : ws = 10
    · exact hl.1 (by omega)
    · exact hl.2.2.2 (by omega)
  have hF : jFm D (N + 1) Y 1 b N := ⟨⟨h0, by omega, by omega, by omega, fun q => by omega, fun q => by omega, fun q => by omega, by omega, by omega⟩, fun k g0 g1 => by omega⟩
  exact hF.leaf hp (fun q => by omega) he
theorem jMk1 {C D : jK} {N Y b ws wn wa wb wc : Int} {d : Nat} (h : jNw C D N ws wn wa wb wc) (hs : ws = 4 ∨ ws = 5) (hn : 0 ≤ wn ∧ wn ≤ 1599) (h0 : 0 ≤ N) (hd : d + 1 ≤ 4000) (ha : jFm C N Y d (b + 1) wa) : jFm D (N + 1) Y (d + 1) b N ∧ jsz D N = 1 + jsz C wa := by
  obtain ⟨hA, e1, e2, e3, e4, e5⟩ := h
  have h : jNw C D N ws wn wa wb wc := ⟨hA, e1, e2, e3, e4, e5⟩
  have hp : jPts D N = 1 := (jPts_nl D N).2.1 (by omega)
  have hq : jQf D N = 1 := (jQf_ok D N).1 (by omega)
  have k1 : 0 < jPts D N → jFm C N Y d (b + jQf D N) wa := fun _ => by rw [hq]; exact ha
  have k2 : 1 < jPts D N → jFm C N Y d (b + jQf D N) wb := fun q => by omega
  have k3 : 2 < jPts D N → jFm C N Y d (b + jQf D N) wc := fun q => by omega
  have hF := h.fm (Y := Y) (b := b) (d := d) ⟨h0, by omega, by omega, by omega, fun q => by omega, fun q => by omega, fun q => by omega, by omega, by omega⟩ k1 k2 k3
  refine ⟨hF, ?_⟩
  rw [h.sz hd hF k1 k2 k3, (jIf4 _ _ _ _ _).2.1 hp]
theorem jMk2 {C D : jK} {N Y b ws wn wa wb wc : Int} {d : Nat} (h : jNw C D N ws wn wa wb wc) (hs : (0 ≤ ws ∧ ws ≤ 2) ∨ ws = 6) (h0 : 0 ≤ N) (hd : d + 1 ≤ 4000) (ha : jFm C N Y d b wa) (hb : jFm C N Y d b wb) : jFm D (N + 1) Y (d + 1) b N ∧ jsz D N = 1 + jsz C wa + jsz C wb := by
  obtain ⟨hA, e1, e2, e3, e4, e5⟩ := h
  have h : jNw C D N ws wn wa wb wc := ⟨hA, e1, e2, e3, e4, e5⟩
  have hp : jPts D N = 2 := (jPts_nl D N).2.2.1 (by omega)
  have hq : jQf D N = 0 := (jQf_ok D N).2.1 (by omega)
  have k1 : 0 < jPts D N → jFm C N Y d (b + jQf D N) wa := fun _ => by rw [hq, Int.add_zero]; exact ha
  have k2 : 1 < jPts D N → jFm C N Y d (b + jQf D N) wb := fun q => by rw [hq, Int.add_zero]; exact hb
  have k3 : 2 < jPts D N → jFm C N Y d (b + jQf D N) wc := fun q => by omega
  have hF := h.fm (Y := Y) (b := b) (d := d) ⟨h0, by omega, by omega, by omega, fun q => by omega, fun q => by omega, fun q => by omega, by omega, by omega⟩ k1 k2 k3
  refine ⟨hF, ?_⟩
  rw [h.sz hd hF k1 k2 k3, (jIf4 _ _ _ _ _).2.2.1 hp]
theorem jMk7 {C D : jK} {N Y b ws wn wa wb wc m : Int} {d : Nat} (h : jNw C D N ws wn wa wb wc) (hs : ws = 7 ∨ ws = 8) (hn : 0 ≤ wn ∧ wn < Y) (hm : jSo C.y wn = m) (h0 : 0 ≤ N) (hd : d + 1 ≤ 4000) (hm0 : 0 ≤ m ∧ m ≤ 3) (ha : 1 ≤ m → jFm C N Y d b wa) (hb : 2 ≤ m → jFm C N Y d b wb) (hc : 3 ≤ m → jFm C N Y d b wc) : jFm D (N + 1) Y (d + 1) b N ∧ (m = 0 → jsz D N = 1) ∧ (m = 1 → jsz D N = 1 + jsz C wa) ∧ (m = 2 → jsz D N = 1 + jsz C wa + jsz C wb) ∧ (m = 3 → jsz D N = 1 + jsz C wa + jsz C wb + jsz C wc) := by
  obtain ⟨hA, e1, e2, e3, e4, e5⟩ := h
  have h : jNw C D N ws wn wa wb wc := ⟨hA, e1, e2, e3, e4, e5⟩
  have hy : jSo D.y wn = m := by rw [← hm]; unfold jSo; rw [hA.2]
  have hp : jPts D N = m := by unfold jPts; rw [if_pos (by omega), e2]; exact hy
  have hq : jQf D N = 0 := (jQf_ok D N).2.1 (by omega)
  have k1 : 0 < jPts D N → jFm C N Y d (b + jQf D N) wa := fun _ => by rw [hq, Int.add_zero]; exact ha (by omega)
  have k2 : 1 < jPts D N → jFm C N Y d (b + jQf D N) wb := fun q => by rw [hq, Int.add_zero]; exact hb (by omega)
  have k3 : 2 < jPts D N → jFm C N Y d (b + jQf D N) wc := fun q => by rw [hq, Int.add_zero]; exact hc (by omega)
  have hF := h.fm (Y := Y) (b := b) (d := d) ⟨h0, by omega, by omega, by omega, fun q => by omega, fun q => by omega, fun q => by omega, by omega, by omega⟩ k1 k2 k3
  have hz := h.sz hd hF k1 k2 k3
  have h4 := jIf4 (jPts D N) 1 (jsz C wa) (jsz C wb) (jsz C wc)
  refine ⟨hF, fun q => ?_, fun q => ?_, fun q => ?_, fun q => ?_⟩
  · rw [hz, h4.1 (by omega)]
  · rw [hz, h4.2.1 (by omega)]
  · rw [hz, h4.2.2.1 (by omega)]
  · rw [hz, h4.2.2.2 (by omega)]
theorem jRw.f3 {C : jK} {e q : Nat} {lo x hi N Y b : Int} (h : jRw C e q lo x hi) (hs : jSo C.s x = 3) (hN : hi ≤ N) {d : Nat} (hd : 1 ≤ d) : jFm C N Y d b x ∧ jsz C x = 1 := by
  have o := h.ok
  have hp : jPts C x = 0 := (jPts_nl C x).2.2.2 (by omega)
  have hF : jFm C N Y 1 b x := ⟨⟨by omega, by omega, by omega, by omega, fun q => by omega, fun q => by omega, fun q => by omega, by omega, by omega⟩, fun k g0 g1 => by omega⟩
  exact hF.leaf hp (fun q => by omega) hd
end
section
theorem dX13_withParts_0 : decode cX13_withParts 0 = .ok (.aload_n 0, 1) := by decide +kernel
theorem dX13_withParts_1 : decode cX13_withParts 1 = .ok (.getfield 25, 3) := by decide +kernel
theorem dX13_withParts_4 : decode cX13_withParts 4 = .ok (.iload_n 3, 1) := by decide +kernel
theorem dX13_withParts_5 : decode cX13_withParts 5 = .ok (.iaload, 1) := by decide +kernel
theorem dX13_withParts_6 : decode cX13_withParts 6 = .ok (.istore 4, 2) := by decide +kernel
theorem dX13_withParts_8 : decode cX13_withParts 8 = .ok (.iconst 0, 1) := by decide +kernel
theorem dX13_withParts_9 : decode cX13_withParts 9 = .ok (.istore 5, 2) := by decide +kernel
theorem dX13_withParts_11 : decode cX13_withParts 11 = .ok (.iconst 0, 1) := by decide +kernel
theorem dX13_withParts_12 : decode cX13_withParts 12 = .ok (.istore 6, 2) := by decide +kernel
theorem dX13_withParts_14 : decode cX13_withParts 14 = .ok (.iconst 0, 1) := by decide +kernel
theorem dX13_withParts_15 : decode cX13_withParts 15 = .ok (.istore 7, 2) := by decide +kernel
theorem dX13_withParts_17 : decode cX13_withParts 17 = .ok (.iload 4, 2) := by decide +kernel
theorem dX13_withParts_19 : decode cX13_withParts 19 = .ok (.ifCond .le 15, 3) := by decide +kernel
theorem dX13_withParts_22 : decode cX13_withParts 22 = .ok (.aload_n 0, 1) := by decide +kernel
theorem dX13_withParts_23 : decode cX13_withParts 23 = .ok (.aload_n 0, 1) := by decide +kernel
theorem dX13_withParts_24 : decode cX13_withParts 24 = .ok (.getfield 19, 3) := by decide +kernel
theorem dX13_withParts_27 : decode cX13_withParts 27 = .ok (.iload_n 3, 1) := by decide +kernel
theorem dX13_withParts_28 : decode cX13_withParts 28 = .ok (.iaload, 1) := by decide +kernel
theorem dX13_withParts_29 : decode cX13_withParts 29 = .ok (.invokevirtual 239, 3) := by decide +kernel
theorem dX13_withParts_32 : decode cX13_withParts 32 = .ok (.istore 5, 2) := by decide +kernel
theorem dX13_withParts_34 : decode cX13_withParts 34 = .ok (.iload 4, 2) := by decide +kernel
theorem dX13_withParts_36 : decode cX13_withParts 36 = .ok (.iconst 1, 1) := by decide +kernel
theorem dX13_withParts_37 : decode cX13_withParts 37 = .ok (.if_icmp .le 20, 3) := by decide +kernel
theorem dX13_withParts_40 : decode cX13_withParts 40 = .ok (.aload_n 0, 1) := by decide +kernel
theorem dX13_withParts_41 : decode cX13_withParts 41 = .ok (.aload_n 0, 1) := by decide +kernel
theorem dX13_withParts_42 : decode cX13_withParts 42 = .ok (.getfield 22, 3) := by decide +kernel
theorem dX13_withParts_45 : decode cX13_withParts 45 = .ok (.aload_n 0, 1) := by decide +kernel
theorem dX13_withParts_46 : decode cX13_withParts 46 = .ok (.getfield 19, 3) := by decide +kernel
theorem dX13_withParts_49 : decode cX13_withParts 49 = .ok (.iload_n 3, 1) := by decide +kernel
theorem dX13_withParts_50 : decode cX13_withParts 50 = .ok (.iaload, 1) := by decide +kernel
theorem dX13_withParts_51 : decode cX13_withParts 51 = .ok (.iaload, 1) := by decide +kernel
theorem dX13_withParts_52 : decode cX13_withParts 52 = .ok (.invokevirtual 239, 3) := by decide +kernel
theorem dX13_withParts_55 : decode cX13_withParts 55 = .ok (.istore 6, 2) := by decide +kernel
theorem dX13_withParts_57 : decode cX13_withParts 57 = .ok (.iload 4, 2) := by decide +kernel
theorem dX13_withParts_59 : decode cX13_withParts 59 = .ok (.iconst 2, 1) := by decide +kernel
theorem dX13_withParts_60 : decode cX13_withParts 60 = .ok (.if_icmp .le 25, 3) := by decide +kernel
theorem dX13_withParts_63 : decode cX13_withParts 63 = .ok (.aload_n 0, 1) := by decide +kernel
theorem dX13_withParts_64 : decode cX13_withParts 64 = .ok (.aload_n 0, 1) := by decide +kernel
theorem dX13_withParts_65 : decode cX13_withParts 65 = .ok (.getfield 22, 3) := by decide +kernel
theorem dX13_withParts_68 : decode cX13_withParts 68 = .ok (.aload_n 0, 1) := by decide +kernel
theorem dX13_withParts_69 : decode cX13_withParts 69 = .ok (.getfield 22, 3) := by decide +kernel
theorem dX13_withParts_72 : decode cX13_withParts 72 = .ok (.aload_n 0, 1) := by decide +kernel
theorem dX13_withParts_73 : decode cX13_withParts 73 = .ok (.getfield 19, 3) := by decide +kernel
theorem dX13_withParts_76 : decode cX13_withParts 76 = .ok (.iload_n 3, 1) := by decide +kernel
theorem dX13_withParts_77 : decode cX13_withParts 77 = .ok (.iaload, 1) := by decide +kernel
theorem dX13_withParts_78 : decode cX13_withParts 78 = .ok (.iaload, 1) := by decide +kernel
theorem dX13_withParts_79 : decode cX13_withParts 79 = .ok (.iaload, 1) := by decide +kernel
theorem dX13_withParts_80 : decode cX13_withParts 80 = .ok (.invokevirtual 239, 3) := by decide +kernel
theorem dX13_withParts_83 : decode cX13_withParts 83 = .ok (.istore 7, 2) := by decide +kernel
theorem dX13_withParts_85 : decode cX13_withParts 85 = .ok (.aload_n 0, 1) := by decide +kernel
theorem dX13_withParts_86 : decode cX13_withParts 86 = .ok (.iload_n 1, 1) := by decide +kernel
theorem dX13_withParts_87 : decode cX13_withParts 87 = .ok (.iload_n 2, 1) := by decide +kernel
theorem dX13_withParts_88 : decode cX13_withParts 88 = .ok (.iload 5, 2) := by decide +kernel
theorem dX13_withParts_90 : decode cX13_withParts 90 = .ok (.iload 6, 2) := by decide +kernel
theorem dX13_withParts_92 : decode cX13_withParts 92 = .ok (.iload 7, 2) := by decide +kernel
theorem dX13_withParts_94 : decode cX13_withParts 94 = .ok (.invokevirtual 197, 3) := by decide +kernel
theorem dX13_withParts_97 : decode cX13_withParts 97 = .ok (.ireturn, 1) := by decide +kernel
theorem dX13_meantTerm_0 : decode cX13_meantTerm 0 = .ok (.aload_n 0, 1) := by decide +kernel
theorem dX13_meantTerm_1 : decode cX13_meantTerm 1 = .ok (.getfield 221, 3) := by decide +kernel
theorem dX13_meantTerm_4 : decode cX13_meantTerm 4 = .ok (.ifCond .le 5, 3) := by decide +kernel
theorem dX13_meantTerm_7 : decode cX13_meantTerm 7 = .ok (.iconst 0, 1) := by decide +kernel
theorem dX13_meantTerm_8 : decode cX13_meantTerm 8 = .ok (.ireturn, 1) := by decide +kernel
theorem dX13_meantTerm_9 : decode cX13_meantTerm 9 = .ok (.aload_n 0, 1) := by decide +kernel
theorem dX13_meantTerm_10 : decode cX13_meantTerm 10 = .ok (.getfield 16, 3) := by decide +kernel
theorem dX13_meantTerm_13 : decode cX13_meantTerm 13 = .ok (.iload_n 1, 1) := by decide +kernel
theorem dX13_meantTerm_14 : decode cX13_meantTerm 14 = .ok (.iaload, 1) := by decide +kernel
theorem dX13_meantTerm_15 : decode cX13_meantTerm 15 = .ok (.istore_n 2, 1) := by decide +kernel
theorem dX13_meantTerm_16 : decode cX13_meantTerm 16 = .ok (.aload_n 0, 1) := by decide +kernel
theorem dX13_meantTerm_17 : decode cX13_meantTerm 17 = .ok (.getfield 242, 3) := by decide +kernel
theorem dX13_meantTerm_20 : decode cX13_meantTerm 20 = .ok (.iconst 1, 1) := by decide +kernel
theorem dX13_meantTerm_21 : decode cX13_meantTerm 21 = .ok (.isub, 1) := by decide +kernel
theorem dX13_meantTerm_22 : decode cX13_meantTerm 22 = .ok (.istore_n 3, 1) := by decide +kernel
theorem dX13_meantTerm_23 : decode cX13_meantTerm 23 = .ok (.iload_n 3, 1) := by decide +kernel
theorem dX13_meantTerm_24 : decode cX13_meantTerm 24 = .ok (.ifCond .lt 54, 3) := by decide +kernel
theorem dX13_meantTerm_27 : decode cX13_meantTerm 27 = .ok (.aload_n 0, 1) := by decide +kernel
theorem dX13_meantTerm_28 : decode cX13_meantTerm 28 = .ok (.getfield 77, 3) := by decide +kernel
theorem dX13_meantTerm_31 : decode cX13_meantTerm 31 = .ok (.iload_n 3, 1) := by decide +kernel
theorem dX13_meantTerm_32 : decode cX13_meantTerm 32 = .ok (.iaload, 1) := by decide +kernel
theorem dX13_meantTerm_33 : decode cX13_meantTerm 33 = .ok (.iload_n 2, 1) := by decide +kernel
theorem dX13_meantTerm_34 : decode cX13_meantTerm 34 = .ok (.if_icmp .eq 6, 3) := by decide +kernel
theorem dX13_meantTerm_37 : decode cX13_meantTerm 37 = .ok (.goto 35, 3) := by decide +kernel
theorem dX13_meantTerm_40 : decode cX13_meantTerm 40 = .ok (.aload_n 0, 1) := by decide +kernel
theorem dX13_meantTerm_41 : decode cX13_meantTerm 41 = .ok (.getfield 25, 3) := by decide +kernel
theorem dX13_meantTerm_44 : decode cX13_meantTerm 44 = .ok (.iload_n 1, 1) := by decide +kernel
theorem dX13_meantTerm_45 : decode cX13_meantTerm 45 = .ok (.iaload, 1) := by decide +kernel
theorem dX13_meantTerm_46 : decode cX13_meantTerm 46 = .ok (.ifCond .le 8, 3) := by decide +kernel
theorem dX13_meantTerm_49 : decode cX13_meantTerm 49 = .ok (.aload_n 0, 1) := by decide +kernel
theorem dX13_meantTerm_50 : decode cX13_meantTerm 50 = .ok (.iconst 5, 1) := by decide +kernel
theorem dX13_meantTerm_51 : decode cX13_meantTerm 51 = .ok (.invokevirtual 236, 3) := by decide +kernel
theorem dX13_meantTerm_54 : decode cX13_meantTerm 54 = .ok (.aload_n 0, 1) := by decide +kernel
theorem dX13_meantTerm_55 : decode cX13_meantTerm 55 = .ok (.bipush 10, 2) := by decide +kernel
theorem dX13_meantTerm_57 : decode cX13_meantTerm 57 = .ok (.aload_n 0, 1) := by decide +kernel
theorem dX13_meantTerm_58 : decode cX13_meantTerm 58 = .ok (.getfield 242, 3) := by decide +kernel
theorem dX13_meantTerm_61 : decode cX13_meantTerm 61 = .ok (.iconst 1, 1) := by decide +kernel
theorem dX13_meantTerm_62 : decode cX13_meantTerm 62 = .ok (.isub, 1) := by decide +kernel
theorem dX13_meantTerm_63 : decode cX13_meantTerm 63 = .ok (.iload_n 3, 1) := by decide +kernel
theorem dX13_meantTerm_64 : decode cX13_meantTerm 64 = .ok (.isub, 1) := by decide +kernel
theorem dX13_meantTerm_65 : decode cX13_meantTerm 65 = .ok (.iconst 0, 1) := by decide +kernel
theorem dX13_meantTerm_66 : decode cX13_meantTerm 66 = .ok (.iconst 0, 1) := by decide +kernel
theorem dX13_meantTerm_67 : decode cX13_meantTerm 67 = .ok (.iconst 0, 1) := by decide +kernel
theorem dX13_meantTerm_68 : decode cX13_meantTerm 68 = .ok (.invokevirtual 197, 3) := by decide +kernel
theorem dX13_meantTerm_71 : decode cX13_meantTerm 71 = .ok (.ireturn, 1) := by decide +kernel
theorem dX13_meantTerm_72 : decode cX13_meantTerm 72 = .ok (.iinc 3 (-1), 3) := by decide +kernel
theorem dX13_meantTerm_75 : decode cX13_meantTerm 75 = .ok (.goto (-52), 3) := by decide +kernel
theorem dX13_meantTerm_78 : decode cX13_meantTerm 78 = .ok (.aload_n 0, 1) := by decide +kernel
theorem dX13_meantTerm_79 : decode cX13_meantTerm 79 = .ok (.iload_n 2, 1) := by decide +kernel
theorem dX13_meantTerm_80 : decode cX13_meantTerm 80 = .ok (.invokevirtual 230, 3) := by decide +kernel
theorem dX13_meantTerm_83 : decode cX13_meantTerm 83 = .ok (.ifCond .eq 28, 3) := by decide +kernel
theorem dX13_meantTerm_86 : decode cX13_meantTerm 86 = .ok (.aload_n 0, 1) := by decide +kernel
theorem dX13_meantTerm_87 : decode cX13_meantTerm 87 = .ok (.getfield 25, 3) := by decide +kernel
theorem dX13_meantTerm_90 : decode cX13_meantTerm 90 = .ok (.iload_n 1, 1) := by decide +kernel
theorem dX13_meantTerm_91 : decode cX13_meantTerm 91 = .ok (.iaload, 1) := by decide +kernel
theorem dX13_meantTerm_92 : decode cX13_meantTerm 92 = .ok (.ifCond .le 8, 3) := by decide +kernel
theorem dX13_meantTerm_95 : decode cX13_meantTerm 95 = .ok (.aload_n 0, 1) := by decide +kernel
theorem dX13_meantTerm_96 : decode cX13_meantTerm 96 = .ok (.iconst 5, 1) := by decide +kernel
theorem dX13_meantTerm_97 : decode cX13_meantTerm 97 = .ok (.invokevirtual 236, 3) := by decide +kernel
theorem dX13_meantTerm_100 : decode cX13_meantTerm 100 = .ok (.aload_n 0, 1) := by decide +kernel
theorem dX13_meantTerm_101 : decode cX13_meantTerm 101 = .ok (.bipush 9, 2) := by decide +kernel
theorem dX13_meantTerm_103 : decode cX13_meantTerm 103 = .ok (.iload_n 2, 1) := by decide +kernel
theorem dX13_meantTerm_104 : decode cX13_meantTerm 104 = .ok (.iconst 0, 1) := by decide +kernel
theorem dX13_meantTerm_105 : decode cX13_meantTerm 105 = .ok (.iconst 0, 1) := by decide +kernel
theorem dX13_meantTerm_106 : decode cX13_meantTerm 106 = .ok (.iconst 0, 1) := by decide +kernel
theorem dX13_meantTerm_107 : decode cX13_meantTerm 107 = .ok (.invokevirtual 197, 3) := by decide +kernel
theorem dX13_meantTerm_110 : decode cX13_meantTerm 110 = .ok (.ireturn, 1) := by decide +kernel
theorem dX13_meantTerm_111 : decode cX13_meantTerm 111 = .ok (.aload_n 0, 1) := by decide +kernel
theorem dX13_meantTerm_112 : decode cX13_meantTerm 112 = .ok (.iload_n 2, 1) := by decide +kernel
theorem dX13_meantTerm_113 : decode cX13_meantTerm 113 = .ok (.invokevirtual 224, 3) := by decide +kernel
theorem dX13_meantTerm_116 : decode cX13_meantTerm 116 = .ok (.istore_n 3, 1) := by decide +kernel
theorem dX13_meantTerm_117 : decode cX13_meantTerm 117 = .ok (.iload_n 3, 1) := by decide +kernel
theorem dX13_meantTerm_118 : decode cX13_meantTerm 118 = .ok (.ifCond .lt 27, 3) := by decide +kernel
theorem dX13_meantTerm_121 : decode cX13_meantTerm 121 = .ok (.aload_n 0, 1) := by decide +kernel
theorem dX13_meantTerm_122 : decode cX13_meantTerm 122 = .ok (.getfield 40, 3) := by decide +kernel
theorem dX13_meantTerm_125 : decode cX13_meantTerm 125 = .ok (.iload_n 3, 1) := by decide +kernel
theorem dX13_meantTerm_126 : decode cX13_meantTerm 126 = .ok (.baload, 1) := by decide +kernel
theorem dX13_meantTerm_127 : decode cX13_meantTerm 127 = .ok (.ifCond .ne 18, 3) := by decide +kernel
theorem dX13_meantTerm_130 : decode cX13_meantTerm 130 = .ok (.aload_n 0, 1) := by decide +kernel
theorem dX13_meantTerm_131 : decode cX13_meantTerm 131 = .ok (.getfield 44, 3) := by decide +kernel
theorem dX13_meantTerm_134 : decode cX13_meantTerm 134 = .ok (.iload_n 3, 1) := by decide +kernel
theorem dX13_meantTerm_135 : decode cX13_meantTerm 135 = .ok (.iaload, 1) := by decide +kernel
theorem dX13_meantTerm_136 : decode cX13_meantTerm 136 = .ok (.aload_n 0, 1) := by decide +kernel
theorem dX13_meantTerm_137 : decode cX13_meantTerm 137 = .ok (.getfield 25, 3) := by decide +kernel
theorem dX13_meantTerm_140 : decode cX13_meantTerm 140 = .ok (.iload_n 1, 1) := by decide +kernel
theorem dX13_meantTerm_141 : decode cX13_meantTerm 141 = .ok (.iaload, 1) := by decide +kernel
theorem dX13_meantTerm_142 : decode cX13_meantTerm 142 = .ok (.if_icmp .eq 10, 3) := by decide +kernel
theorem dX13_meantTerm_145 : decode cX13_meantTerm 145 = .ok (.aload_n 0, 1) := by decide +kernel
theorem dX13_meantTerm_146 : decode cX13_meantTerm 146 = .ok (.iconst 5, 1) := by decide +kernel
theorem dX13_meantTerm_147 : decode cX13_meantTerm 147 = .ok (.invokevirtual 236, 3) := by decide +kernel
theorem dX13_meantTerm_150 : decode cX13_meantTerm 150 = .ok (.iconst 0, 1) := by decide +kernel
theorem dX13_meantTerm_151 : decode cX13_meantTerm 151 = .ok (.ireturn, 1) := by decide +kernel
theorem dX13_meantTerm_152 : decode cX13_meantTerm 152 = .ok (.aload_n 0, 1) := by decide +kernel
theorem dX13_meantTerm_153 : decode cX13_meantTerm 153 = .ok (.bipush 8, 2) := by decide +kernel
theorem dX13_meantTerm_155 : decode cX13_meantTerm 155 = .ok (.iload_n 3, 1) := by decide +kernel
theorem dX13_meantTerm_156 : decode cX13_meantTerm 156 = .ok (.iload_n 1, 1) := by decide +kernel
theorem dX13_meantTerm_157 : decode cX13_meantTerm 157 = .ok (.invokevirtual 245, 3) := by decide +kernel
theorem dX13_meantTerm_160 : decode cX13_meantTerm 160 = .ok (.ireturn, 1) := by decide +kernel
def EX13_withParts : List (Nat × Nat) := [(15, 5), (15, 34), (150, 0), (151, 0), (152, 0), (153, 0), (154, 0)]
def EX13_meantTerm : List (Nat × Nat) := [(15, 5), (15, 34), (150, 0), (151, 0), (152, 0), (153, 0), (154, 0)]
def qX13_withParts (l : Launch) (dC : Nat → ClassId) (dI : Nat → Nat → Nat) (ca : Nat → ClassId) (base : Nat) (B : jF) (d : Nat) : Prop := ∀ (G0 : jT) (H0 : Heap) (r0 : Nat) (a1 : Int32) (a2 : Int32) (a3 : Int32) (pn : Int32) (pu : Int32) (py : Int32) (pb : Int32) (zs : Nat) (zn : Nat) (za : Nat) (zb : Nat) (zc : Nat) (zy : Nat) (hi : Int) (C : jK), Met l yX13_withParts (jw yX13_withParts cX13_withParts 8 (some .int)) ({ frames := 2 * d + 3, cells := 0, slots := 0, locals := 60 * d + 165 }) (va_Pc [.ref r0, .int a1, .int a2, .int a3] (fun U => U.heap = H0 ∧ jX B base G0 [] H0 ∧ jG dC dI ca base U ∧ G0 r0 = some (15, 0) ∧ G0 zs = some (150, 120000) ∧ G0 zn = some (151, 120000) ∧ G0 za = some (152, 120000) ∧ G0 zb = some (153, 120000) ∧ G0 zc = some (154, 120000) ∧ G0 zy = some (165, 16) ∧ jP (dC, dI) G0 H0 [(r0, 15, 5, .int pn), (r0, 15, 34, .int pu), (r0, 15, 11, .int py), (r0, 15, 36, .int pb), (r0, 15, 0, .ref zs), (r0, 15, 1, .ref zn), (r0, 15, 2, .ref za), (r0, 15, 3, .ref zb), (r0, 15, 4, .ref zc), (r0, 15, 14, .ref zy)] ∧ jMc (dC, dI) G0 H0 [(zs, 150, 120000, ca 1, C.s), (zn, 151, 120000, ca 1, C.n), (za, 152, 120000, ca 1, C.a), (zb, 153, 120000, ca 1, C.b), (zc, 154, 120000, ca 1, C.c), (zy, 165, 16, ca 1, C.y)] ∧ jRtm C d a3.toInt hi ∧ hi ≤ pn.toInt ∧ jSo C.y a2.toInt = jSo C.c a3.toInt ∧ pn.toInt + (hi - a3.toInt) ≤ 119999 ∧ 0 ≤ pu.toInt ∧ pu.toInt ≤ 9 ∧ 0 ≤ py.toInt ∧ py.toInt ≤ 16 ∧ 0 ≤ pb.toInt ∧ pb.toInt ≤ 199 ∧ 0 ≤ pn.toInt ∧ d ≤ 20 ∧ jSo C.c a3.toInt ≤ 3 ∧ 7 ≤ a1.toInt ∧ a1.toInt ≤ 8 ∧ 0 ≤ a2.toInt ∧ a2.toInt < py.toInt)) (va_Qi (S := Int32 × Int32 × jK) (fun r u => (pn.toInt ≤ u.1.toInt ∧ u.1.toInt ≤ pn.toInt + (hi - a3.toInt) ∧ pu.toInt ≤ u.2.1.toInt ∧ u.2.1.toInt ≤ 9 ∧ jAgK C u.2.2 pn.toInt ∧ (u.2.1.toInt ≤ 0 → jFm u.2.2 u.1.toInt py.toInt d pb.toInt r.toInt ∧ jsz u.2.2 r.toInt ≤ hi - a3.toInt))) (fun u t => jRt (dC, dI) B base G0 EX13_withParts H0 [(r0, 15, 5, .int u.1), (r0, 15, 34, .int u.2.1)] t.heap ∧ jMc (dC, dI) G0 t.heap [(zs, 150, 120000, ca 1, u.2.2.s), (zn, 151, 120000, ca 1, u.2.2.n), (za, 152, 120000, ca 1, u.2.2.a), (zb, 153, 120000, ca 1, u.2.2.b), (zc, 154, 120000, ca 1, u.2.2.c), (zy, 165, 16, ca 1, u.2.2.y)]) (jA base)) 0 0 (jA base)
def qX13_meantTerm (l : Launch) (dC : Nat → ClassId) (dI : Nat → Nat → Nat) (ca : Nat → ClassId) (base : Nat) (B : jF) (d : Nat) : Prop := ∀ (G0 : jT) (H0 : Heap) (r0 : Nat) (a1 : Int32) (pn : Int32) (pu : Int32) (py : Int32) (pb : Int32) (zs : Nat) (zn : Nat) (za : Nat) (zb : Nat) (zc : Nat) (zy : Nat) (hi : Int) (C : jK), Met l yX13_meantTerm (jw yX13_meantTerm cX13_meantTerm 4 (some .int)) ({ frames := 2 * d + 4, cells := 0, slots := 0, locals := 60 * d + 200 }) (va_Pc [.ref r0, .int a1] (fun U => U.heap = H0 ∧ jX B base G0 [] H0 ∧ jG dC dI ca base U ∧ G0 r0 = some (15, 0) ∧ G0 zs = some (150, 120000) ∧ G0 zn = some (151, 120000) ∧ G0 za = some (152, 120000) ∧ G0 zb = some (153, 120000) ∧ G0 zc = some (154, 120000) ∧ G0 zy = some (165, 16) ∧ jP (dC, dI) G0 H0 [(r0, 15, 5, .int pn), (r0, 15, 34, .int pu), (r0, 15, 11, .int py), (r0, 15, 36, .int pb), (r0, 15, 0, .ref zs), (r0, 15, 1, .ref zn), (r0, 15, 2, .ref za), (r0, 15, 3, .ref zb), (r0, 15, 4, .ref zc), (r0, 15, 14, .ref zy)] ∧ jMc (dC, dI) G0 H0 [(zs, 150, 120000, ca 1, C.s), (zn, 151, 120000, ca 1, C.n), (za, 152, 120000, ca 1, C.a), (zb, 153, 120000, ca 1, C.b), (zc, 154, 120000, ca 1, C.c), (zy, 165, 16, ca 1, C.y)] ∧ jRtm C d a1.toInt hi ∧ hi ≤ pn.toInt ∧ pn.toInt + (hi - a1.toInt) ≤ 119999 ∧ 0 ≤ pu.toInt ∧ pu.toInt ≤ 9 ∧ 0 ≤ py.toInt ∧ py.toInt ≤ 16 ∧ 0 ≤ pb.toInt ∧ pb.toInt ≤ 199 ∧ 0 ≤ pn.toInt ∧ d ≤ 20)) (va_Qi (S := Int32 × Int32 × jK) (fun r u => (pn.toInt ≤ u.1.toInt ∧ u.1.toInt ≤ pn.toInt + (hi - a1.toInt) ∧ pu.toInt ≤ u.2.1.toInt ∧ u.2.1.toInt ≤ 9 ∧ jAgK C u.2.2 pn.toInt ∧ (u.2.1.toInt ≤ 0 → jFm u.2.2 u.1.toInt py.toInt d pb.toInt r.toInt ∧ jsz u.2.2 r.toInt ≤ hi - a1.toInt))) (fun u t => jRt (dC, dI) B base G0 EX13_meantTerm H0 [(r0, 15, 5, .int u.1), (r0, 15, 34, .int u.2.1)] t.heap ∧ jMc (dC, dI) G0 t.heap [(zs, 150, 120000, ca 1, u.2.2.s), (zn, 151, 120000, ca 1, u.2.2.n), (za, 152, 120000, ca 1, u.2.2.a), (zb, 153, 120000, ca 1, u.2.2.b), (zc, 154, 120000, ca 1, u.2.2.c), (zy, 165, 16, ca 1, u.2.2.y)]) (jA base)) 0 0 (jA base)
set_option maxHeartbeats 4000000 in
set_option maxRecDepth 20000 in
theorem uX13_withParts (l : Launch) (dC : Nat → ClassId) (dI : Nat → Nat → Nat) (ca : Nat → ClassId) (base : Nat) (B : jF) (hB : jBok B) (hAp : jAp (dC, dI)) (hB15 : ∀ n G a H, B 15 n G a H ↔ jOb (dC, dI) 15 50 (F15 n G) a H) (hB103 : ∀ n G a H, B 103 n G a H ↔ jAr (dC, dI) (ca 3) (fun j z => (z = 0 ∨ z = 1)) n a H) (hB150 : ∀ n G a H, B 150 n G a H ↔ jAr (dC, dI) (ca 1) (fun j z => True) n a H) (hB151 : ∀ n G a H, B 151 n G a H ↔ jAr (dC, dI) (ca 1) (fun j z => True) n a H) (hB152 : ∀ n G a H, B 152 n G a H ↔ jAr (dC, dI) (ca 1) (fun j z => True) n a H) (hB153 : ∀ n G a H, B 153 n G a H ↔ jAr (dC, dI) (ca 1) (fun j z => True) n a H) (hB154 : ∀ n G a H, B 154 n G a H ↔ jAr (dC, dI) (ca 1) (fun j z => True) n a H) (hB158 : ∀ n G a H, B 158 n G a H ↔ jAr (dC, dI) (ca 1) (fun j z => 0 ≤ z.toInt ∧ z.toInt ≤ 6) n a H) (hB163 : ∀ n G a H, B 163 n G a H ↔ jAr (dC, dI) (ca 1) (fun j z => 0 ≤ z.toInt ∧ z.toInt ≤ 1599) n a H) (hB165 : ∀ n G a H, B 165 n G a H ↔ jAr (dC, dI) (ca 1) (fun j z => 0 ≤ z.toInt ∧ z.toInt ≤ 3) n a H) (d : Nat) (ih : ∀ e1, e1 < d → qX13_meantTerm l dC dI ca base B e1) (G0 : jT) (H0 : Heap) (r0 : Nat) (a1 : Int32) (a2 : Int32) (a3 : Int32) (pn : Int32) (pu : Int32) (py : Int32) (pb : Int32) (zs : Nat) (zn : Nat) (za : Nat) (zb : Nat) (zc : Nat) (zy : Nat) (hi : Int) (C : jK) : Met l yX13_withParts (jw yX13_withParts cX13_withParts 8 (some .int)) ({ frames := 2 * d + 3, cells := 0, slots := 0, locals := 60 * d + 165 }) (va_Pc [.ref r0, .int a1, .int a2, .int a3] (fun U => U.heap = H0 ∧ jX B base G0 [] H0 ∧ jG dC dI ca base U ∧ G0 r0 = some (15, 0) ∧ G0 zs = some (150, 120000) ∧ G0 zn = some (151, 120000) ∧ G0 za = some (152, 120000) ∧ G0 zb = some (153, 120000) ∧ G0 zc = some (154, 120000) ∧ G0 zy = some (165, 16) ∧ jP (dC, dI) G0 H0 [(r0, 15, 5, .int pn), (r0, 15, 34, .int pu), (r0, 15, 11, .int py), (r0, 15, 36, .int pb), (r0, 15, 0, .ref zs), (r0, 15, 1, .ref zn), (r0, 15, 2, .ref za), (r0, 15, 3, .ref zb), (r0, 15, 4, .ref zc), (r0, 15, 14, .ref zy)] ∧ jMc (dC, dI) G0 H0 [(zs, 150, 120000, ca 1, C.s), (zn, 151, 120000, ca 1, C.n), (za, 152, 120000, ca 1, C.a), (zb, 153, 120000, ca 1, C.b), (zc, 154, 120000, ca 1, C.c), (zy, 165, 16, ca 1, C.y)] ∧ jRtm C d a3.toInt hi ∧ hi ≤ pn.toInt ∧ jSo C.y a2.toInt = jSo C.c a3.toInt ∧ pn.toInt + (hi - a3.toInt) ≤ 119999 ∧ 0 ≤ pu.toInt ∧ pu.toInt ≤ 9 ∧ 0 ≤ py.toInt ∧ py.toInt ≤ 16 ∧ 0 ≤ pb.toInt ∧ pb.toInt ≤ 199 ∧ 0 ≤ pn.toInt ∧ d ≤ 20 ∧ jSo C.c a3.toInt ≤ 3 ∧ 7 ≤ a1.toInt ∧ a1.toInt ≤ 8 ∧ 0 ≤ a2.toInt ∧ a2.toInt < py.toInt)) (va_Qi (S := Int32 × Int32 × jK) (fun r u => (pn.toInt ≤ u.1.toInt ∧ u.1.toInt ≤ pn.toInt + (hi - a3.toInt) ∧ pu.toInt ≤ u.2.1.toInt ∧ u.2.1.toInt ≤ 9 ∧ jAgK C u.2.2 pn.toInt ∧ (u.2.1.toInt ≤ 0 → jFm u.2.2 u.1.toInt py.toInt d pb.toInt r.toInt ∧ jsz u.2.2 r.toInt ≤ hi - a3.toInt))) (fun u t => jRt (dC, dI) B base G0 EX13_withParts H0 [(r0, 15, 5, .int u.1), (r0, 15, 34, .int u.2.1)] t.heap ∧ jMc (dC, dI) G0 t.heap [(zs, 150, 120000, ca 1, u.2.2.s), (zn, 151, 120000, ca 1, u.2.2.n), (za, 152, 120000, ca 1, u.2.2.a), (zb, 153, 120000, ca 1, u.2.2.b), (zc, 154, 120000, ca 1, u.2.2.c), (zy, 165, 16, ca 1, u.2.2.y)]) (jA base)) 0 0 (jA base) := by
  refine Met.ofW (cc := cX13_withParts) (maxL := 8) (ret := (some .int)) (by decide) rfl ?_
  intro p e s m args below meth c s₁ Bd hml hv
  obtain ⟨rfl, hH0, hX, hG, hg_r0, hg_zs, hg_zn, hg_za, hg_zb, hg_zc, hg_zy, hP0, hM0, hp0, hp1, hp2, hp3, hp4, hp5, hp6, hp7, hp8, hp9, hp10, hp11, hp12, hp13, hp14, hp15, hp16⟩ := hv
  have hK := hG.1
  have hx := Bd.exec
  have hb := Bd.bytes
  have hr := Bd.returns
  have hts := atoms_spec (ws := (jw yX13_withParts cX13_withParts 8 (some .int))) Bd.pre
  have htw : ∀ w ∈ jWl, w.before _ s = true := fun w h => hts w (List.mem_cons_of_mem _ h)
  have hown : s.vm.findClass RX13 = some m.cls := findClass_of_methodNamed Bd.named
  have hlocks := Bd.notSynchronized
  obtain ⟨Q, hQ⟩ : ∃ Q, Q = MQ below (va_Qi (S := Int32 × Int32 × jK) (fun r u => (pn.toInt ≤ u.1.toInt ∧ u.1.toInt ≤ pn.toInt + (hi - a3.toInt) ∧ pu.toInt ≤ u.2.1.toInt ∧ u.2.1.toInt ≤ 9 ∧ jAgK C u.2.2 pn.toInt ∧ (u.2.1.toInt ≤ 0 → jFm u.2.2 u.1.toInt py.toInt d pb.toInt r.toInt ∧ jsz u.2.2 r.toInt ≤ hi - a3.toInt))) (fun u t => jRt (dC, dI) B base G0 EX13_withParts H0 [(r0, 15, 5, .int u.1), (r0, 15, 34, .int u.2.1)] t.heap ∧ jMc (dC, dI) G0 t.heap [(zs, 150, 120000, ca 1, u.2.2.s), (zn, 151, 120000, ca 1, u.2.2.n), (za, 152, 120000, ca 1, u.2.2.a), (zb, 153, 120000, ca 1, u.2.2.b), (zc, 154, 120000, ca 1, u.2.2.c), (zy, 165, 16, ca 1, u.2.2.y)]) (jA base)) ([.ref r0, .int a1, .int a2, .int a3] : List Value).toArray s 0 0 (jA base) := ⟨_, rfl⟩
  rw [← hQ]
  have hl := lv_entry ([.ref r0, .int a1, .int a2, .int a3]) (n := 8) (Nat.le_of_ble_eq_true rfl)
  rw [lg_entry_eq]
  generalize (lg_sl ([.ref r0, .int a1, .int a2, .int a3]) ++ List.replicate (8 - (lg_sl ([.ref r0, .int a1, .int a2, .int a3])).length) Slot.unset).toArray = ls at hl ⊢
  have hl : lv_has ls 8 [(0, .ref r0), (1, .int a1), (2, .int a2), (3, .int a3)] := hl
  generalize hR : (headSpec (jw yX13_withParts cX13_withParts 8 (some .int)) ({ frames := 2 * d + 3, cells := 0, slots := 0, locals := 60 * d + 165 })).room = R
  subst hH0
  have hh : jSt (dC, dI) B base G0 G0 EX13_withParts s.heap 0 0 [(r0, 15, 5, .int pn), (r0, 15, 34, .int pu), (r0, 15, 11, .int py), (r0, 15, 36, .int pb), (r0, 15, 0, .ref zs), (r0, 15, 1, .ref zn), (r0, 15, 2, .ref za), (r0, 15, 3, .ref zb), (r0, 15, 4, .ref zc), (r0, 15, 14, .ref zy)] [(zs, 150, 120000, ca 1, C.s), (zn, 151, 120000, ca 1, C.n), (za, 152, 120000, ca 1, C.a), (zb, 153, 120000, ca 1, C.b), (zc, 154, 120000, ca 1, C.c), (zy, 165, 16, ca 1, C.y)] [] s.heap [] := jSt.start hX hP0 hM0 jIs.nil
  clear hX hP0
  have hk0 : (0 : Int32).toInt = 0 := by decide
  have hk1 : (1 : Int32).toInt = 1 := by decide
  have hk2 : (2 : Int32).toInt = 2 := by decide
  have hly_15_2 := htw (u_lay RX13 TX13 2) (jWc_wsX130 _ (u_in_lay (by decide)))
  have hly_15_3 := htw (u_lay RX13 TX13 3) (jWc_wsX130 _ (u_in_lay (by decide)))
  have hly_15_4 := htw (u_lay RX13 TX13 4) (jWc_wsX130 _ (u_in_lay (by decide)))
  have hlk_25 := (htw (.fieldLink RX13 25 "ProofServerModel$Kernel" "three" "[I") (jWr_14 _ (List.mem_of_getElem? (i := 13) rfl)))
  have hlk_19 := (htw (.fieldLink RX13 19 "ProofServerModel$Kernel" "one" "[I") (jWr_14 _ (List.mem_of_getElem? (i := 11) rfl)))
  have hlk_22 := (htw (.fieldLink RX13 22 "ProofServerModel$Kernel" "two" "[I") (jWr_14 _ (List.mem_of_getElem? (i := 12) rfl)))
  have hrg_a1 := jb_rng a1
  have hrg_a2 := jb_rng a2
  have hrg_a3 := jb_rng a3
  have ho := hp0.ok
  refine lv_aload_n hx hb dX13_withParts_0 rfl (lv_at hl 0 rfl) ?_
  refine j7_read hx hb hown hK (C := RX13) (T := TX13) (N := 50) rfl hly_15_4 hlk_25 (hh.at 8 rfl) dX13_withParts_1 ?_
  refine lv_iload_n hx hb dX13_withParts_4 rfl (lv_at hl 3 rfl) ?_
  refine j7_ialdM hx hb hK hh hB154 1 rfl (by decide) hg_zc (x := a3.toInt) (rfl) (by omega) (j := 4) rfl dX13_withParts_5 (fun z_1 ez_1 (hz_1 : True) => ?_)
  have hqz_1 : z_1.toInt = jSo C.c (a3.toInt) := by unfold jSo; rw [ez_1]
  refine lv_istore (lv' := [(4, .int z_1), (0, .ref r0), (1, .int a1), (2, .int a2), (3, .int a3)]) hx hb dX13_withParts_6 hl (by decide) rfl (fun ls hl => ?_)
  refine lv_iconst (v := 0) hx hb dX13_withParts_8 (by decide) ?_
  refine lv_istore (lv' := [(5, .int 0), (4, .int z_1), (0, .ref r0), (1, .int a1), (2, .int a2), (3, .int a3)]) hx hb dX13_withParts_9 hl (by decide) rfl (fun ls hl => ?_)
  refine lv_iconst (v := 0) hx hb dX13_withParts_11 (by decide) ?_
  refine lv_istore (lv' := [(6, .int 0), (5, .int 0), (4, .int z_1), (0, .ref r0), (1, .int a1), (2, .int a2), (3, .int a3)]) hx hb dX13_withParts_12 hl (by decide) rfl (fun ls hl => ?_)
  refine lv_iconst (v := 0) hx hb dX13_withParts_14 (by decide) ?_
  refine lv_istore (lv' := [(7, .int 0), (6, .int 0), (5, .int 0), (4, .int z_1), (0, .ref r0), (1, .int a1), (2, .int a2), (3, .int a3)]) hx hb dX13_withParts_15 hl (by decide) rfl (fun ls hl => ?_)
  refine lv_iload hx hb dX13_withParts_17 (lv_at hl 3 rfl) ?_
  refine lv_if_le (tgt := 34) hx hb dX13_withParts_19 (by decide) (fun c_2 => ?_) (fun c_2 => ?_)
  · skip
    have c_2' : z_1.toInt ≤ 0 := jb_le (rfl) ((by decide)) c_2
    refine lv_iload hx hb dX13_withParts_34 (lv_at hl 3 rfl) ?_
    refine lv_iconst (v := 1) hx hb dX13_withParts_36 (by decide) ?_
    refine lv_icmp_le (tgt := 57) hx hb dX13_withParts_37 (by decide) (fun c_3 => ?_) (fun c_3 => ?_)
    · skip
      have c_3' : z_1.toInt ≤ 1 := jb_le (rfl) ((by decide)) c_3
      refine lv_iload hx hb dX13_withParts_57 (lv_at hl 3 rfl) ?_
      refine lv_iconst (v := 2) hx hb dX13_withParts_59 (by decide) ?_
      refine lv_icmp_le (tgt := 85) hx hb dX13_withParts_60 (by decide) (fun c_4 => ?_) (fun c_4 => ?_)
      · skip
        have c_4' : z_1.toInt ≤ 2 := jb_le (rfl) ((by decide)) c_4
        refine lv_aload_n hx hb dX13_withParts_85 rfl (lv_at hl 4 rfl) ?_
        refine lv_iload_n hx hb dX13_withParts_86 rfl (lv_at hl 5 rfl) ?_
        refine lv_iload_n hx hb dX13_withParts_87 rfl (lv_at hl 6 rfl) ?_
        refine lv_iload hx hb dX13_withParts_88 (lv_at hl 2 rfl) ?_
        refine lv_iload hx hb dX13_withParts_90 (lv_at hl 1 rfl) ?_
        refine lv_iload hx hb dX13_withParts_92 (lv_at hl 0 rfl) ?_
        refine va_calli (A0 := jA base) (H0 := s.heap) (va_runV (As := [.int a1, .int a2, .int 0, .int 0, .int 0]) (rest := []) ⟨hx, hb, hml, hown, hts⟩ (uX13_nodeK l dC dI ca base B hB hAp hB15 hB150 hB151 hB152 hB153 hB154 hB165 G0 s.heap r0 a1 a2 0 0 0 pn zs zn za zb zc zy C) (cwV 5 hts (jgV (jWr_62 _ (List.mem_of_getElem? (i := 9) rfl)) (jWr_62 _ (List.mem_of_getElem? (i := 10) rfl)) (jWr_62 _ (List.mem_of_getElem? (i := 11) rfl)) (jWr_12 _ (List.mem_of_getElem? (i := 12) rfl)) (jWr_62 _ (List.mem_of_getElem? (i := 12) rfl))) rfl rfl rfl (by decide +kernel) ⟨by rw [← hR]; show (0) + 1 ≤ 2 * d + 3; omega, by rw [← hR]; show 8 + (6 + 11) + (0) ≤ 60 * d + 165; omega⟩) ⟨fun a U g mk q => by obtain ⟨q0, q1, q2, qK, q10, q11, q12, q13, q14, q15, q16, q17, q18, q19⟩ := q; exact ⟨q0, q1, q2, jG.calling g mk a qK, q10, q11, q12, q13, q14, q15, q16, q17, q18, q19⟩, hh.recv (C := RX13) (T := TX13) (N := 50) hB15 rfl (by decide) hg_r0 hK, fun U hU hW => ⟨rfl, hU, hh.2.1, hG.step hW hU hh.1, hg_r0, hg_zs, hg_zn, hg_za, hg_zb, hg_zc, hg_zy, (hh.2.2.1.sub (L1 := [(r0, 15, 5, .int pn), (r0, 15, 0, .ref zs), (r0, 15, 1, .ref zn), (r0, 15, 2, .ref za), (r0, 15, 3, .ref zb), (r0, 15, 4, .ref zc), (r0, 15, 14, .ref zy)]) [0, 4, 5, 6, 7, 8, 9] rfl), (hh.2.2.2.2.2.2.2.1.sub (L1 := [(zs, 150, 120000, ca 1, C.s), (zn, 151, 120000, ca 1, C.n), (za, 152, 120000, ca 1, C.a), (zb, 153, 120000, ca 1, C.b), (zc, 154, 120000, ca 1, C.c), (zy, 165, 16, ca 1, C.y)]) [0, 1, 2, 3, 4, 5] rfl), by first | omega | (refine ⟨?_, ?_⟩ <;> (first | omega | rfl | assumption | decide | exact Or.inl rfl | exact Or.inr rfl | (simp only; omega)))⟩⟩ rfl rfl hl.1 rfl (lv_room (Nat.le_of_ble_eq_true rfl)) dX13_withParts_94 ⟨Nat.zero_le _, Nat.zero_le _⟩) hh.1 (fun q _ h => h) (fun q h => h) (fun r_6 u_5 t_5 H_5 locs_5 ht_5 hvm_5 hr_6 hb_5 hz_5 hk_5 hS_5 => ?_)
        obtain ⟨qn_5, D_5⟩ := u_5
        rw [ht_5] at hb_5
        obtain ⟨⟨hb_51, hb_52, hb_53, hb_54, hb_55⟩, hb_56⟩ := hb_5
        have hh_5 : jSt (dC, dI) B base G0 G0 EX13_withParts s.heap 0 0 [(r0, 15, 5, .int qn_5), (r0, 15, 34, .int pu), (r0, 15, 11, .int py), (r0, 15, 36, .int pb), (r0, 15, 0, .ref zs), (r0, 15, 1, .ref zn), (r0, 15, 2, .ref za), (r0, 15, 3, .ref zb), (r0, 15, 4, .ref zc), (r0, 15, 14, .ref zy)] [(zs, 150, 120000, ca 1, D_5.s), (zn, 151, 120000, ca 1, D_5.n), (za, 152, 120000, ca 1, D_5.a), (zb, 153, 120000, ca 1, D_5.b), (zc, 154, 120000, ca 1, D_5.c), (zy, 165, 16, ca 1, D_5.y), (zy, 165, 16, ca 1, C.y)] [] H_5 locs_5 := ((hh.call hb_51 hb_52 hb_53 hb_54 hS_5 rfl (L1 := [(r0, 15, 34, .int pu), (r0, 15, 11, .int py), (r0, 15, 36, .int pb), (r0, 15, 0, .ref zs), (r0, 15, 1, .ref zn), (r0, 15, 2, .ref za), (r0, 15, 3, .ref zb), (r0, 15, 4, .ref zc), (r0, 15, 14, .ref zy)]) [1, 2, 3, 4, 5, 6, 7, 8, 9] rfl rfl (M1 := [(zy, 165, 16, ca 1, C.y)]) [5] rfl rfl (I1 := []) [] rfl rfl).more hb_55).moreM hb_56
        clear hh ht_5 hvm_5 hz_5 hk_5 hS_5 hb_51 hb_52 hb_53 hb_54 hb_55
        clear hb_56
        try simp only at hr_6
        obtain ⟨hr_6_0, hr_6_1, hr_6_2⟩ := hr_6
        rw [hQ]
        exact W.iret (v := r_6) hx hb hr (fun t ht hW => ⟨⟨r_6, (qn_5, pu, D_5), rfl, by
    try dsimp only
    refine ⟨by omega, by omega, by omega, by omega, hr_6_2.1, fun h9 => ?_⟩
    have hy : jSo C.y a2.toInt = jSo C.c a3.toInt := hp2
    have k := jMk7 (m := jSo C.c a3.toInt) (d := d - 1) (b := pb.toInt) (Y := py.toInt) hr_6_2 (by omega) (by omega) hy (by omega) (by omega) (by omega) (fun q => absurd q (by omega)) (fun q => absurd q (by omega)) (fun q => absurd q (by omega))
    have k2 := k.2.1 (by omega)
    have k1 := k.1
    rw [show d - 1 + 1 = d by omega] at k1
    rw [hr_6_0, hr_6_1]
    exact ⟨k1, by omega⟩, ⟨hh_5.rt (M1 := [(r0, 15, 5, .int qn_5), (r0, 15, 34, .int pu)]) [0, 1] rfl ht, by rw [ht]; exact hh_5.2.2.2.2.2.2.2.1.sub [0, 1, 2, 3, 4, 5] rfl⟩⟩, by rw [ht]; try exact hh_5.1.1, fun q h9 hq => by rw [ht]; try exact hh_5.1.2.1 q h9 hq⟩) hh_5.1.2.2 dX13_withParts_97
      · skip
        have c_4' : z_1.toInt > 2 := jb_le_n (rfl) ((by decide)) c_4
        exact (by omega : False).elim
    · skip
      have c_3' : z_1.toInt > 1 := jb_le_n (rfl) ((by decide)) c_3
      exact (by omega : False).elim
  · skip
    have c_2' : z_1.toInt > 0 := jb_le_n (rfl) ((by decide)) c_2
    have p1 := hp0.p1 (by omega) (by omega)
    have o1 := p1.2.1.ok
    refine lv_aload_n hx hb dX13_withParts_22 rfl (lv_at hl 4 rfl) ?_
    refine lv_aload_n hx hb dX13_withParts_23 rfl (lv_at hl 4 rfl) ?_
    refine j7_read hx hb hown hK (C := RX13) (T := TX13) (N := 50) rfl hly_15_2 hlk_19 (hh.at 6 rfl) dX13_withParts_24 ?_
    refine lv_iload_n hx hb dX13_withParts_27 rfl (lv_at hl 7 rfl) ?_
    refine j7_ialdM hx hb hK hh hB152 1 rfl (by decide) hg_za (x := a3.toInt) (rfl) (by omega) (j := 2) rfl dX13_withParts_28 (fun z_7 ez_7 (hz_7 : True) => ?_)
    have hqz_7 : z_7.toInt = jSo C.a (a3.toInt) := by unfold jSo; rw [ez_7]
    refine va_calli (A0 := jA base) (H0 := s.heap) (va_runV (As := [.int z_7]) (rest := []) ⟨hx, hb, hml, hown, hts⟩ (ih (d - 1) (by omega) G0 s.heap r0 z_7 pn pu py pb zs zn za zb zc zy (jH1 C a3.toInt hi) C) (cwV 1 hts (jgV (jWr_65 _ (List.mem_of_getElem? (i := 7) rfl)) (jWr_65 _ (List.mem_of_getElem? (i := 8) rfl)) (jWr_65 _ (List.mem_of_getElem? (i := 9) rfl)) (jWr_12 _ (List.mem_of_getElem? (i := 12) rfl)) (jWr_65 _ (List.mem_of_getElem? (i := 10) rfl))) rfl rfl rfl (by decide +kernel) ⟨by rw [← hR]; show (2 * (d - 1) + 4) + 1 ≤ 2 * d + 3; omega, by rw [← hR]; show 8 + (4 + 11) + (60 * (d - 1) + 200) ≤ 60 * d + 165; omega⟩) ⟨fun a U g mk q => by obtain ⟨q0, q1, q2, qK, q10, q11, q12, q13, q14, q15, q16, q17, q18, q19⟩ := q; exact ⟨q0, q1, q2, jG.calling g mk a qK, q10, q11, q12, q13, q14, q15, q16, q17, q18, q19⟩, hh.recv (C := RX13) (T := TX13) (N := 50) hB15 rfl (by decide) hg_r0 hK, fun U hU hW => ⟨rfl, hU, hh.2.1, hG.step hW hU hh.1, hg_r0, hg_zs, hg_zn, hg_za, hg_zb, hg_zc, hg_zy, (hh.2.2.1.sub (L1 := [(r0, 15, 5, .int pn), (r0, 15, 34, .int pu), (r0, 15, 11, .int py), (r0, 15, 36, .int pb), (r0, 15, 0, .ref zs), (r0, 15, 1, .ref zn), (r0, 15, 2, .ref za), (r0, 15, 3, .ref zb), (r0, 15, 4, .ref zc), (r0, 15, 14, .ref zy)]) [0, 1, 2, 3, 4, 5, 6, 7, 8, 9] rfl), (hh.2.2.2.2.2.2.2.1.sub (L1 := [(zs, 150, 120000, ca 1, C.s), (zn, 151, 120000, ca 1, C.n), (za, 152, 120000, ca 1, C.a), (zb, 153, 120000, ca 1, C.b), (zc, 154, 120000, ca 1, C.c), (zy, 165, 16, ca 1, C.y)]) [0, 1, 2, 3, 4, 5] rfl), ⟨(by first | assumption | (rw [hqz_7]; exact p1.2.1) | (rw [hqz_7]; omega) | omega), (by first | omega | rfl | assumption | (rw [hqz_7]; exact p1.2.1) | (rw [hqz_7]; omega)), (by first | omega | rfl | assumption | (rw [hqz_7]; exact p1.2.1) | (rw [hqz_7]; omega)), (by first | omega | rfl | assumption | (rw [hqz_7]; exact p1.2.1) | (rw [hqz_7]; omega)), (by first | omega | rfl | assumption | (rw [hqz_7]; exact p1.2.1) | (rw [hqz_7]; omega)), (by first | omega | rfl | assumption | (rw [hqz_7]; exact p1.2.1) | (rw [hqz_7]; omega)), (by first | omega | rfl | assumption | (rw [hqz_7]; exact p1.2.1) | (rw [hqz_7]; omega)), (by first | omega | rfl | assumption | (rw [hqz_7]; exact p1.2.1) | (rw [hqz_7]; omega)), (by first | omega | rfl | assumption | (rw [hqz_7]; exact p1.2.1) | (rw [hqz_7]; omega)), (by first | omega | rfl | assumption | (rw [hqz_7]; exact p1.2.1) | (rw [hqz_7]; omega)), (by first | omega | rfl | assumption | (rw [hqz_7]; exact p1.2.1) | (rw [hqz_7]; omega))⟩⟩⟩ rfl rfl hl.1 rfl (lv_room (Nat.le_of_ble_eq_true rfl)) dX13_withParts_29 ⟨Nat.zero_le _, Nat.zero_le _⟩) hh.1 (fun q _ h => h) (fun q h => h) (fun r_9 u_8 t_8 H_8 locs_8 ht_8 hvm_8 hr_9 hb_8 hz_8 hk_8 hS_8 => ?_)
    obtain ⟨qn_8, qu_8, D_8⟩ := u_8
    rw [ht_8] at hb_8
    obtain ⟨⟨hb_81, hb_82, hb_83, hb_84, hb_85⟩, hb_86⟩ := hb_8
    have hh_8 : jSt (dC, dI) B base G0 G0 EX13_withParts s.heap 0 0 [(r0, 15, 5, .int qn_8), (r0, 15, 34, .int qu_8), (r0, 15, 11, .int py), (r0, 15, 36, .int pb), (r0, 15, 0, .ref zs), (r0, 15, 1, .ref zn), (r0, 15, 2, .ref za), (r0, 15, 3, .ref zb), (r0, 15, 4, .ref zc), (r0, 15, 14, .ref zy)] [(zs, 150, 120000, ca 1, D_8.s), (zn, 151, 120000, ca 1, D_8.n), (za, 152, 120000, ca 1, D_8.a), (zb, 153, 120000, ca 1, D_8.b), (zc, 154, 120000, ca 1, D_8.c), (zy, 165, 16, ca 1, D_8.y), (zy, 165, 16, ca 1, C.y)] [] H_8 locs_8 := ((hh.call hb_81 hb_82 hb_83 hb_84 hS_8 rfl (L1 := [(r0, 15, 11, .int py), (r0, 15, 36, .int pb), (r0, 15, 0, .ref zs), (r0, 15, 1, .ref zn), (r0, 15, 2, .ref za), (r0, 15, 3, .ref zb), (r0, 15, 4, .ref zc), (r0, 15, 14, .ref zy)]) [2, 3, 4, 5, 6, 7, 8, 9] rfl rfl (M1 := [(zy, 165, 16, ca 1, C.y)]) [5] rfl rfl (I1 := []) [] rfl rfl).more hb_85).moreM hb_86
    clear hh ht_8 hvm_8 hz_8 hk_8 hS_8 hb_81 hb_82 hb_83 hb_84 hb_85
    clear hb_86
    try simp only at hr_9
    obtain ⟨hr_9_0, hr_9_1, hr_9_2, hr_9_3, hr_9_4, hr_9_5⟩ := hr_9
    rw [hqz_7] at hr_9_1 hr_9_5
    refine lv_istore (lv' := [(5, .int r_9), (7, .int 0), (6, .int 0), (4, .int z_1), (0, .ref r0), (1, .int a1), (2, .int a2), (3, .int a3)]) hx hb dX13_withParts_32 hl (by decide) rfl (fun ls hl => ?_)
    refine lv_iload hx hb dX13_withParts_34 (lv_at hl 3 rfl) ?_
    refine lv_iconst (v := 1) hx hb dX13_withParts_36 (by decide) ?_
    refine lv_icmp_le (tgt := 57) hx hb dX13_withParts_37 (by decide) (fun c_10 => ?_) (fun c_10 => ?_)
    · skip
      have c_10' : z_1.toInt ≤ 1 := jb_le (rfl) ((by decide)) c_10
      refine lv_iload hx hb dX13_withParts_57 (lv_at hl 3 rfl) ?_
      refine lv_iconst (v := 2) hx hb dX13_withParts_59 (by decide) ?_
      refine lv_icmp_le (tgt := 85) hx hb dX13_withParts_60 (by decide) (fun c_11 => ?_) (fun c_11 => ?_)
      · skip
        have c_11' : z_1.toInt ≤ 2 := jb_le (rfl) ((by decide)) c_11
        refine lv_aload_n hx hb dX13_withParts_85 rfl (lv_at hl 4 rfl) ?_
        refine lv_iload_n hx hb dX13_withParts_86 rfl (lv_at hl 5 rfl) ?_
        refine lv_iload_n hx hb dX13_withParts_87 rfl (lv_at hl 6 rfl) ?_
        refine lv_iload hx hb dX13_withParts_88 (lv_at hl 0 rfl) ?_
        refine lv_iload hx hb dX13_withParts_90 (lv_at hl 2 rfl) ?_
        refine lv_iload hx hb dX13_withParts_92 (lv_at hl 1 rfl) ?_
        refine va_calli (A0 := jA base) (H0 := s.heap) (va_runV (As := [.int a1, .int a2, .int r_9, .int 0, .int 0]) (rest := []) ⟨hx, hb, hml, hown, hts⟩ (uX13_nodeK l dC dI ca base B hB hAp hB15 hB150 hB151 hB152 hB153 hB154 hB165 G0 H_8 r0 a1 a2 r_9 0 0 qn_8 zs zn za zb zc zy D_8) (cwV 5 hts (jgV (jWr_62 _ (List.mem_of_getElem? (i := 9) rfl)) (jWr_62 _ (List.mem_of_getElem? (i := 10) rfl)) (jWr_62 _ (List.mem_of_getElem? (i := 11) rfl)) (jWr_12 _ (List.mem_of_getElem? (i := 12) rfl)) (jWr_62 _ (List.mem_of_getElem? (i := 12) rfl))) rfl rfl rfl (by decide +kernel) ⟨by rw [← hR]; show (0) + 1 ≤ 2 * d + 3; omega, by rw [← hR]; show 8 + (6 + 11) + (0) ≤ 60 * d + 165; omega⟩) ⟨fun a U g mk q => by obtain ⟨q0, q1, q2, qK, q10, q11, q12, q13, q14, q15, q16, q17, q18, q19⟩ := q; exact ⟨q0, q1, q2, jG.calling g mk a qK, q10, q11, q12, q13, q14, q15, q16, q17, q18, q19⟩, hh_8.recv (C := RX13) (T := TX13) (N := 50) hB15 rfl (by decide) hg_r0 hK, fun U hU hW => ⟨rfl, hU, hh_8.2.1, hG.step hW hU hh_8.1, hg_r0, hg_zs, hg_zn, hg_za, hg_zb, hg_zc, hg_zy, (hh_8.2.2.1.sub (L1 := [(r0, 15, 5, .int qn_8), (r0, 15, 0, .ref zs), (r0, 15, 1, .ref zn), (r0, 15, 2, .ref za), (r0, 15, 3, .ref zb), (r0, 15, 4, .ref zc), (r0, 15, 14, .ref zy)]) [0, 4, 5, 6, 7, 8, 9] rfl), (hh_8.2.2.2.2.2.2.2.1.sub (L1 := [(zs, 150, 120000, ca 1, D_8.s), (zn, 151, 120000, ca 1, D_8.n), (za, 152, 120000, ca 1, D_8.a), (zb, 153, 120000, ca 1, D_8.b), (zc, 154, 120000, ca 1, D_8.c), (zy, 165, 16, ca 1, D_8.y)]) [0, 1, 2, 3, 4, 5] rfl), by first | omega | (refine ⟨?_, ?_⟩ <;> (first | omega | rfl | assumption | decide | exact Or.inl rfl | exact Or.inr rfl | (simp only; omega)))⟩⟩ rfl rfl hl.1 rfl (lv_room (Nat.le_of_ble_eq_true rfl)) dX13_withParts_94 ⟨Nat.zero_le _, Nat.zero_le _⟩) hh_8.1 (fun q _ h => h) (fun q h => h) (fun r_13 u_12 t_12 H_12 locs_12 ht_12 hvm_12 hr_13 hb_12 hz_12 hk_12 hS_12 => ?_)
        obtain ⟨qn_12, D_12⟩ := u_12
        rw [ht_12] at hb_12
        obtain ⟨⟨hb_121, hb_122, hb_123, hb_124, hb_125⟩, hb_126⟩ := hb_12
        have hh_12 : jSt (dC, dI) B base G0 G0 EX13_withParts s.heap 0 0 [(r0, 15, 5, .int qn_12), (r0, 15, 34, .int qu_8), (r0, 15, 11, .int py), (r0, 15, 36, .int pb), (r0, 15, 0, .ref zs), (r0, 15, 1, .ref zn), (r0, 15, 2, .ref za), (r0, 15, 3, .ref zb), (r0, 15, 4, .ref zc), (r0, 15, 14, .ref zy)] [(zs, 150, 120000, ca 1, D_12.s), (zn, 151, 120000, ca 1, D_12.n), (za, 152, 120000, ca 1, D_12.a), (zb, 153, 120000, ca 1, D_12.b), (zc, 154, 120000, ca 1, D_12.c), (zy, 165, 16, ca 1, D_12.y), (zy, 165, 16, ca 1, D_8.y), (zy, 165, 16, ca 1, C.y)] [] H_12 locs_12 := ((hh_8.call hb_121 hb_122 hb_123 hb_124 hS_12 rfl (L1 := [(r0, 15, 34, .int qu_8), (r0, 15, 11, .int py), (r0, 15, 36, .int pb), (r0, 15, 0, .ref zs), (r0, 15, 1, .ref zn), (r0, 15, 2, .ref za), (r0, 15, 3, .ref zb), (r0, 15, 4, .ref zc), (r0, 15, 14, .ref zy)]) [1, 2, 3, 4, 5, 6, 7, 8, 9] rfl rfl (M1 := [(zy, 165, 16, ca 1, D_8.y), (zy, 165, 16, ca 1, C.y)]) [5, 6] rfl rfl (I1 := []) [] rfl rfl).more hb_125).moreM hb_126
        clear hh_8 ht_12 hvm_12 hz_12 hk_12 hS_12 hb_121 hb_122 hb_123 hb_124 hb_125
        clear hb_126
        try simp only at hr_13
        obtain ⟨hr_13_0, hr_13_1, hr_13_2⟩ := hr_13
        rw [hQ]
        exact W.iret (v := r_13) hx hb hr (fun t ht hW => ⟨⟨r_13, (qn_12, qu_8, D_12), rfl, by
    try dsimp only
    refine ⟨by omega, by omega, by omega, by omega, hr_9_4.tr hr_13_2.1 (by omega), fun h9 => ?_⟩
    obtain ⟨f0, s0⟩ := hr_9_5 (by omega)
    have hy : jSo D_8.y a2.toInt = jSo C.c a3.toInt := by rw [← hp2]; unfold jSo; rw [(hr_9_4).2]
    have k := jMk7 (m := jSo C.c a3.toInt) (d := d - 1) (b := pb.toInt) (Y := py.toInt) hr_13_2 (by omega) (by omega) hy (by omega) (by omega) (by omega) (fun _ => f0) (fun q => absurd q (by omega)) (fun q => absurd q (by omega))
    have k2 := k.2.2.1 (by omega)
    have k1 := k.1
    rw [show d - 1 + 1 = d by omega] at k1
    rw [hr_13_0, hr_13_1]
    exact ⟨k1, by omega⟩, ⟨hh_12.rt (M1 := [(r0, 15, 5, .int qn_12), (r0, 15, 34, .int qu_8)]) [0, 1] rfl ht, by rw [ht]; exact hh_12.2.2.2.2.2.2.2.1.sub [0, 1, 2, 3, 4, 5] rfl⟩⟩, by rw [ht]; try exact hh_12.1.1, fun q h9 hq => by rw [ht]; try exact hh_12.1.2.1 q h9 hq⟩) hh_12.1.2.2 dX13_withParts_97
      · skip
        have c_11' : z_1.toInt > 2 := jb_le_n (rfl) ((by decide)) c_11
        exact (by omega : False).elim
    · skip
      have c_10' : z_1.toInt > 1 := jb_le_n (rfl) ((by decide)) c_10
      have hs1 := hr_9_4.so (n := a3.toInt) (by omega) (by omega)
      have p2 := hp0.p2 (by omega) (by omega)
      have o2 := p2.1.ok
      have hs2 := hr_9_4.so (n := jSo C.a a3.toInt) (by omega) (by omega)
      refine lv_aload_n hx hb dX13_withParts_40 rfl (lv_at hl 4 rfl) ?_
      refine lv_aload_n hx hb dX13_withParts_41 rfl (lv_at hl 4 rfl) ?_
      refine j7_read hx hb hown hK (C := RX13) (T := TX13) (N := 50) rfl hly_15_3 hlk_22 (hh_8.at 7 rfl) dX13_withParts_42 ?_
      refine lv_aload_n hx hb dX13_withParts_45 rfl (lv_at hl 4 rfl) ?_
      refine j7_read hx hb hown hK (C := RX13) (T := TX13) (N := 50) rfl hly_15_2 hlk_19 (hh_8.at 6 rfl) dX13_withParts_46 ?_
      refine lv_iload_n hx hb dX13_withParts_49 rfl (lv_at hl 7 rfl) ?_
      refine j7_ialdM hx hb hK hh_8 hB152 1 rfl (by decide) hg_za (x := a3.toInt) (rfl) (by omega) (j := 2) rfl dX13_withParts_50 (fun z_14 ez_14 (hz_14 : True) => ?_)
      have hqz_14 : z_14.toInt = jSo D_8.a (a3.toInt) := by unfold jSo; rw [ez_14]
      first | rw [hs1.2.2.1] at hqz_14 | skip
      refine j7_ialdM hx hb hK hh_8 hB153 1 rfl (by decide) hg_zb (x := z_14.toInt) (rfl) (by omega) (j := 3) rfl dX13_withParts_51 (fun z_15 ez_15 (hz_15 : True) => ?_)
      have hqz_15 : z_15.toInt = jSo D_8.b (z_14.toInt) := by unfold jSo; rw [ez_15]
      refine va_calli (A0 := jA base) (H0 := s.heap) (va_runV (As := [.int z_15]) (rest := []) ⟨hx, hb, hml, hown, hts⟩ (ih (d - 1) (by omega) G0 H_8 r0 z_15 qn_8 qu_8 py pb zs zn za zb zc zy (jH2 C a3.toInt hi) D_8) (cwV 1 hts (jgV (jWr_65 _ (List.mem_of_getElem? (i := 7) rfl)) (jWr_65 _ (List.mem_of_getElem? (i := 8) rfl)) (jWr_65 _ (List.mem_of_getElem? (i := 9) rfl)) (jWr_12 _ (List.mem_of_getElem? (i := 12) rfl)) (jWr_65 _ (List.mem_of_getElem? (i := 10) rfl))) rfl rfl rfl (by decide +kernel) ⟨by rw [← hR]; show (2 * (d - 1) + 4) + 1 ≤ 2 * d + 3; omega, by rw [← hR]; show 8 + (4 + 11) + (60 * (d - 1) + 200) ≤ 60 * d + 165; omega⟩) ⟨fun a U g mk q => by obtain ⟨q0, q1, q2, qK, q10, q11, q12, q13, q14, q15, q16, q17, q18, q19⟩ := q; exact ⟨q0, q1, q2, jG.calling g mk a qK, q10, q11, q12, q13, q14, q15, q16, q17, q18, q19⟩, hh_8.recv (C := RX13) (T := TX13) (N := 50) hB15 rfl (by decide) hg_r0 hK, fun U hU hW => ⟨rfl, hU, hh_8.2.1, hG.step hW hU hh_8.1, hg_r0, hg_zs, hg_zn, hg_za, hg_zb, hg_zc, hg_zy, (hh_8.2.2.1.sub (L1 := [(r0, 15, 5, .int qn_8), (r0, 15, 34, .int qu_8), (r0, 15, 11, .int py), (r0, 15, 36, .int pb), (r0, 15, 0, .ref zs), (r0, 15, 1, .ref zn), (r0, 15, 2, .ref za), (r0, 15, 3, .ref zb), (r0, 15, 4, .ref zc), (r0, 15, 14, .ref zy)]) [0, 1, 2, 3, 4, 5, 6, 7, 8, 9] rfl), (hh_8.2.2.2.2.2.2.2.1.sub (L1 := [(zs, 150, 120000, ca 1, D_8.s), (zn, 151, 120000, ca 1, D_8.n), (za, 152, 120000, ca 1, D_8.a), (zb, 153, 120000, ca 1, D_8.b), (zc, 154, 120000, ca 1, D_8.c), (zy, 165, 16, ca 1, D_8.y)]) [0, 1, 2, 3, 4, 5] rfl), ⟨(by first | assumption | (rw [hqz_15, hqz_14, hs2.2.2.2.1]; exact p2.1.agK hr_9_4 (by omega)) | (rw [hqz_15, hqz_14, hs2.2.2.2.1]; omega) | omega), (by first | omega | rfl | assumption | (rw [hqz_15, hqz_14, hs2.2.2.2.1]; exact p2.1.agK hr_9_4 (by omega)) | (rw [hqz_15, hqz_14, hs2.2.2.2.1]; omega)), (by first | omega | rfl | assumption | (rw [hqz_15, hqz_14, hs2.2.2.2.1]; exact p2.1.agK hr_9_4 (by omega)) | (rw [hqz_15, hqz_14, hs2.2.2.2.1]; omega)), (by first | omega | rfl | assumption | (rw [hqz_15, hqz_14, hs2.2.2.2.1]; exact p2.1.agK hr_9_4 (by omega)) | (rw [hqz_15, hqz_14, hs2.2.2.2.1]; omega)), (by first | omega | rfl | assumption | (rw [hqz_15, hqz_14, hs2.2.2.2.1]; exact p2.1.agK hr_9_4 (by omega)) | (rw [hqz_15, hqz_14, hs2.2.2.2.1]; omega)), (by first | omega | rfl | assumption | (rw [hqz_15, hqz_14, hs2.2.2.2.1]; exact p2.1.agK hr_9_4 (by omega)) | (rw [hqz_15, hqz_14, hs2.2.2.2.1]; omega)), (by first | omega | rfl | assumption | (rw [hqz_15, hqz_14, hs2.2.2.2.1]; exact p2.1.agK hr_9_4 (by omega)) | (rw [hqz_15, hqz_14, hs2.2.2.2.1]; omega)), (by first | omega | rfl | assumption | (rw [hqz_15, hqz_14, hs2.2.2.2.1]; exact p2.1.agK hr_9_4 (by omega)) | (rw [hqz_15, hqz_14, hs2.2.2.2.1]; omega)), (by first | omega | rfl | assumption | (rw [hqz_15, hqz_14, hs2.2.2.2.1]; exact p2.1.agK hr_9_4 (by omega)) | (rw [hqz_15, hqz_14, hs2.2.2.2.1]; omega)), (by first | omega | rfl | assumption | (rw [hqz_15, hqz_14, hs2.2.2.2.1]; exact p2.1.agK hr_9_4 (by omega)) | (rw [hqz_15, hqz_14, hs2.2.2.2.1]; omega)), (by first | omega | rfl | assumption | (rw [hqz_15, hqz_14, hs2.2.2.2.1]; exact p2.1.agK hr_9_4 (by omega)) | (rw [hqz_15, hqz_14, hs2.2.2.2.1]; omega))⟩⟩⟩ rfl rfl hl.1 rfl (lv_room (Nat.le_of_ble_eq_true rfl)) dX13_withParts_52 ⟨Nat.zero_le _, Nat.zero_le _⟩) hh_8.1 (fun q _ h => h) (fun q h => h) (fun r_17 u_16 t_16 H_16 locs_16 ht_16 hvm_16 hr_17 hb_16 hz_16 hk_16 hS_16 => ?_)
      obtain ⟨qn_16, qu_16, D_16⟩ := u_16
      rw [ht_16] at hb_16
      obtain ⟨⟨hb_161, hb_162, hb_163, hb_164, hb_165⟩, hb_166⟩ := hb_16
      have hh_16 : jSt (dC, dI) B base G0 G0 EX13_withParts s.heap 0 0 [(r0, 15, 5, .int qn_16), (r0, 15, 34, .int qu_16), (r0, 15, 11, .int py), (r0, 15, 36, .int pb), (r0, 15, 0, .ref zs), (r0, 15, 1, .ref zn), (r0, 15, 2, .ref za), (r0, 15, 3, .ref zb), (r0, 15, 4, .ref zc), (r0, 15, 14, .ref zy)] [(zs, 150, 120000, ca 1, D_16.s), (zn, 151, 120000, ca 1, D_16.n), (za, 152, 120000, ca 1, D_16.a), (zb, 153, 120000, ca 1, D_16.b), (zc, 154, 120000, ca 1, D_16.c), (zy, 165, 16, ca 1, D_16.y), (zy, 165, 16, ca 1, D_8.y), (zy, 165, 16, ca 1, C.y)] [] H_16 locs_16 := ((hh_8.call hb_161 hb_162 hb_163 hb_164 hS_16 rfl (L1 := [(r0, 15, 11, .int py), (r0, 15, 36, .int pb), (r0, 15, 0, .ref zs), (r0, 15, 1, .ref zn), (r0, 15, 2, .ref za), (r0, 15, 3, .ref zb), (r0, 15, 4, .ref zc), (r0, 15, 14, .ref zy)]) [2, 3, 4, 5, 6, 7, 8, 9] rfl rfl (M1 := [(zy, 165, 16, ca 1, D_8.y), (zy, 165, 16, ca 1, C.y)]) [5, 6] rfl rfl (I1 := []) [] rfl rfl).more hb_165).moreM hb_166
      clear hh_8 ht_16 hvm_16 hz_16 hk_16 hS_16 hb_161 hb_162 hb_163 hb_164 hb_165
      clear hb_166
      try simp only at hr_17
      obtain ⟨hr_17_0, hr_17_1, hr_17_2, hr_17_3, hr_17_4, hr_17_5⟩ := hr_17
      rw [hqz_15, hqz_14, hs2.2.2.2.1] at hr_17_1 hr_17_5
      refine lv_istore (lv' := [(6, .int r_17), (5, .int r_9), (7, .int 0), (4, .int z_1), (0, .ref r0), (1, .int a1), (2, .int a2), (3, .int a3)]) hx hb dX13_withParts_55 hl (by decide) rfl (fun ls hl => ?_)
      refine lv_iload hx hb dX13_withParts_57 (lv_at hl 3 rfl) ?_
      refine lv_iconst (v := 2) hx hb dX13_withParts_59 (by decide) ?_
      refine lv_icmp_le (tgt := 85) hx hb dX13_withParts_60 (by decide) (fun c_18 => ?_) (fun c_18 => ?_)
      · skip
        have c_18' : z_1.toInt ≤ 2 := jb_le (rfl) ((by decide)) c_18
        refine lv_aload_n hx hb dX13_withParts_85 rfl (lv_at hl 4 rfl) ?_
        refine lv_iload_n hx hb dX13_withParts_86 rfl (lv_at hl 5 rfl) ?_
        refine lv_iload_n hx hb dX13_withParts_87 rfl (lv_at hl 6 rfl) ?_
        refine lv_iload hx hb dX13_withParts_88 (lv_at hl 1 rfl) ?_
        refine lv_iload hx hb dX13_withParts_90 (lv_at hl 0 rfl) ?_
        refine lv_iload hx hb dX13_withParts_92 (lv_at hl 2 rfl) ?_
        refine va_calli (A0 := jA base) (H0 := s.heap) (va_runV (As := [.int a1, .int a2, .int r_9, .int r_17, .int 0]) (rest := []) ⟨hx, hb, hml, hown, hts⟩ (uX13_nodeK l dC dI ca base B hB hAp hB15 hB150 hB151 hB152 hB153 hB154 hB165 G0 H_16 r0 a1 a2 r_9 r_17 0 qn_16 zs zn za zb zc zy D_16) (cwV 5 hts (jgV (jWr_62 _ (List.mem_of_getElem? (i := 9) rfl)) (jWr_62 _ (List.mem_of_getElem? (i := 10) rfl)) (jWr_62 _ (List.mem_of_getElem? (i := 11) rfl)) (jWr_12 _ (List.mem_of_getElem? (i := 12) rfl)) (jWr_62 _ (List.mem_of_getElem? (i := 12) rfl))) rfl rfl rfl (by decide +kernel) ⟨by rw [← hR]; show (0) + 1 ≤ 2 * d + 3; omega, by rw [← hR]; show 8 + (6 + 11) + (0) ≤ 60 * d + 165; omega⟩) ⟨fun a U g mk q => by obtain ⟨q0, q1, q2, qK, q10, q11, q12, q13, q14, q15, q16, q17, q18, q19⟩ := q; exact ⟨q0, q1, q2, jG.calling g mk a qK, q10, q11, q12, q13, q14, q15, q16, q17, q18, q19⟩, hh_16.recv (C := RX13) (T := TX13) (N := 50) hB15 rfl (by decide) hg_r0 hK, fun U hU hW => ⟨rfl, hU, hh_16.2.1, hG.step hW hU hh_16.1, hg_r0, hg_zs, hg_zn, hg_za, hg_zb, hg_zc, hg_zy, (hh_16.2.2.1.sub (L1 := [(r0, 15, 5, .int qn_16), (r0, 15, 0, .ref zs), (r0, 15, 1, .ref zn), (r0, 15, 2, .ref za), (r0, 15, 3, .ref zb), (r0, 15, 4, .ref zc), (r0, 15, 14, .ref zy)]) [0, 4, 5, 6, 7, 8, 9] rfl), (hh_16.2.2.2.2.2.2.2.1.sub (L1 := [(zs, 150, 120000, ca 1, D_16.s), (zn, 151, 120000, ca 1, D_16.n), (za, 152, 120000, ca 1, D_16.a), (zb, 153, 120000, ca 1, D_16.b), (zc, 154, 120000, ca 1, D_16.c), (zy, 165, 16, ca 1, D_16.y)]) [0, 1, 2, 3, 4, 5] rfl), by first | omega | (refine ⟨?_, ?_⟩ <;> (first | omega | rfl | assumption | decide | exact Or.inl rfl | exact Or.inr rfl | (simp only; omega)))⟩⟩ rfl rfl hl.1 rfl (lv_room (Nat.le_of_ble_eq_true rfl)) dX13_withParts_94 ⟨Nat.zero_le _, Nat.zero_le _⟩) hh_16.1 (fun q _ h => h) (fun q h => h) (fun r_20 u_19 t_19 H_19 locs_19 ht_19 hvm_19 hr_20 hb_19 hz_19 hk_19 hS_19 => ?_)
        obtain ⟨qn_19, D_19⟩ := u_19
        rw [ht_19] at hb_19
        obtain ⟨⟨hb_191, hb_192, hb_193, hb_194, hb_195⟩, hb_196⟩ := hb_19
        have hh_19 : jSt (dC, dI) B base G0 G0 EX13_withParts s.heap 0 0 [(r0, 15, 5, .int qn_19), (r0, 15, 34, .int qu_16), (r0, 15, 11, .int py), (r0, 15, 36, .int pb), (r0, 15, 0, .ref zs), (r0, 15, 1, .ref zn), (r0, 15, 2, .ref za), (r0, 15, 3, .ref zb), (r0, 15, 4, .ref zc), (r0, 15, 14, .ref zy)] [(zs, 150, 120000, ca 1, D_19.s), (zn, 151, 120000, ca 1, D_19.n), (za, 152, 120000, ca 1, D_19.a), (zb, 153, 120000, ca 1, D_19.b), (zc, 154, 120000, ca 1, D_19.c), (zy, 165, 16, ca 1, D_19.y), (zy, 165, 16, ca 1, D_16.y), (zy, 165, 16, ca 1, D_8.y), (zy, 165, 16, ca 1, C.y)] [] H_19 locs_19 := ((hh_16.call hb_191 hb_192 hb_193 hb_194 hS_19 rfl (L1 := [(r0, 15, 34, .int qu_16), (r0, 15, 11, .int py), (r0, 15, 36, .int pb), (r0, 15, 0, .ref zs), (r0, 15, 1, .ref zn), (r0, 15, 2, .ref za), (r0, 15, 3, .ref zb), (r0, 15, 4, .ref zc), (r0, 15, 14, .ref zy)]) [1, 2, 3, 4, 5, 6, 7, 8, 9] rfl rfl (M1 := [(zy, 165, 16, ca 1, D_16.y), (zy, 165, 16, ca 1, D_8.y), (zy, 165, 16, ca 1, C.y)]) [5, 6, 7] rfl rfl (I1 := []) [] rfl rfl).more hb_195).moreM hb_196
        clear hh_16 ht_19 hvm_19 hz_19 hk_19 hS_19 hb_191 hb_192 hb_193 hb_194 hb_195
        clear hb_196
        try simp only at hr_20
        obtain ⟨hr_20_0, hr_20_1, hr_20_2⟩ := hr_20
        rw [hQ]
        exact W.iret (v := r_20) hx hb hr (fun t ht hW => ⟨⟨r_20, (qn_19, qu_16, D_19), rfl, by
    try dsimp only
    refine ⟨by omega, by omega, by omega, by omega, (hr_9_4.tr hr_17_4 (by omega)).tr hr_20_2.1 (by omega), fun h9 => ?_⟩
    obtain ⟨f0, s0⟩ := hr_9_5 (by omega)
    have t0 := jsz_ag (hr_17_4) f0
    have f0 := jFm.ag (M := qn_16.toInt) (hr_17_4) (by omega) f0
    obtain ⟨f1, s1⟩ := hr_17_5 (by omega)
    have hy : jSo D_16.y a2.toInt = jSo C.c a3.toInt := by rw [← hp2]; unfold jSo; rw [((hr_9_4.tr hr_17_4 (by omega))).2]
    have k := jMk7 (m := jSo C.c a3.toInt) (d := d - 1) (b := pb.toInt) (Y := py.toInt) hr_20_2 (by omega) (by omega) hy (by omega) (by omega) (by omega) (fun _ => f0) (fun _ => f1) (fun q => absurd q (by omega))
    have k2 := k.2.2.2.1 (by omega)
    have k1 := k.1
    rw [show d - 1 + 1 = d by omega] at k1
    rw [hr_20_0, hr_20_1]
    exact ⟨k1, by omega⟩, ⟨hh_19.rt (M1 := [(r0, 15, 5, .int qn_19), (r0, 15, 34, .int qu_16)]) [0, 1] rfl ht, by rw [ht]; exact hh_19.2.2.2.2.2.2.2.1.sub [0, 1, 2, 3, 4, 5] rfl⟩⟩, by rw [ht]; try exact hh_19.1.1, fun q h9 hq => by rw [ht]; try exact hh_19.1.2.1 q h9 hq⟩) hh_19.1.2.2 dX13_withParts_97
      · skip
        have c_18' : z_1.toInt > 2 := jb_le_n (rfl) ((by decide)) c_18
        have hA2 := hr_9_4.tr hr_17_4 (by omega)
        have hs3 := hA2.so (n := a3.toInt) (by omega) (by omega)
        have p3 := hp0.p3 (by omega)
        have o3 := p3.1.ok
        have hs4 := hA2.so (n := jSo C.a a3.toInt) (by omega) (by omega)
        have hs5 := hA2.so (n := jSo C.b (jSo C.a a3.toInt)) (by omega) (by omega)
        refine lv_aload_n hx hb dX13_withParts_63 rfl (lv_at hl 4 rfl) ?_
        refine lv_aload_n hx hb dX13_withParts_64 rfl (lv_at hl 4 rfl) ?_
        refine j7_read hx hb hown hK (C := RX13) (T := TX13) (N := 50) rfl hly_15_3 hlk_22 (hh_16.at 7 rfl) dX13_withParts_65 ?_
        refine lv_aload_n hx hb dX13_withParts_68 rfl (lv_at hl 4 rfl) ?_
        refine j7_read hx hb hown hK (C := RX13) (T := TX13) (N := 50) rfl hly_15_3 hlk_22 (hh_16.at 7 rfl) dX13_withParts_69 ?_
        refine lv_aload_n hx hb dX13_withParts_72 rfl (lv_at hl 4 rfl) ?_
        refine j7_read hx hb hown hK (C := RX13) (T := TX13) (N := 50) rfl hly_15_2 hlk_19 (hh_16.at 6 rfl) dX13_withParts_73 ?_
        refine lv_iload_n hx hb dX13_withParts_76 rfl (lv_at hl 7 rfl) ?_
        refine j7_ialdM hx hb hK hh_16 hB152 1 rfl (by decide) hg_za (x := a3.toInt) (rfl) (by omega) (j := 2) rfl dX13_withParts_77 (fun z_21 ez_21 (hz_21 : True) => ?_)
        have hqz_21 : z_21.toInt = jSo D_16.a (a3.toInt) := by unfold jSo; rw [ez_21]
        first | rw [hs3.2.2.1] at hqz_21 | skip
        refine j7_ialdM hx hb hK hh_16 hB153 1 rfl (by decide) hg_zb (x := z_21.toInt) (rfl) (by omega) (j := 3) rfl dX13_withParts_78 (fun z_22 ez_22 (hz_22 : True) => ?_)
        have hqz_22 : z_22.toInt = jSo D_16.b (z_21.toInt) := by unfold jSo; rw [ez_22]
        first | rw [hqz_21, hs4.2.2.2.1] at hqz_22 | skip
        refine j7_ialdM hx hb hK hh_16 hB153 1 rfl (by decide) hg_zb (x := z_22.toInt) (rfl) (by omega) (j := 3) rfl dX13_withParts_79 (fun z_23 ez_23 (hz_23 : True) => ?_)
        have hqz_23 : z_23.toInt = jSo D_16.b (z_22.toInt) := by unfold jSo; rw [ez_23]
        refine va_calli (A0 := jA base) (H0 := s.heap) (va_runV (As := [.int z_23]) (rest := []) ⟨hx, hb, hml, hown, hts⟩ (ih (d - 1) (by omega) G0 H_16 r0 z_23 qn_16 qu_16 py pb zs zn za zb zc zy hi D_16) (cwV 1 hts (jgV (jWr_65 _ (List.mem_of_getElem? (i := 7) rfl)) (jWr_65 _ (List.mem_of_getElem? (i := 8) rfl)) (jWr_65 _ (List.mem_of_getElem? (i := 9) rfl)) (jWr_12 _ (List.mem_of_getElem? (i := 12) rfl)) (jWr_65 _ (List.mem_of_getElem? (i := 10) rfl))) rfl rfl rfl (by decide +kernel) ⟨by rw [← hR]; show (2 * (d - 1) + 4) + 1 ≤ 2 * d + 3; omega, by rw [← hR]; show 8 + (4 + 11) + (60 * (d - 1) + 200) ≤ 60 * d + 165; omega⟩) ⟨fun a U g mk q => by obtain ⟨q0, q1, q2, qK, q10, q11, q12, q13, q14, q15, q16, q17, q18, q19⟩ := q; exact ⟨q0, q1, q2, jG.calling g mk a qK, q10, q11, q12, q13, q14, q15, q16, q17, q18, q19⟩, hh_16.recv (C := RX13) (T := TX13) (N := 50) hB15 rfl (by decide) hg_r0 hK, fun U hU hW => ⟨rfl, hU, hh_16.2.1, hG.step hW hU hh_16.1, hg_r0, hg_zs, hg_zn, hg_za, hg_zb, hg_zc, hg_zy, (hh_16.2.2.1.sub (L1 := [(r0, 15, 5, .int qn_16), (r0, 15, 34, .int qu_16), (r0, 15, 11, .int py), (r0, 15, 36, .int pb), (r0, 15, 0, .ref zs), (r0, 15, 1, .ref zn), (r0, 15, 2, .ref za), (r0, 15, 3, .ref zb), (r0, 15, 4, .ref zc), (r0, 15, 14, .ref zy)]) [0, 1, 2, 3, 4, 5, 6, 7, 8, 9] rfl), (hh_16.2.2.2.2.2.2.2.1.sub (L1 := [(zs, 150, 120000, ca 1, D_16.s), (zn, 151, 120000, ca 1, D_16.n), (za, 152, 120000, ca 1, D_16.a), (zb, 153, 120000, ca 1, D_16.b), (zc, 154, 120000, ca 1, D_16.c), (zy, 165, 16, ca 1, D_16.y)]) [0, 1, 2, 3, 4, 5] rfl), ⟨(by first | assumption | (rw [hqz_23, hqz_22, hs5.2.2.2.1]; exact p3.1.agK hA2 (by omega)) | (rw [hqz_23, hqz_22, hs5.2.2.2.1]; omega) | omega), (by first | omega | rfl | assumption | (rw [hqz_23, hqz_22, hs5.2.2.2.1]; exact p3.1.agK hA2 (by omega)) | (rw [hqz_23, hqz_22, hs5.2.2.2.1]; omega)), (by first | omega | rfl | assumption | (rw [hqz_23, hqz_22, hs5.2.2.2.1]; exact p3.1.agK hA2 (by omega)) | (rw [hqz_23, hqz_22, hs5.2.2.2.1]; omega)), (by first | omega | rfl | assumption | (rw [hqz_23, hqz_22, hs5.2.2.2.1]; exact p3.1.agK hA2 (by omega)) | (rw [hqz_23, hqz_22, hs5.2.2.2.1]; omega)), (by first | omega | rfl | assumption | (rw [hqz_23, hqz_22, hs5.2.2.2.1]; exact p3.1.agK hA2 (by omega)) | (rw [hqz_23, hqz_22, hs5.2.2.2.1]; omega)), (by first | omega | rfl | assumption | (rw [hqz_23, hqz_22, hs5.2.2.2.1]; exact p3.1.agK hA2 (by omega)) | (rw [hqz_23, hqz_22, hs5.2.2.2.1]; omega)), (by first | omega | rfl | assumption | (rw [hqz_23, hqz_22, hs5.2.2.2.1]; exact p3.1.agK hA2 (by omega)) | (rw [hqz_23, hqz_22, hs5.2.2.2.1]; omega)), (by first | omega | rfl | assumption | (rw [hqz_23, hqz_22, hs5.2.2.2.1]; exact p3.1.agK hA2 (by omega)) | (rw [hqz_23, hqz_22, hs5.2.2.2.1]; omega)), (by first | omega | rfl | assumption | (rw [hqz_23, hqz_22, hs5.2.2.2.1]; exact p3.1.agK hA2 (by omega)) | (rw [hqz_23, hqz_22, hs5.2.2.2.1]; omega)), (by first | omega | rfl | assumption | (rw [hqz_23, hqz_22, hs5.2.2.2.1]; exact p3.1.agK hA2 (by omega)) | (rw [hqz_23, hqz_22, hs5.2.2.2.1]; omega)), (by first | omega | rfl | assumption | (rw [hqz_23, hqz_22, hs5.2.2.2.1]; exact p3.1.agK hA2 (by omega)) | (rw [hqz_23, hqz_22, hs5.2.2.2.1]; omega))⟩⟩⟩ rfl rfl hl.1 rfl (lv_room (Nat.le_of_ble_eq_true rfl)) dX13_withParts_80 ⟨Nat.zero_le _, Nat.zero_le _⟩) hh_16.1 (fun q _ h => h) (fun q h => h) (fun r_25 u_24 t_24 H_24 locs_24 ht_24 hvm_24 hr_25 hb_24 hz_24 hk_24 hS_24 => ?_)
        obtain ⟨qn_24, qu_24, D_24⟩ := u_24
        rw [ht_24] at hb_24
        obtain ⟨⟨hb_241, hb_242, hb_243, hb_244, hb_245⟩, hb_246⟩ := hb_24
        have hh_24 : jSt (dC, dI) B base G0 G0 EX13_withParts s.heap 0 0 [(r0, 15, 5, .int qn_24), (r0, 15, 34, .int qu_24), (r0, 15, 11, .int py), (r0, 15, 36, .int pb), (r0, 15, 0, .ref zs), (r0, 15, 1, .ref zn), (r0, 15, 2, .ref za), (r0, 15, 3, .ref zb), (r0, 15, 4, .ref zc), (r0, 15, 14, .ref zy)] [(zs, 150, 120000, ca 1, D_24.s), (zn, 151, 120000, ca 1, D_24.n), (za, 152, 120000, ca 1, D_24.a), (zb, 153, 120000, ca 1, D_24.b), (zc, 154, 120000, ca 1, D_24.c), (zy, 165, 16, ca 1, D_24.y), (zy, 165, 16, ca 1, D_16.y), (zy, 165, 16, ca 1, D_8.y), (zy, 165, 16, ca 1, C.y)] [] H_24 locs_24 := ((hh_16.call hb_241 hb_242 hb_243 hb_244 hS_24 rfl (L1 := [(r0, 15, 11, .int py), (r0, 15, 36, .int pb), (r0, 15, 0, .ref zs), (r0, 15, 1, .ref zn), (r0, 15, 2, .ref za), (r0, 15, 3, .ref zb), (r0, 15, 4, .ref zc), (r0, 15, 14, .ref zy)]) [2, 3, 4, 5, 6, 7, 8, 9] rfl rfl (M1 := [(zy, 165, 16, ca 1, D_16.y), (zy, 165, 16, ca 1, D_8.y), (zy, 165, 16, ca 1, C.y)]) [5, 6, 7] rfl rfl (I1 := []) [] rfl rfl).more hb_245).moreM hb_246
        clear hh_16 ht_24 hvm_24 hz_24 hk_24 hS_24 hb_241 hb_242 hb_243 hb_244 hb_245
        clear hb_246
        try simp only at hr_25
        obtain ⟨hr_25_0, hr_25_1, hr_25_2, hr_25_3, hr_25_4, hr_25_5⟩ := hr_25
        rw [hqz_23, hqz_22, hs5.2.2.2.1] at hr_25_1 hr_25_5
        refine lv_istore (lv' := [(7, .int r_25), (6, .int r_17), (5, .int r_9), (4, .int z_1), (0, .ref r0), (1, .int a1), (2, .int a2), (3, .int a3)]) hx hb dX13_withParts_83 hl (by decide) rfl (fun ls hl => ?_)
        refine lv_aload_n hx hb dX13_withParts_85 rfl (lv_at hl 4 rfl) ?_
        refine lv_iload_n hx hb dX13_withParts_86 rfl (lv_at hl 5 rfl) ?_
        refine lv_iload_n hx hb dX13_withParts_87 rfl (lv_at hl 6 rfl) ?_
        refine lv_iload hx hb dX13_withParts_88 (lv_at hl 2 rfl) ?_
        refine lv_iload hx hb dX13_withParts_90 (lv_at hl 1 rfl) ?_
        refine lv_iload hx hb dX13_withParts_92 (lv_at hl 0 rfl) ?_
        refine va_calli (A0 := jA base) (H0 := s.heap) (va_runV (As := [.int a1, .int a2, .int r_9, .int r_17, .int r_25]) (rest := []) ⟨hx, hb, hml, hown, hts⟩ (uX13_nodeK l dC dI ca base B hB hAp hB15 hB150 hB151 hB152 hB153 hB154 hB165 G0 H_24 r0 a1 a2 r_9 r_17 r_25 qn_24 zs zn za zb zc zy D_24) (cwV 5 hts (jgV (jWr_62 _ (List.mem_of_getElem? (i := 9) rfl)) (jWr_62 _ (List.mem_of_getElem? (i := 10) rfl)) (jWr_62 _ (List.mem_of_getElem? (i := 11) rfl)) (jWr_12 _ (List.mem_of_getElem? (i := 12) rfl)) (jWr_62 _ (List.mem_of_getElem? (i := 12) rfl))) rfl rfl rfl (by decide +kernel) ⟨by rw [← hR]; show (0) + 1 ≤ 2 * d + 3; omega, by rw [← hR]; show 8 + (6 + 11) + (0) ≤ 60 * d + 165; omega⟩) ⟨fun a U g mk q => by obtain ⟨q0, q1, q2, qK, q10, q11, q12, q13, q14, q15, q16, q17, q18, q19⟩ := q; exact ⟨q0, q1, q2, jG.calling g mk a qK, q10, q11, q12, q13, q14, q15, q16, q17, q18, q19⟩, hh_24.recv (C := RX13) (T := TX13) (N := 50) hB15 rfl (by decide) hg_r0 hK, fun U hU hW => ⟨rfl, hU, hh_24.2.1, hG.step hW hU hh_24.1, hg_r0, hg_zs, hg_zn, hg_za, hg_zb, hg_zc, hg_zy, (hh_24.2.2.1.sub (L1 := [(r0, 15, 5, .int qn_24), (r0, 15, 0, .ref zs), (r0, 15, 1, .ref zn), (r0, 15, 2, .ref za), (r0, 15, 3, .ref zb), (r0, 15, 4, .ref zc), (r0, 15, 14, .ref zy)]) [0, 4, 5, 6, 7, 8, 9] rfl), (hh_24.2.2.2.2.2.2.2.1.sub (L1 := [(zs, 150, 120000, ca 1, D_24.s), (zn, 151, 120000, ca 1, D_24.n), (za, 152, 120000, ca 1, D_24.a), (zb, 153, 120000, ca 1, D_24.b), (zc, 154, 120000, ca 1, D_24.c), (zy, 165, 16, ca 1, D_24.y)]) [0, 1, 2, 3, 4, 5] rfl), by first | omega | (refine ⟨?_, ?_⟩ <;> (first | omega | rfl | assumption | decide | exact Or.inl rfl | exact Or.inr rfl | (simp only; omega)))⟩⟩ rfl rfl hl.1 rfl (lv_room (Nat.le_of_ble_eq_true rfl)) dX13_withParts_94 ⟨Nat.zero_le _, Nat.zero_le _⟩) hh_24.1 (fun q _ h => h) (fun q h => h) (fun r_27 u_26 t_26 H_26 locs_26 ht_26 hvm_26 hr_27 hb_26 hz_26 hk_26 hS_26 => ?_)
        obtain ⟨qn_26, D_26⟩ := u_26
        rw [ht_26] at hb_26
        obtain ⟨⟨hb_261, hb_262, hb_263, hb_264, hb_265⟩, hb_266⟩ := hb_26
        have hh_26 : jSt (dC, dI) B base G0 G0 EX13_withParts s.heap 0 0 [(r0, 15, 5, .int qn_26), (r0, 15, 34, .int qu_24), (r0, 15, 11, .int py), (r0, 15, 36, .int pb), (r0, 15, 0, .ref zs), (r0, 15, 1, .ref zn), (r0, 15, 2, .ref za), (r0, 15, 3, .ref zb), (r0, 15, 4, .ref zc), (r0, 15, 14, .ref zy)] [(zs, 150, 120000, ca 1, D_26.s), (zn, 151, 120000, ca 1, D_26.n), (za, 152, 120000, ca 1, D_26.a), (zb, 153, 120000, ca 1, D_26.b), (zc, 154, 120000, ca 1, D_26.c), (zy, 165, 16, ca 1, D_26.y), (zy, 165, 16, ca 1, D_24.y), (zy, 165, 16, ca 1, D_16.y), (zy, 165, 16, ca 1, D_8.y), (zy, 165, 16, ca 1, C.y)] [] H_26 locs_26 := ((hh_24.call hb_261 hb_262 hb_263 hb_264 hS_26 rfl (L1 := [(r0, 15, 34, .int qu_24), (r0, 15, 11, .int py), (r0, 15, 36, .int pb), (r0, 15, 0, .ref zs), (r0, 15, 1, .ref zn), (r0, 15, 2, .ref za), (r0, 15, 3, .ref zb), (r0, 15, 4, .ref zc), (r0, 15, 14, .ref zy)]) [1, 2, 3, 4, 5, 6, 7, 8, 9] rfl rfl (M1 := [(zy, 165, 16, ca 1, D_24.y), (zy, 165, 16, ca 1, D_16.y), (zy, 165, 16, ca 1, D_8.y), (zy, 165, 16, ca 1, C.y)]) [5, 6, 7, 8] rfl rfl (I1 := []) [] rfl rfl).more hb_265).moreM hb_266
        clear hh_24 ht_26 hvm_26 hz_26 hk_26 hS_26 hb_261 hb_262 hb_263 hb_264 hb_265
        clear hb_266
        try simp only at hr_27
        obtain ⟨hr_27_0, hr_27_1, hr_27_2⟩ := hr_27
        rw [hQ]
        exact W.iret (v := r_27) hx hb hr (fun t ht hW => ⟨⟨r_27, (qn_26, qu_24, D_26), rfl, by
    try dsimp only
    refine ⟨by omega, by omega, by omega, by omega, ((hr_9_4.tr hr_17_4 (by omega)).tr hr_25_4 (by omega)).tr hr_27_2.1 (by omega), fun h9 => ?_⟩
    obtain ⟨f0, s0⟩ := hr_9_5 (by omega)
    have t0 := jsz_ag (hr_17_4.tr hr_25_4 (by omega)) f0
    have f0 := jFm.ag (M := qn_24.toInt) (hr_17_4.tr hr_25_4 (by omega)) (by omega) f0
    obtain ⟨f1, s1⟩ := hr_17_5 (by omega)
    have t1 := jsz_ag (hr_25_4) f1
    have f1 := jFm.ag (M := qn_24.toInt) (hr_25_4) (by omega) f1
    obtain ⟨f2, s2⟩ := hr_25_5 (by omega)
    have hy : jSo D_24.y a2.toInt = jSo C.c a3.toInt := by rw [← hp2]; unfold jSo; rw [(((hr_9_4.tr hr_17_4 (by omega)).tr hr_25_4 (by omega))).2]
    have k := jMk7 (m := jSo C.c a3.toInt) (d := d - 1) (b := pb.toInt) (Y := py.toInt) hr_27_2 (by omega) (by omega) hy (by omega) (by omega) (by omega) (fun _ => f0) (fun _ => f1) (fun _ => f2)
    have k2 := k.2.2.2.2 (by omega)
    have k1 := k.1
    rw [show d - 1 + 1 = d by omega] at k1
    rw [hr_27_0, hr_27_1]
    exact ⟨k1, by omega⟩, ⟨hh_26.rt (M1 := [(r0, 15, 5, .int qn_26), (r0, 15, 34, .int qu_24)]) [0, 1] rfl ht, by rw [ht]; exact hh_26.2.2.2.2.2.2.2.1.sub [0, 1, 2, 3, 4, 5] rfl⟩⟩, by rw [ht]; try exact hh_26.1.1, fun q h9 hq => by rw [ht]; try exact hh_26.1.2.1 q h9 hq⟩) hh_26.1.2.2 dX13_withParts_97
set_option maxHeartbeats 4000000 in
set_option maxRecDepth 20000 in
theorem uX13_meantTerm (l : Launch) (dC : Nat → ClassId) (dI : Nat → Nat → Nat) (ca : Nat → ClassId) (base : Nat) (B : jF) (hB : jBok B) (hAp : jAp (dC, dI)) (hB15 : ∀ n G a H, B 15 n G a H ↔ jOb (dC, dI) 15 50 (F15 n G) a H) (hB103 : ∀ n G a H, B 103 n G a H ↔ jAr (dC, dI) (ca 3) (fun j z => (z = 0 ∨ z = 1)) n a H) (hB150 : ∀ n G a H, B 150 n G a H ↔ jAr (dC, dI) (ca 1) (fun j z => True) n a H) (hB151 : ∀ n G a H, B 151 n G a H ↔ jAr (dC, dI) (ca 1) (fun j z => True) n a H) (hB152 : ∀ n G a H, B 152 n G a H ↔ jAr (dC, dI) (ca 1) (fun j z => True) n a H) (hB153 : ∀ n G a H, B 153 n G a H ↔ jAr (dC, dI) (ca 1) (fun j z => True) n a H) (hB154 : ∀ n G a H, B 154 n G a H ↔ jAr (dC, dI) (ca 1) (fun j z => True) n a H) (hB158 : ∀ n G a H, B 158 n G a H ↔ jAr (dC, dI) (ca 1) (fun j z => 0 ≤ z.toInt ∧ z.toInt ≤ 6) n a H) (hB163 : ∀ n G a H, B 163 n G a H ↔ jAr (dC, dI) (ca 1) (fun j z => 0 ≤ z.toInt ∧ z.toInt ≤ 1599) n a H) (hB165 : ∀ n G a H, B 165 n G a H ↔ jAr (dC, dI) (ca 1) (fun j z => 0 ≤ z.toInt ∧ z.toInt ≤ 3) n a H) (d : Nat) (hW : qX13_withParts l dC dI ca base B d) (G0 : jT) (H0 : Heap) (r0 : Nat) (a1 : Int32) (pn : Int32) (pu : Int32) (py : Int32) (pb : Int32) (zs : Nat) (zn : Nat) (za : Nat) (zb : Nat) (zc : Nat) (zy : Nat) (hi : Int) (C : jK) : Met l yX13_meantTerm (jw yX13_meantTerm cX13_meantTerm 4 (some .int)) ({ frames := 2 * d + 4, cells := 0, slots := 0, locals := 60 * d + 200 }) (va_Pc [.ref r0, .int a1] (fun U => U.heap = H0 ∧ jX B base G0 [] H0 ∧ jG dC dI ca base U ∧ G0 r0 = some (15, 0) ∧ G0 zs = some (150, 120000) ∧ G0 zn = some (151, 120000) ∧ G0 za = some (152, 120000) ∧ G0 zb = some (153, 120000) ∧ G0 zc = some (154, 120000) ∧ G0 zy = some (165, 16) ∧ jP (dC, dI) G0 H0 [(r0, 15, 5, .int pn), (r0, 15, 34, .int pu), (r0, 15, 11, .int py), (r0, 15, 36, .int pb), (r0, 15, 0, .ref zs), (r0, 15, 1, .ref zn), (r0, 15, 2, .ref za), (r0, 15, 3, .ref zb), (r0, 15, 4, .ref zc), (r0, 15, 14, .ref zy)] ∧ jMc (dC, dI) G0 H0 [(zs, 150, 120000, ca 1, C.s), (zn, 151, 120000, ca 1, C.n), (za, 152, 120000, ca 1, C.a), (zb, 153, 120000, ca 1, C.b), (zc, 154, 120000, ca 1, C.c), (zy, 165, 16, ca 1, C.y)] ∧ jRtm C d a1.toInt hi ∧ hi ≤ pn.toInt ∧ pn.toInt + (hi - a1.toInt) ≤ 119999 ∧ 0 ≤ pu.toInt ∧ pu.toInt ≤ 9 ∧ 0 ≤ py.toInt ∧ py.toInt ≤ 16 ∧ 0 ≤ pb.toInt ∧ pb.toInt ≤ 199 ∧ 0 ≤ pn.toInt ∧ d ≤ 20)) (va_Qi (S := Int32 × Int32 × jK) (fun r u => (pn.toInt ≤ u.1.toInt ∧ u.1.toInt ≤ pn.toInt + (hi - a1.toInt) ∧ pu.toInt ≤ u.2.1.toInt ∧ u.2.1.toInt ≤ 9 ∧ jAgK C u.2.2 pn.toInt ∧ (u.2.1.toInt ≤ 0 → jFm u.2.2 u.1.toInt py.toInt d pb.toInt r.toInt ∧ jsz u.2.2 r.toInt ≤ hi - a1.toInt))) (fun u t => jRt (dC, dI) B base G0 EX13_meantTerm H0 [(r0, 15, 5, .int u.1), (r0, 15, 34, .int u.2.1)] t.heap ∧ jMc (dC, dI) G0 t.heap [(zs, 150, 120000, ca 1, u.2.2.s), (zn, 151, 120000, ca 1, u.2.2.n), (za, 152, 120000, ca 1, u.2.2.a), (zb, 153, 120000, ca 1, u.2.2.b), (zc, 154, 120000, ca 1, u.2.2.c), (zy, 165, 16, ca 1, u.2.2.y)]) (jA base)) 0 0 (jA base) := by
  refine Met.ofW (cc := cX13_meantTerm) (maxL := 4) (ret := (some .int)) (by decide) rfl ?_
  intro p e s m args below meth c s₁ Bd hml hv
  obtain ⟨rfl, hH0, hX, hG, hg_r0, hg_zs, hg_zn, hg_za, hg_zb, hg_zc, hg_zy, hP0, hM0, hp0, hp1, hp2, hp3, hp4, hp5, hp6, hp7, hp8, hp9, hp10⟩ := hv
  have hK := hG.1
  have hx := Bd.exec
  have hb := Bd.bytes
  have hr := Bd.returns
  have hts := atoms_spec (ws := (jw yX13_meantTerm cX13_meantTerm 4 (some .int))) Bd.pre
  have htw : ∀ w ∈ jWl, w.before _ s = true := fun w h => hts w (List.mem_cons_of_mem _ h)
  have hown : s.vm.findClass RX13 = some m.cls := findClass_of_methodNamed Bd.named
  have hlocks := Bd.notSynchronized
  obtain ⟨Q, hQ⟩ : ∃ Q, Q = MQ below (va_Qi (S := Int32 × Int32 × jK) (fun r u => (pn.toInt ≤ u.1.toInt ∧ u.1.toInt ≤ pn.toInt + (hi - a1.toInt) ∧ pu.toInt ≤ u.2.1.toInt ∧ u.2.1.toInt ≤ 9 ∧ jAgK C u.2.2 pn.toInt ∧ (u.2.1.toInt ≤ 0 → jFm u.2.2 u.1.toInt py.toInt d pb.toInt r.toInt ∧ jsz u.2.2 r.toInt ≤ hi - a1.toInt))) (fun u t => jRt (dC, dI) B base G0 EX13_meantTerm H0 [(r0, 15, 5, .int u.1), (r0, 15, 34, .int u.2.1)] t.heap ∧ jMc (dC, dI) G0 t.heap [(zs, 150, 120000, ca 1, u.2.2.s), (zn, 151, 120000, ca 1, u.2.2.n), (za, 152, 120000, ca 1, u.2.2.a), (zb, 153, 120000, ca 1, u.2.2.b), (zc, 154, 120000, ca 1, u.2.2.c), (zy, 165, 16, ca 1, u.2.2.y)]) (jA base)) ([.ref r0, .int a1] : List Value).toArray s 0 0 (jA base) := ⟨_, rfl⟩
  rw [← hQ]
  have hl := lv_entry ([.ref r0, .int a1]) (n := 4) (Nat.le_of_ble_eq_true rfl)
  rw [lg_entry_eq]
  generalize (lg_sl ([.ref r0, .int a1]) ++ List.replicate (4 - (lg_sl ([.ref r0, .int a1])).length) Slot.unset).toArray = ls at hl ⊢
  have hl : lv_has ls 4 [(0, .ref r0), (1, .int a1)] := hl
  generalize hR : (headSpec (jw yX13_meantTerm cX13_meantTerm 4 (some .int)) ({ frames := 2 * d + 4, cells := 0, slots := 0, locals := 60 * d + 200 })).room = R
  subst hH0
  have hh : jSt (dC, dI) B base G0 G0 EX13_meantTerm s.heap 0 0 [(r0, 15, 5, .int pn), (r0, 15, 34, .int pu), (r0, 15, 11, .int py), (r0, 15, 36, .int pb), (r0, 15, 0, .ref zs), (r0, 15, 1, .ref zn), (r0, 15, 2, .ref za), (r0, 15, 3, .ref zb), (r0, 15, 4, .ref zc), (r0, 15, 14, .ref zy)] [(zs, 150, 120000, ca 1, C.s), (zn, 151, 120000, ca 1, C.n), (za, 152, 120000, ca 1, C.a), (zb, 153, 120000, ca 1, C.b), (zc, 154, 120000, ca 1, C.c), (zy, 165, 16, ca 1, C.y)] [] s.heap [] := jSt.start hX hP0 hM0 jIs.nil
  clear hX hP0
  have hk0 : (0 : Int32).toInt = 0 := by decide
  have hk1 : (1 : Int32).toInt = 1 := by decide
  have hk5 : (5 : Int32).toInt = 5 := by decide
  have hk8 : (8 : Int32).toInt = 8 := by decide
  have hk9 : (9 : Int32).toInt = 9 := by decide
  have hk10 : (10 : Int32).toInt = 10 := by decide
  have hly_15_1 := htw (u_lay RX13 TX13 1) (jWc_wsX130 _ (u_in_lay (by decide)))
  have hly_15_4 := htw (u_lay RX13 TX13 4) (jWc_wsX130 _ (u_in_lay (by decide)))
  have hly_15_13 := htw (u_lay RX13 TX13 13) (jWc_wsX130 _ (u_in_lay (by decide)))
  have hly_15_14 := htw (u_lay RX13 TX13 14) (jWc_wsX130 _ (u_in_lay (by decide)))
  have hly_15_34 := htw (u_lay RX13 TX13 34) (jWc_wsX130 _ (u_in_lay (by decide)))
  have hly_15_35 := htw (u_lay RX13 TX13 35) (jWc_wsX130 _ (u_in_lay (by decide)))
  have hly_15_36 := htw (u_lay RX13 TX13 36) (jWc_wsX130 _ (u_in_lay (by decide)))
  have hlk_221 := (htw (.fieldLink RX13 221 "ProofServerModel$Kernel" "fault" "I") (jWr_60 _ (List.mem_of_getElem? (i := 3) rfl)))
  have hlk_16 := (htw (.fieldLink RX13 16 "ProofServerModel$Kernel" "name" "[I") (jWr_14 _ (List.mem_of_getElem? (i := 10) rfl)))
  have hlk_242 := (htw (.fieldLink RX13 242 "ProofServerModel$Kernel" "binders" "I") (jWr_60 _ (List.mem_of_getElem? (i := 4) rfl)))
  have hlk_77 := (htw (.fieldLink RX13 77 "ProofServerModel$Kernel" "binder" "[I") (jWr_15 _ (List.mem_of_getElem? (i := 6) rfl)))
  have hlk_25 := (htw (.fieldLink RX13 25 "ProofServerModel$Kernel" "three" "[I") (jWr_14 _ (List.mem_of_getElem? (i := 13) rfl)))
  have hlk_40 := (htw (.fieldLink RX13 40 "ProofServerModel$Kernel" "predicate" "[Z") (jWr_14 _ (List.mem_of_getElem? (i := 18) rfl)))
  have hlk_44 := (htw (.fieldLink RX13 44 "ProofServerModel$Kernel" "arity" "[I") (jWr_14 _ (List.mem_of_getElem? (i := 19) rfl)))
  have hrg_a1 := jb_rng a1
  have ho := hp0.ok
  refine lv_aload_n hx hb dX13_meantTerm_0 rfl (lv_at hl 0 rfl) ?_
  refine j7_read hx hb hown hK (C := RX13) (T := TX13) (N := 50) rfl hly_15_34 hlk_221 (hh.at 1 rfl) dX13_meantTerm_1 ?_
  refine lv_if_le (tgt := 9) hx hb dX13_meantTerm_4 (by decide) (fun c_1 => ?_) (fun c_1 => ?_)
  · skip
    have c_1' : pu.toInt ≤ 0 := jb_le (rfl) ((by decide)) c_1
    refine lv_aload_n hx hb dX13_meantTerm_9 rfl (lv_at hl 0 rfl) ?_
    refine j7_read hx hb hown hK (C := RX13) (T := TX13) (N := 50) rfl hly_15_1 hlk_16 (hh.at 5 rfl) dX13_meantTerm_10 ?_
    refine lv_iload_n hx hb dX13_meantTerm_13 rfl (lv_at hl 1 rfl) ?_
    refine j7_ialdM hx hb hK hh hB151 1 rfl (by decide) hg_zn (x := a1.toInt) (rfl) (by omega) (j := 1) rfl dX13_meantTerm_14 (fun z_2 ez_2 (hz_2 : True) => ?_)
    have hqz_2 : z_2.toInt = jSo C.n (a1.toInt) := by unfold jSo; rw [ez_2]
    refine lv_istore_n (lv' := [(2, .int z_2), (0, .ref r0), (1, .int a1)]) hx hb dX13_meantTerm_15 rfl hl (by decide) rfl (fun ls hl => ?_)
    refine lv_aload_n hx hb dX13_meantTerm_16 rfl (lv_at hl 1 rfl) ?_
    refine j7_read hx hb hown hK (C := RX13) (T := TX13) (N := 50) rfl hly_15_36 hlk_242 (hh.at 3 rfl) dX13_meantTerm_17 ?_
    refine lv_iconst (v := 1) hx hb dX13_meantTerm_20 (by decide) ?_
    refine lv_isub hx hb dX13_meantTerm_21 ?_
    refine lv_topi (fun z_3 ez_3 => ?_)
    have hz_3 : z_3.toInt = pb.toInt - 1 := by rw [ez_3]; exact jb_isub2 (rfl) ((by decide)) (by omega)
    refine lv_istore_n (lv' := [(3, .int z_3), (2, .int z_2), (0, .ref r0), (1, .int a1)]) hx hb dX13_meantTerm_22 rfl hl (by decide) rfl (fun ls hl => ?_)
    have L23 : ∀ (N : Nat) (v3_4 : Int32) (H_4 : Heap) (locs_4 : List Loc), jSt (dC, dI) B base G0 G0 EX13_meantTerm s.heap 0 0 [(r0, 15, 5, .int pn), (r0, 15, 34, .int pu), (r0, 15, 11, .int py), (r0, 15, 36, .int pb), (r0, 15, 0, .ref zs), (r0, 15, 1, .ref zn), (r0, 15, 2, .ref za), (r0, 15, 3, .ref zb), (r0, 15, 4, .ref zc), (r0, 15, 14, .ref zy)] [(zs, 150, 120000, ca 1, C.s), (zn, 151, 120000, ca 1, C.n), (za, 152, 120000, ca 1, C.a), (zb, 153, 120000, ca 1, C.b), (zc, 154, 120000, ca 1, C.c), (zy, 165, 16, ca 1, C.y)] [] H_4 locs_4 → (-1 ≤ v3_4.toInt ∧ v3_4.toInt ≤ pb.toInt - 1) → (v3_4.toInt + 1 : Int) < N → ∀ ls : Array Slot, lv_has ls 4 [(0, .ref r0), (1, .int a1), (2, .int z_2), (3, .int v3_4)] → W p l e R s m ([.ref r0, .int a1] : List Value).toArray below meth c H_4 locs_4 0 0 Q (F0 m 23 ls []) := by
      intro N
      induction N with
      | zero => intro v3_4 H_4 locs_4 hh_4  hi_4 hm; exact absurd hm (by omega)
      | succ N L23 =>
        intro v3_4 H_4 locs_4 hh_4  hi_4 hm_4 ls hl
        obtain ⟨hi_4_0, hi_4_1⟩ := hi_4
        refine lv_iload_n hx hb dX13_meantTerm_23 rfl (lv_at hl 3 rfl) ?_
        refine lv_if_lt (tgt := 78) hx hb dX13_meantTerm_24 (by decide) (fun c_5 => ?_) (fun c_5 => ?_)
        · skip
          have c_5' : v3_4.toInt < 0 := jb_lt (rfl) ((by decide)) c_5
          refine lv_aload_n hx hb dX13_meantTerm_78 rfl (lv_at hl 0 rfl) ?_
          refine lv_iload_n hx hb dX13_meantTerm_79 rfl (lv_at hl 2 rfl) ?_
          refine va_calli (A0 := jA base) (H0 := s.heap) (va_runV (As := [.int z_2]) (rest := []) ⟨hx, hb, hml, hown, hts⟩ (uX13_isVariable l dC dI ca base B hB hAp hB15 hB158 hB163 G0 H_4 r0 z_2) (cwV 1 hts (jgV (jWr_64 _ (List.mem_of_getElem? (i := 11) rfl)) (jWr_64 _ (List.mem_of_getElem? (i := 12) rfl)) (jWr_64 _ (List.mem_of_getElem? (i := 13) rfl)) (jWr_12 _ (List.mem_of_getElem? (i := 12) rfl)) (jWr_64 _ (List.mem_of_getElem? (i := 14) rfl))) rfl rfl rfl (by decide +kernel) ⟨by rw [← hR]; show (0) + 1 ≤ 2 * d + 4; omega, by rw [← hR]; show 8 + (3 + 11) + (0) ≤ 60 * d + 200; omega⟩) ⟨fun a U g mk q => by obtain ⟨q0, q1, q2, qK, q10, q11, q12⟩ := q; exact ⟨q0, q1, q2, jG.calling g mk a qK, q10, q11, q12⟩, hh_4.recv (C := RX13) (T := TX13) (N := 50) hB15 rfl (by decide) hg_r0 hK, fun U hU hW => ⟨rfl, hU, hh_4.2.1, hG.step hW hU hh_4.1, hg_r0, jP.nil, trivial⟩⟩ rfl rfl hl.1 rfl (lv_room (Nat.le_of_ble_eq_true rfl)) dX13_meantTerm_80 ⟨Nat.zero_le _, Nat.zero_le _⟩) hh_4.1 (fun q _ h => h) (fun q h => h) (fun r_7 u_6 t_6 H_6 locs_6 ht_6 hvm_6 hr_7 hb_6 hz_6 hk_6 hS_6 => ?_)
          rw [ht_6] at hb_6
          obtain ⟨hb_61, hb_62, hb_63, hb_64, hb_65⟩ := hb_6
          have hh_6 : jSt (dC, dI) B base G0 G0 EX13_meantTerm s.heap 0 0 [(r0, 15, 5, .int pn), (r0, 15, 34, .int pu), (r0, 15, 11, .int py), (r0, 15, 36, .int pb), (r0, 15, 0, .ref zs), (r0, 15, 1, .ref zn), (r0, 15, 2, .ref za), (r0, 15, 3, .ref zb), (r0, 15, 4, .ref zc), (r0, 15, 14, .ref zy)] [(zs, 150, 120000, ca 1, C.s), (zn, 151, 120000, ca 1, C.n), (za, 152, 120000, ca 1, C.a), (zb, 153, 120000, ca 1, C.b), (zc, 154, 120000, ca 1, C.c), (zy, 165, 16, ca 1, C.y)] [] H_6 locs_6 := ((hh_4.call hb_61 hb_62 hb_63 hb_64 hS_6 rfl (L1 := [(r0, 15, 5, .int pn), (r0, 15, 34, .int pu), (r0, 15, 11, .int py), (r0, 15, 36, .int pb), (r0, 15, 0, .ref zs), (r0, 15, 1, .ref zn), (r0, 15, 2, .ref za), (r0, 15, 3, .ref zb), (r0, 15, 4, .ref zc), (r0, 15, 14, .ref zy)]) [0, 1, 2, 3, 4, 5, 6, 7, 8, 9] rfl rfl (M1 := [(zs, 150, 120000, ca 1, C.s), (zn, 151, 120000, ca 1, C.n), (za, 152, 120000, ca 1, C.a), (zb, 153, 120000, ca 1, C.b), (zc, 154, 120000, ca 1, C.c), (zy, 165, 16, ca 1, C.y)]) [0, 1, 2, 3, 4, 5] rfl rfl (I1 := []) [] rfl rfl).more hb_65)
          clear hh_4 ht_6 hvm_6 hz_6 hk_6 hS_6 hb_61 hb_62 hb_63 hb_64 hb_65
          obtain ⟨hr_7b, hr_7p⟩ := hr_7
          have hr_7' := jb_01 hr_7b
          refine lv_if_eq (tgt := 111) hx hb dX13_meantTerm_83 (by decide) (fun c_8 => ?_) (fun c_8 => ?_)
          · skip
            have c_8' : r_7.toInt = 0 := jb_eq (rfl) ((by decide)) c_8
            refine lv_aload_n hx hb dX13_meantTerm_111 rfl (lv_at hl 0 rfl) ?_
            refine lv_iload_n hx hb dX13_meantTerm_112 rfl (lv_at hl 2 rfl) ?_
            refine va_calli (A0 := jA base) (H0 := s.heap) (va_runV (As := [.int z_2]) (rest := []) ⟨hx, hb, hml, hown, hts⟩ (uX13_symbolOfK l dC dI ca base B hB hAp hB15 hB163 G0 H_6 r0 z_2 py) (cwV 1 hts (jgV (jWr_64 _ (List.mem_of_getElem? (i := 3) rfl)) (jWr_64 _ (List.mem_of_getElem? (i := 4) rfl)) (jWr_64 _ (List.mem_of_getElem? (i := 5) rfl)) (jWr_12 _ (List.mem_of_getElem? (i := 12) rfl)) (jWr_64 _ (List.mem_of_getElem? (i := 6) rfl))) rfl rfl rfl (by decide +kernel) ⟨by rw [← hR]; show (0) + 1 ≤ 2 * d + 4; omega, by rw [← hR]; show 8 + (3 + 11) + (0) ≤ 60 * d + 200; omega⟩) ⟨fun a U g mk q => by obtain ⟨q0, q1, q2, qK, q10, q11, q12⟩ := q; exact ⟨q0, q1, q2, jG.calling g mk a qK, q10, q11, q12⟩, hh_6.recv (C := RX13) (T := TX13) (N := 50) hB15 rfl (by decide) hg_r0 hK, fun U hU hW => ⟨rfl, hU, hh_6.2.1, hG.step hW hU hh_6.1, hg_r0, (hh_6.2.2.1.sub (L1 := [(r0, 15, 11, .int py)]) [2] rfl), by first | omega | (refine ⟨?_, ?_⟩ <;> (first | omega | rfl | assumption | decide | exact Or.inl rfl | exact Or.inr rfl | (simp only; omega)))⟩⟩ rfl rfl hl.1 rfl (lv_room (Nat.le_of_ble_eq_true rfl)) dX13_meantTerm_113 ⟨Nat.zero_le _, Nat.zero_le _⟩) hh_6.1 (fun q _ h => h) (fun q h => h) (fun r_10 u_9 t_9 H_9 locs_9 ht_9 hvm_9 hr_10 hb_9 hz_9 hk_9 hS_9 => ?_)
            rw [ht_9] at hb_9
            obtain ⟨hb_91, hb_92, hb_93, hb_94, hb_95⟩ := hb_9
            have hh_9 : jSt (dC, dI) B base G0 G0 EX13_meantTerm s.heap 0 0 [(r0, 15, 5, .int pn), (r0, 15, 34, .int pu), (r0, 15, 11, .int py), (r0, 15, 36, .int pb), (r0, 15, 0, .ref zs), (r0, 15, 1, .ref zn), (r0, 15, 2, .ref za), (r0, 15, 3, .ref zb), (r0, 15, 4, .ref zc), (r0, 15, 14, .ref zy)] [(zs, 150, 120000, ca 1, C.s), (zn, 151, 120000, ca 1, C.n), (za, 152, 120000, ca 1, C.a), (zb, 153, 120000, ca 1, C.b), (zc, 154, 120000, ca 1, C.c), (zy, 165, 16, ca 1, C.y)] [] H_9 locs_9 := ((hh_6.call hb_91 hb_92 hb_93 hb_94 hS_9 rfl (L1 := [(r0, 15, 5, .int pn), (r0, 15, 34, .int pu), (r0, 15, 11, .int py), (r0, 15, 36, .int pb), (r0, 15, 0, .ref zs), (r0, 15, 1, .ref zn), (r0, 15, 2, .ref za), (r0, 15, 3, .ref zb), (r0, 15, 4, .ref zc), (r0, 15, 14, .ref zy)]) [0, 1, 2, 3, 4, 5, 6, 7, 8, 9] rfl rfl (M1 := [(zs, 150, 120000, ca 1, C.s), (zn, 151, 120000, ca 1, C.n), (za, 152, 120000, ca 1, C.a), (zb, 153, 120000, ca 1, C.b), (zc, 154, 120000, ca 1, C.c), (zy, 165, 16, ca 1, C.y)]) [0, 1, 2, 3, 4, 5] rfl rfl (I1 := []) [] rfl rfl).more hb_95)
            clear hh_6 ht_9 hvm_9 hz_9 hk_9 hS_9 hb_91 hb_92 hb_93 hb_94 hb_95
            obtain ⟨hr_10_0, hr_10_1⟩ := hr_10
            refine lv_istore_n (lv' := [(3, .int r_10), (0, .ref r0), (1, .int a1), (2, .int z_2)]) hx hb dX13_meantTerm_116 rfl hl (by decide) rfl (fun ls hl => ?_)
            refine lv_iload_n hx hb dX13_meantTerm_117 rfl (lv_at hl 0 rfl) ?_
            refine lv_if_lt (tgt := 145) hx hb dX13_meantTerm_118 (by decide) (fun c_11 => ?_) (fun c_11 => ?_)
            · skip
              have c_11' : r_10.toInt < 0 := jb_lt (rfl) ((by decide)) c_11
              refine lv_aload_n hx hb dX13_meantTerm_145 rfl (lv_at hl 1 rfl) ?_
              refine lv_iconst (v := 5) hx hb dX13_meantTerm_146 (by decide) ?_
              refine va_callv (A0 := jA base) (H0 := s.heap) (va_runV (As := [.int 5]) (rest := []) ⟨hx, hb, hml, hown, hts⟩ (uX13_failsK l dC dI ca base B hB hAp hB15 G0 H_9 r0 5 pu) (cwV 1 hts (jgV (jWr_64 _ (List.mem_of_getElem? (i := 19) rfl)) (jWr_64 _ (List.mem_of_getElem? (i := 20) rfl)) (jWr_64 _ (List.mem_of_getElem? (i := 21) rfl)) (jWr_12 _ (List.mem_of_getElem? (i := 12) rfl)) (jWr_64 _ (List.mem_of_getElem? (i := 22) rfl))) rfl rfl rfl (by decide +kernel) ⟨by rw [← hR]; show (0) + 1 ≤ 2 * d + 4; omega, by rw [← hR]; show 8 + (2 + 11) + (0) ≤ 60 * d + 200; omega⟩) ⟨fun a U g mk q => by obtain ⟨q0, q1, q2, qK, q10, q11, q12⟩ := q; exact ⟨q0, q1, q2, jG.calling g mk a qK, q10, q11, q12⟩, hh_9.recv (C := RX13) (T := TX13) (N := 50) hB15 rfl (by decide) hg_r0 hK, fun U hU hW => ⟨rfl, hU, hh_9.2.1, hG.step hW hU hh_9.1, hg_r0, (hh_9.2.2.1.sub (L1 := [(r0, 15, 34, .int pu)]) [1] rfl), by first | omega | (refine ⟨?_, ?_, ?_, ?_⟩ <;> (first | omega | rfl | assumption | decide | exact Or.inl rfl | exact Or.inr rfl | (simp only; omega)))⟩⟩ rfl rfl hl.1 rfl (lv_room (Nat.le_of_ble_eq_true rfl)) dX13_meantTerm_147 ⟨Nat.zero_le _, Nat.zero_le _⟩) hh_9.1 (fun q _ h => h) (fun q h => h) (fun u_12 t_12 H_12 locs_12 ht_12 hvm_12 hr_13 hb_12 hz_12 hk_12 hS_12 => ?_)
              obtain ⟨qu_12, rfl⟩ : ∃ z, z = u_12 := ⟨_, rfl⟩
              rw [ht_12] at hb_12
              obtain ⟨hb_121, hb_122, hb_123, hb_124, hb_125⟩ := hb_12
              have hh_12 : jSt (dC, dI) B base G0 G0 EX13_meantTerm s.heap 0 0 [(r0, 15, 34, .int qu_12), (r0, 15, 5, .int pn), (r0, 15, 11, .int py), (r0, 15, 36, .int pb), (r0, 15, 0, .ref zs), (r0, 15, 1, .ref zn), (r0, 15, 2, .ref za), (r0, 15, 3, .ref zb), (r0, 15, 4, .ref zc), (r0, 15, 14, .ref zy)] [(zs, 150, 120000, ca 1, C.s), (zn, 151, 120000, ca 1, C.n), (za, 152, 120000, ca 1, C.a), (zb, 153, 120000, ca 1, C.b), (zc, 154, 120000, ca 1, C.c), (zy, 165, 16, ca 1, C.y)] [] H_12 locs_12 := ((hh_9.call hb_121 hb_122 hb_123 hb_124 hS_12 rfl (L1 := [(r0, 15, 5, .int pn), (r0, 15, 11, .int py), (r0, 15, 36, .int pb), (r0, 15, 0, .ref zs), (r0, 15, 1, .ref zn), (r0, 15, 2, .ref za), (r0, 15, 3, .ref zb), (r0, 15, 4, .ref zc), (r0, 15, 14, .ref zy)]) [0, 2, 3, 4, 5, 6, 7, 8, 9] rfl rfl (M1 := [(zs, 150, 120000, ca 1, C.s), (zn, 151, 120000, ca 1, C.n), (za, 152, 120000, ca 1, C.a), (zb, 153, 120000, ca 1, C.b), (zc, 154, 120000, ca 1, C.c), (zy, 165, 16, ca 1, C.y)]) [0, 1, 2, 3, 4, 5] rfl rfl (I1 := []) [] rfl rfl).more hb_125)
              clear hh_9 ht_12 hvm_12 hz_12 hk_12 hS_12 hb_121 hb_122 hb_123 hb_124 hb_125
              obtain ⟨hr_13_0, hr_13_1, hr_13_2, hr_13_3⟩ := hr_13
              refine lv_iconst (v := 0) hx hb dX13_meantTerm_150 (by decide) ?_
              rw [hQ]
              exact W.iret (v := 0) hx hb hr (fun t ht hW => ⟨⟨0, (pn, qu_12, C), rfl, by (try dsimp only); refine ⟨by omega, by omega, by omega, by omega, jAgK.rf _ _, fun h9 => absurd h9 (by omega)⟩, ⟨hh_12.rt (M1 := [(r0, 15, 5, .int pn), (r0, 15, 34, .int qu_12)]) [1, 0] rfl ht, by rw [ht]; exact hh_12.2.2.2.2.2.2.2.1.sub [0, 1, 2, 3, 4, 5] rfl⟩⟩, by rw [ht]; try exact hh_12.1.1, fun q h9 hq => by rw [ht]; try exact hh_12.1.2.1 q h9 hq⟩) hh_12.1.2.2 dX13_meantTerm_151
            · skip
              have c_11' : r_10.toInt ≥ 0 := jb_lt_n (rfl) ((by decide)) c_11
              refine lv_aload_n hx hb dX13_meantTerm_121 rfl (lv_at hl 1 rfl) ?_
              obtain ⟨v_14, hv_14, hh_15⟩ := hh_9.pin (C := RX13) (T := TX13) (N := 50) hB15 rfl (by decide) hg_r0 (i := 13) (by decide) rfl
              clear hh_9
              obtain ⟨predicate_16, rfl, hg_predicate_16⟩ := hv_14
              refine j7_read hx hb hown hK (C := RX13) (T := TX13) (N := 50) rfl hly_15_13 hlk_40 (hh_15.at 0 rfl) dX13_meantTerm_122 ?_
              refine lv_iload_n hx hb dX13_meantTerm_125 rfl (lv_at hl 0 rfl) ?_
              refine j7_zald hx hb hK hh_15 hB103 3 rfl (by decide) hg_predicate_16 (x := r_10.toInt) (rfl) (by omega) dX13_meantTerm_126 (fun z_17 (hz_17 : (z_17 = 0 ∨ z_17 = 1)) => ?_)
              have hz_17' := jb_01 hz_17
              refine lv_if_ne (tgt := 145) hx hb dX13_meantTerm_127 (by decide) (fun c_18 => ?_) (fun c_18 => ?_)
              · skip
                have c_18' : z_17.toInt ≠ 0 := jb_ne (rfl) ((by decide)) c_18
                refine lv_aload_n hx hb dX13_meantTerm_145 rfl (lv_at hl 1 rfl) ?_
                refine lv_iconst (v := 5) hx hb dX13_meantTerm_146 (by decide) ?_
                refine va_callv (A0 := jA base) (H0 := s.heap) (va_runV (As := [.int 5]) (rest := []) ⟨hx, hb, hml, hown, hts⟩ (uX13_failsK l dC dI ca base B hB hAp hB15 G0 H_9 r0 5 pu) (cwV 1 hts (jgV (jWr_64 _ (List.mem_of_getElem? (i := 19) rfl)) (jWr_64 _ (List.mem_of_getElem? (i := 20) rfl)) (jWr_64 _ (List.mem_of_getElem? (i := 21) rfl)) (jWr_12 _ (List.mem_of_getElem? (i := 12) rfl)) (jWr_64 _ (List.mem_of_getElem? (i := 22) rfl))) rfl rfl rfl (by decide +kernel) ⟨by rw [← hR]; show (0) + 1 ≤ 2 * d + 4; omega, by rw [← hR]; show 8 + (2 + 11) + (0) ≤ 60 * d + 200; omega⟩) ⟨fun a U g mk q => by obtain ⟨q0, q1, q2, qK, q10, q11, q12⟩ := q; exact ⟨q0, q1, q2, jG.calling g mk a qK, q10, q11, q12⟩, hh_15.recv (C := RX13) (T := TX13) (N := 50) hB15 rfl (by decide) hg_r0 hK, fun U hU hW => ⟨rfl, hU, hh_15.2.1, hG.step hW hU hh_15.1, hg_r0, (hh_15.2.2.1.sub (L1 := [(r0, 15, 34, .int pu)]) [2] rfl), by first | omega | (refine ⟨?_, ?_, ?_, ?_⟩ <;> (first | omega | rfl | assumption | decide | exact Or.inl rfl | exact Or.inr rfl | (simp only; omega)))⟩⟩ rfl rfl hl.1 rfl (lv_room (Nat.le_of_ble_eq_true rfl)) dX13_meantTerm_147 ⟨Nat.zero_le _, Nat.zero_le _⟩) hh_15.1 (fun q _ h => h) (fun q h => h) (fun u_19 t_19 H_19 locs_19 ht_19 hvm_19 hr_20 hb_19 hz_19 hk_19 hS_19 => ?_)
                obtain ⟨qu_19, rfl⟩ : ∃ z, z = u_19 := ⟨_, rfl⟩
                rw [ht_19] at hb_19
                obtain ⟨hb_191, hb_192, hb_193, hb_194, hb_195⟩ := hb_19
                have hh_19 : jSt (dC, dI) B base G0 G0 EX13_meantTerm s.heap 0 0 [(r0, 15, 34, .int qu_19), (r0, 15, 13, .ref predicate_16), (r0, 15, 5, .int pn), (r0, 15, 11, .int py), (r0, 15, 36, .int pb), (r0, 15, 0, .ref zs), (r0, 15, 1, .ref zn), (r0, 15, 2, .ref za), (r0, 15, 3, .ref zb), (r0, 15, 4, .ref zc), (r0, 15, 14, .ref zy)] [(zs, 150, 120000, ca 1, C.s), (zn, 151, 120000, ca 1, C.n), (za, 152, 120000, ca 1, C.a), (zb, 153, 120000, ca 1, C.b), (zc, 154, 120000, ca 1, C.c), (zy, 165, 16, ca 1, C.y)] [] H_19 locs_19 := ((hh_15.call hb_191 hb_192 hb_193 hb_194 hS_19 rfl (L1 := [(r0, 15, 13, .ref predicate_16), (r0, 15, 5, .int pn), (r0, 15, 11, .int py), (r0, 15, 36, .int pb), (r0, 15, 0, .ref zs), (r0, 15, 1, .ref zn), (r0, 15, 2, .ref za), (r0, 15, 3, .ref zb), (r0, 15, 4, .ref zc), (r0, 15, 14, .ref zy)]) [0, 1, 3, 4, 5, 6, 7, 8, 9, 10] rfl rfl (M1 := [(zs, 150, 120000, ca 1, C.s), (zn, 151, 120000, ca 1, C.n), (za, 152, 120000, ca 1, C.a), (zb, 153, 120000, ca 1, C.b), (zc, 154, 120000, ca 1, C.c), (zy, 165, 16, ca 1, C.y)]) [0, 1, 2, 3, 4, 5] rfl rfl (I1 := []) [] rfl rfl).more hb_195)
                clear hh_15 ht_19 hvm_19 hz_19 hk_19 hS_19 hb_191 hb_192 hb_193 hb_194 hb_195
                obtain ⟨hr_20_0, hr_20_1, hr_20_2, hr_20_3⟩ := hr_20
                refine lv_iconst (v := 0) hx hb dX13_meantTerm_150 (by decide) ?_
                rw [hQ]
                exact W.iret (v := 0) hx hb hr (fun t ht hW => ⟨⟨0, (pn, qu_19, C), rfl, by (try dsimp only); refine ⟨by omega, by omega, by omega, by omega, jAgK.rf _ _, fun h9 => absurd h9 (by omega)⟩, ⟨hh_19.rt (M1 := [(r0, 15, 5, .int pn), (r0, 15, 34, .int qu_19)]) [2, 0] rfl ht, by rw [ht]; exact hh_19.2.2.2.2.2.2.2.1.sub [0, 1, 2, 3, 4, 5] rfl⟩⟩, by rw [ht]; try exact hh_19.1.1, fun q h9 hq => by rw [ht]; try exact hh_19.1.2.1 q h9 hq⟩) hh_19.1.2.2 dX13_meantTerm_151
              · skip
                have c_18' : z_17.toInt = 0 := jb_ne_n (rfl) ((by decide)) c_18
                refine lv_aload_n hx hb dX13_meantTerm_130 rfl (lv_at hl 1 rfl) ?_
                refine j7_read hx hb hown hK (C := RX13) (T := TX13) (N := 50) rfl hly_15_14 hlk_44 (hh_15.at 10 rfl) dX13_meantTerm_131 ?_
                refine lv_iload_n hx hb dX13_meantTerm_134 rfl (lv_at hl 0 rfl) ?_
                refine j7_ialdM hx hb hK hh_15 hB165 1 rfl (by decide) hg_zy (x := r_10.toInt) (rfl) (by omega) (j := 5) rfl dX13_meantTerm_135 (fun z_21 ez_21 (hz_21 : 0 ≤ z_21.toInt ∧ z_21.toInt ≤ 3) => ?_)
                have hqz_21 : z_21.toInt = jSo C.y (r_10.toInt) := by unfold jSo; rw [ez_21]
                refine lv_aload_n hx hb dX13_meantTerm_136 rfl (lv_at hl 1 rfl) ?_
                refine j7_read hx hb hown hK (C := RX13) (T := TX13) (N := 50) rfl hly_15_4 hlk_25 (hh_15.at 9 rfl) dX13_meantTerm_137 ?_
                refine lv_iload_n hx hb dX13_meantTerm_140 rfl (lv_at hl 2 rfl) ?_
                refine j7_ialdM hx hb hK hh_15 hB154 1 rfl (by decide) hg_zc (x := a1.toInt) (rfl) (by omega) (j := 4) rfl dX13_meantTerm_141 (fun z_22 ez_22 (hz_22 : True) => ?_)
                have hqz_22 : z_22.toInt = jSo C.c (a1.toInt) := by unfold jSo; rw [ez_22]
                refine lv_icmp_eq (tgt := 152) hx hb dX13_meantTerm_142 (by decide) (fun c_23 => ?_) (fun c_23 => ?_)
                · skip
                  have c_23' : z_21.toInt = z_22.toInt := jb_eq (rfl) (rfl) c_23
                  refine lv_aload_n hx hb dX13_meantTerm_152 rfl (lv_at hl 1 rfl) ?_
                  refine lv_bipush (v := 8) hx hb dX13_meantTerm_153 (by decide) ?_
                  refine lv_iload_n hx hb dX13_meantTerm_155 rfl (lv_at hl 0 rfl) ?_
                  refine lv_iload_n hx hb dX13_meantTerm_156 rfl (lv_at hl 2 rfl) ?_
                  refine va_calli (A0 := jA base) (H0 := s.heap) (va_runV (As := [.int 8, .int r_10, .int a1]) (rest := []) ⟨hx, hb, hml, hown, hts⟩ (hW G0 H_9 r0 8 r_10 a1 pn pu py pb zs zn za zb zc zy hi C) (cwV 3 hts (jgV (jWr_65 _ (List.mem_of_getElem? (i := 3) rfl)) (jWr_65 _ (List.mem_of_getElem? (i := 4) rfl)) (jWr_65 _ (List.mem_of_getElem? (i := 5) rfl)) (jWr_12 _ (List.mem_of_getElem? (i := 12) rfl)) (jWr_65 _ (List.mem_of_getElem? (i := 6) rfl))) rfl rfl rfl (by decide +kernel) ⟨by rw [← hR]; show (2 * d + 3) + 1 ≤ 2 * d + 4; omega, by rw [← hR]; show 8 + (8 + 11) + (60 * d + 165) ≤ 60 * d + 200; omega⟩) ⟨fun a U g mk q => by obtain ⟨q0, q1, q2, qK, q10, q11, q12, q13, q14, q15, q16, q17, q18, q19⟩ := q; exact ⟨q0, q1, q2, jG.calling g mk a qK, q10, q11, q12, q13, q14, q15, q16, q17, q18, q19⟩, hh_15.recv (C := RX13) (T := TX13) (N := 50) hB15 rfl (by decide) hg_r0 hK, fun U hU hW => ⟨rfl, hU, hh_15.2.1, hG.step hW hU hh_15.1, hg_r0, hg_zs, hg_zn, hg_za, hg_zb, hg_zc, hg_zy, (hh_15.2.2.1.sub (L1 := [(r0, 15, 5, .int pn), (r0, 15, 34, .int pu), (r0, 15, 11, .int py), (r0, 15, 36, .int pb), (r0, 15, 0, .ref zs), (r0, 15, 1, .ref zn), (r0, 15, 2, .ref za), (r0, 15, 3, .ref zb), (r0, 15, 4, .ref zc), (r0, 15, 14, .ref zy)]) [1, 2, 3, 4, 5, 6, 7, 8, 9, 10] rfl), (hh_15.2.2.2.2.2.2.2.1.sub (L1 := [(zs, 150, 120000, ca 1, C.s), (zn, 151, 120000, ca 1, C.n), (za, 152, 120000, ca 1, C.a), (zb, 153, 120000, ca 1, C.b), (zc, 154, 120000, ca 1, C.c), (zy, 165, 16, ca 1, C.y)]) [0, 1, 2, 3, 4, 5] rfl), ⟨(by first | assumption | exact (by rw [← hqz_21, ← hqz_22]; omega) | omega | omega), (by first | omega | rfl | assumption | exact (by rw [← hqz_21, ← hqz_22]; omega) | omega), (by first | omega | rfl | assumption | exact (by rw [← hqz_21, ← hqz_22]; omega) | omega), (by first | omega | rfl | assumption | exact (by rw [← hqz_21, ← hqz_22]; omega) | omega), (by first | omega | rfl | assumption | exact (by rw [← hqz_21, ← hqz_22]; omega) | omega), (by first | omega | rfl | assumption | exact (by rw [← hqz_21, ← hqz_22]; omega) | omega), (by first | omega | rfl | assumption | exact (by rw [← hqz_21, ← hqz_22]; omega) | omega), (by first | omega | rfl | assumption | exact (by rw [← hqz_21, ← hqz_22]; omega) | omega), (by first | omega | rfl | assumption | exact (by rw [← hqz_21, ← hqz_22]; omega) | omega), (by first | omega | rfl | assumption | exact (by rw [← hqz_21, ← hqz_22]; omega) | omega), (by first | omega | rfl | assumption | exact (by rw [← hqz_21, ← hqz_22]; omega) | omega), (by first | omega | rfl | assumption | exact (by rw [← hqz_21, ← hqz_22]; omega) | omega), (by first | omega | rfl | assumption | exact (by rw [← hqz_21, ← hqz_22]; omega) | omega), (by first | omega | rfl | assumption | exact (by rw [← hqz_21, ← hqz_22]; omega) | omega), (by first | omega | rfl | assumption | exact (by rw [← hqz_21, ← hqz_22]; omega) | omega), (by first | omega | rfl | assumption | exact (by rw [← hqz_21, ← hqz_22]; omega) | omega), (by first | omega | rfl | assumption | exact (by rw [← hqz_21, ← hqz_22]; omega) | omega)⟩⟩⟩ rfl rfl hl.1 rfl (lv_room (Nat.le_of_ble_eq_true rfl)) dX13_meantTerm_157 ⟨Nat.zero_le _, Nat.zero_le _⟩) hh_15.1 (fun q _ h => h) (fun q h => h) (fun r_25 u_24 t_24 H_24 locs_24 ht_24 hvm_24 hr_25 hb_24 hz_24 hk_24 hS_24 => ?_)
                  obtain ⟨qn_24, qu_24, D_24⟩ := u_24
                  rw [ht_24] at hb_24
                  obtain ⟨⟨hb_241, hb_242, hb_243, hb_244, hb_245⟩, hb_246⟩ := hb_24
                  have hh_24 : jSt (dC, dI) B base G0 G0 EX13_meantTerm s.heap 0 0 [(r0, 15, 5, .int qn_24), (r0, 15, 34, .int qu_24), (r0, 15, 13, .ref predicate_16), (r0, 15, 11, .int py), (r0, 15, 36, .int pb), (r0, 15, 0, .ref zs), (r0, 15, 1, .ref zn), (r0, 15, 2, .ref za), (r0, 15, 3, .ref zb), (r0, 15, 4, .ref zc), (r0, 15, 14, .ref zy)] [(zs, 150, 120000, ca 1, D_24.s), (zn, 151, 120000, ca 1, D_24.n), (za, 152, 120000, ca 1, D_24.a), (zb, 153, 120000, ca 1, D_24.b), (zc, 154, 120000, ca 1, D_24.c), (zy, 165, 16, ca 1, D_24.y), (zy, 165, 16, ca 1, C.y)] [] H_24 locs_24 := ((hh_15.call hb_241 hb_242 hb_243 hb_244 hS_24 rfl (L1 := [(r0, 15, 13, .ref predicate_16), (r0, 15, 11, .int py), (r0, 15, 36, .int pb), (r0, 15, 0, .ref zs), (r0, 15, 1, .ref zn), (r0, 15, 2, .ref za), (r0, 15, 3, .ref zb), (r0, 15, 4, .ref zc), (r0, 15, 14, .ref zy)]) [0, 3, 4, 5, 6, 7, 8, 9, 10] rfl rfl (M1 := [(zy, 165, 16, ca 1, C.y)]) [5] rfl rfl (I1 := []) [] rfl rfl).more hb_245).moreM hb_246
                  clear hh_15 ht_24 hvm_24 hz_24 hk_24 hS_24 hb_241 hb_242 hb_243 hb_244 hb_245
                  clear hb_246
                  try simp only at hr_25
                  obtain ⟨hr_25_0, hr_25_1, hr_25_2, hr_25_3, hr_25_4, hr_25_5⟩ := hr_25
                  rw [hQ]
                  exact W.iret (v := r_25) hx hb hr (fun t ht hW => ⟨⟨r_25, (qn_24, qu_24, D_24), rfl, by (try dsimp only); refine ⟨by omega, by omega, by omega, by omega, hr_25_4, hr_25_5⟩, ⟨hh_24.rt (M1 := [(r0, 15, 5, .int qn_24), (r0, 15, 34, .int qu_24)]) [0, 1] rfl ht, by rw [ht]; exact hh_24.2.2.2.2.2.2.2.1.sub [0, 1, 2, 3, 4, 5] rfl⟩⟩, by rw [ht]; try exact hh_24.1.1, fun q h9 hq => by rw [ht]; try exact hh_24.1.2.1 q h9 hq⟩) hh_24.1.2.2 dX13_meantTerm_160
                · skip
                  have c_23' : z_21.toInt ≠ z_22.toInt := jb_eq_n (rfl) (rfl) c_23
                  refine lv_aload_n hx hb dX13_meantTerm_145 rfl (lv_at hl 1 rfl) ?_
                  refine lv_iconst (v := 5) hx hb dX13_meantTerm_146 (by decide) ?_
                  refine va_callv (A0 := jA base) (H0 := s.heap) (va_runV (As := [.int 5]) (rest := []) ⟨hx, hb, hml, hown, hts⟩ (uX13_failsK l dC dI ca base B hB hAp hB15 G0 H_9 r0 5 pu) (cwV 1 hts (jgV (jWr_64 _ (List.mem_of_getElem? (i := 19) rfl)) (jWr_64 _ (List.mem_of_getElem? (i := 20) rfl)) (jWr_64 _ (List.mem_of_getElem? (i := 21) rfl)) (jWr_12 _ (List.mem_of_getElem? (i := 12) rfl)) (jWr_64 _ (List.mem_of_getElem? (i := 22) rfl))) rfl rfl rfl (by decide +kernel) ⟨by rw [← hR]; show (0) + 1 ≤ 2 * d + 4; omega, by rw [← hR]; show 8 + (2 + 11) + (0) ≤ 60 * d + 200; omega⟩) ⟨fun a U g mk q => by obtain ⟨q0, q1, q2, qK, q10, q11, q12⟩ := q; exact ⟨q0, q1, q2, jG.calling g mk a qK, q10, q11, q12⟩, hh_15.recv (C := RX13) (T := TX13) (N := 50) hB15 rfl (by decide) hg_r0 hK, fun U hU hW => ⟨rfl, hU, hh_15.2.1, hG.step hW hU hh_15.1, hg_r0, (hh_15.2.2.1.sub (L1 := [(r0, 15, 34, .int pu)]) [2] rfl), by first | omega | (refine ⟨?_, ?_, ?_, ?_⟩ <;> (first | omega | rfl | assumption | decide | exact Or.inl rfl | exact Or.inr rfl | (simp only; omega)))⟩⟩ rfl rfl hl.1 rfl (lv_room (Nat.le_of_ble_eq_true rfl)) dX13_meantTerm_147 ⟨Nat.zero_le _, Nat.zero_le _⟩) hh_15.1 (fun q _ h => h) (fun q h => h) (fun u_26 t_26 H_26 locs_26 ht_26 hvm_26 hr_27 hb_26 hz_26 hk_26 hS_26 => ?_)
                  obtain ⟨qu_26, rfl⟩ : ∃ z, z = u_26 := ⟨_, rfl⟩
                  rw [ht_26] at hb_26
                  obtain ⟨hb_261, hb_262, hb_263, hb_264, hb_265⟩ := hb_26
                  have hh_26 : jSt (dC, dI) B base G0 G0 EX13_meantTerm s.heap 0 0 [(r0, 15, 34, .int qu_26), (r0, 15, 13, .ref predicate_16), (r0, 15, 5, .int pn), (r0, 15, 11, .int py), (r0, 15, 36, .int pb), (r0, 15, 0, .ref zs), (r0, 15, 1, .ref zn), (r0, 15, 2, .ref za), (r0, 15, 3, .ref zb), (r0, 15, 4, .ref zc), (r0, 15, 14, .ref zy)] [(zs, 150, 120000, ca 1, C.s), (zn, 151, 120000, ca 1, C.n), (za, 152, 120000, ca 1, C.a), (zb, 153, 120000, ca 1, C.b), (zc, 154, 120000, ca 1, C.c), (zy, 165, 16, ca 1, C.y)] [] H_26 locs_26 := ((hh_15.call hb_261 hb_262 hb_263 hb_264 hS_26 rfl (L1 := [(r0, 15, 13, .ref predicate_16), (r0, 15, 5, .int pn), (r0, 15, 11, .int py), (r0, 15, 36, .int pb), (r0, 15, 0, .ref zs), (r0, 15, 1, .ref zn), (r0, 15, 2, .ref za), (r0, 15, 3, .ref zb), (r0, 15, 4, .ref zc), (r0, 15, 14, .ref zy)]) [0, 1, 3, 4, 5, 6, 7, 8, 9, 10] rfl rfl (M1 := [(zs, 150, 120000, ca 1, C.s), (zn, 151, 120000, ca 1, C.n), (za, 152, 120000, ca 1, C.a), (zb, 153, 120000, ca 1, C.b), (zc, 154, 120000, ca 1, C.c), (zy, 165, 16, ca 1, C.y)]) [0, 1, 2, 3, 4, 5] rfl rfl (I1 := []) [] rfl rfl).more hb_265)
                  clear hh_15 ht_26 hvm_26 hz_26 hk_26 hS_26 hb_261 hb_262 hb_263 hb_264 hb_265
                  obtain ⟨hr_27_0, hr_27_1, hr_27_2, hr_27_3⟩ := hr_27
                  refine lv_iconst (v := 0) hx hb dX13_meantTerm_150 (by decide) ?_
                  rw [hQ]
                  exact W.iret (v := 0) hx hb hr (fun t ht hW => ⟨⟨0, (pn, qu_26, C), rfl, by (try dsimp only); refine ⟨by omega, by omega, by omega, by omega, jAgK.rf _ _, fun h9 => absurd h9 (by omega)⟩, ⟨hh_26.rt (M1 := [(r0, 15, 5, .int pn), (r0, 15, 34, .int qu_26)]) [2, 0] rfl ht, by rw [ht]; exact hh_26.2.2.2.2.2.2.2.1.sub [0, 1, 2, 3, 4, 5] rfl⟩⟩, by rw [ht]; try exact hh_26.1.1, fun q h9 hq => by rw [ht]; try exact hh_26.1.2.1 q h9 hq⟩) hh_26.1.2.2 dX13_meantTerm_151
          · skip
            have c_8' : r_7.toInt ≠ 0 := jb_eq_n (rfl) ((by decide)) c_8
            refine lv_aload_n hx hb dX13_meantTerm_86 rfl (lv_at hl 0 rfl) ?_
            refine j7_read hx hb hown hK (C := RX13) (T := TX13) (N := 50) rfl hly_15_4 hlk_25 (hh_6.at 8 rfl) dX13_meantTerm_87 ?_
            refine lv_iload_n hx hb dX13_meantTerm_90 rfl (lv_at hl 1 rfl) ?_
            refine j7_ialdM hx hb hK hh_6 hB154 1 rfl (by decide) hg_zc (x := a1.toInt) (rfl) (by omega) (j := 4) rfl dX13_meantTerm_91 (fun z_28 ez_28 (hz_28 : True) => ?_)
            have hqz_28 : z_28.toInt = jSo C.c (a1.toInt) := by unfold jSo; rw [ez_28]
            refine lv_if_le (tgt := 100) hx hb dX13_meantTerm_92 (by decide) (fun c_29 => ?_) (fun c_29 => ?_)
            · skip
              have c_29' : z_28.toInt ≤ 0 := jb_le (rfl) ((by decide)) c_29
              refine lv_aload_n hx hb dX13_meantTerm_100 rfl (lv_at hl 0 rfl) ?_
              refine lv_bipush (v := 9) hx hb dX13_meantTerm_101 (by decide) ?_
              refine lv_iload_n hx hb dX13_meantTerm_103 rfl (lv_at hl 2 rfl) ?_
              refine lv_iconst (v := 0) hx hb dX13_meantTerm_104 (by decide) ?_
              refine lv_iconst (v := 0) hx hb dX13_meantTerm_105 (by decide) ?_
              refine lv_iconst (v := 0) hx hb dX13_meantTerm_106 (by decide) ?_
              refine va_calli (A0 := jA base) (H0 := s.heap) (va_runV (As := [.int 9, .int z_2, .int 0, .int 0, .int 0]) (rest := []) ⟨hx, hb, hml, hown, hts⟩ (uX13_nodeK l dC dI ca base B hB hAp hB15 hB150 hB151 hB152 hB153 hB154 hB165 G0 H_6 r0 9 z_2 0 0 0 pn zs zn za zb zc zy C) (cwV 5 hts (jgV (jWr_62 _ (List.mem_of_getElem? (i := 9) rfl)) (jWr_62 _ (List.mem_of_getElem? (i := 10) rfl)) (jWr_62 _ (List.mem_of_getElem? (i := 11) rfl)) (jWr_12 _ (List.mem_of_getElem? (i := 12) rfl)) (jWr_62 _ (List.mem_of_getElem? (i := 12) rfl))) rfl rfl rfl (by decide +kernel) ⟨by rw [← hR]; show (0) + 1 ≤ 2 * d + 4; omega, by rw [← hR]; show 8 + (6 + 11) + (0) ≤ 60 * d + 200; omega⟩) ⟨fun a U g mk q => by obtain ⟨q0, q1, q2, qK, q10, q11, q12, q13, q14, q15, q16, q17, q18, q19⟩ := q; exact ⟨q0, q1, q2, jG.calling g mk a qK, q10, q11, q12, q13, q14, q15, q16, q17, q18, q19⟩, hh_6.recv (C := RX13) (T := TX13) (N := 50) hB15 rfl (by decide) hg_r0 hK, fun U hU hW => ⟨rfl, hU, hh_6.2.1, hG.step hW hU hh_6.1, hg_r0, hg_zs, hg_zn, hg_za, hg_zb, hg_zc, hg_zy, (hh_6.2.2.1.sub (L1 := [(r0, 15, 5, .int pn), (r0, 15, 0, .ref zs), (r0, 15, 1, .ref zn), (r0, 15, 2, .ref za), (r0, 15, 3, .ref zb), (r0, 15, 4, .ref zc), (r0, 15, 14, .ref zy)]) [0, 4, 5, 6, 7, 8, 9] rfl), (hh_6.2.2.2.2.2.2.2.1.sub (L1 := [(zs, 150, 120000, ca 1, C.s), (zn, 151, 120000, ca 1, C.n), (za, 152, 120000, ca 1, C.a), (zb, 153, 120000, ca 1, C.b), (zc, 154, 120000, ca 1, C.c), (zy, 165, 16, ca 1, C.y)]) [0, 1, 2, 3, 4, 5] rfl), by first | omega | (refine ⟨?_, ?_⟩ <;> (first | omega | rfl | assumption | decide | exact Or.inl rfl | exact Or.inr rfl | (simp only; omega)))⟩⟩ rfl rfl hl.1 rfl (lv_room (Nat.le_of_ble_eq_true rfl)) dX13_meantTerm_107 ⟨Nat.zero_le _, Nat.zero_le _⟩) hh_6.1 (fun q _ h => h) (fun q h => h) (fun r_31 u_30 t_30 H_30 locs_30 ht_30 hvm_30 hr_31 hb_30 hz_30 hk_30 hS_30 => ?_)
              obtain ⟨qn_30, D_30⟩ := u_30
              rw [ht_30] at hb_30
              obtain ⟨⟨hb_301, hb_302, hb_303, hb_304, hb_305⟩, hb_306⟩ := hb_30
              have hh_30 : jSt (dC, dI) B base G0 G0 EX13_meantTerm s.heap 0 0 [(r0, 15, 5, .int qn_30), (r0, 15, 34, .int pu), (r0, 15, 11, .int py), (r0, 15, 36, .int pb), (r0, 15, 0, .ref zs), (r0, 15, 1, .ref zn), (r0, 15, 2, .ref za), (r0, 15, 3, .ref zb), (r0, 15, 4, .ref zc), (r0, 15, 14, .ref zy)] [(zs, 150, 120000, ca 1, D_30.s), (zn, 151, 120000, ca 1, D_30.n), (za, 152, 120000, ca 1, D_30.a), (zb, 153, 120000, ca 1, D_30.b), (zc, 154, 120000, ca 1, D_30.c), (zy, 165, 16, ca 1, D_30.y), (zy, 165, 16, ca 1, C.y)] [] H_30 locs_30 := ((hh_6.call hb_301 hb_302 hb_303 hb_304 hS_30 rfl (L1 := [(r0, 15, 34, .int pu), (r0, 15, 11, .int py), (r0, 15, 36, .int pb), (r0, 15, 0, .ref zs), (r0, 15, 1, .ref zn), (r0, 15, 2, .ref za), (r0, 15, 3, .ref zb), (r0, 15, 4, .ref zc), (r0, 15, 14, .ref zy)]) [1, 2, 3, 4, 5, 6, 7, 8, 9] rfl rfl (M1 := [(zy, 165, 16, ca 1, C.y)]) [5] rfl rfl (I1 := []) [] rfl rfl).more hb_305).moreM hb_306
              clear hh_6 ht_30 hvm_30 hz_30 hk_30 hS_30 hb_301 hb_302 hb_303 hb_304 hb_305
              clear hb_306
              try simp only at hr_31
              obtain ⟨hr_31_0, hr_31_1, hr_31_2⟩ := hr_31
              rw [hQ]
              exact W.iret (v := r_31) hx hb hr (fun t ht hW => ⟨⟨r_31, (qn_30, pu, D_30), rfl, by (try dsimp only); refine ⟨by omega, by omega, by omega, by omega, hr_31_2.1, fun h9 => ?_⟩; have k := jMk0 (e := d) (b := pb.toInt) (Y := py.toInt) hr_31_2 (by omega) (by omega) (by omega); rw [hr_31_0, hr_31_1]; exact ⟨k.1, by omega⟩, ⟨hh_30.rt (M1 := [(r0, 15, 5, .int qn_30), (r0, 15, 34, .int pu)]) [0, 1] rfl ht, by rw [ht]; exact hh_30.2.2.2.2.2.2.2.1.sub [0, 1, 2, 3, 4, 5] rfl⟩⟩, by rw [ht]; try exact hh_30.1.1, fun q h9 hq => by rw [ht]; try exact hh_30.1.2.1 q h9 hq⟩) hh_30.1.2.2 dX13_meantTerm_110
            · skip
              have c_29' : z_28.toInt > 0 := jb_le_n (rfl) ((by decide)) c_29
              refine lv_aload_n hx hb dX13_meantTerm_95 rfl (lv_at hl 0 rfl) ?_
              refine lv_iconst (v := 5) hx hb dX13_meantTerm_96 (by decide) ?_
              refine va_callv (A0 := jA base) (H0 := s.heap) (va_runV (As := [.int 5]) (rest := []) ⟨hx, hb, hml, hown, hts⟩ (uX13_failsK l dC dI ca base B hB hAp hB15 G0 H_6 r0 5 pu) (cwV 1 hts (jgV (jWr_64 _ (List.mem_of_getElem? (i := 19) rfl)) (jWr_64 _ (List.mem_of_getElem? (i := 20) rfl)) (jWr_64 _ (List.mem_of_getElem? (i := 21) rfl)) (jWr_12 _ (List.mem_of_getElem? (i := 12) rfl)) (jWr_64 _ (List.mem_of_getElem? (i := 22) rfl))) rfl rfl rfl (by decide +kernel) ⟨by rw [← hR]; show (0) + 1 ≤ 2 * d + 4; omega, by rw [← hR]; show 8 + (2 + 11) + (0) ≤ 60 * d + 200; omega⟩) ⟨fun a U g mk q => by obtain ⟨q0, q1, q2, qK, q10, q11, q12⟩ := q; exact ⟨q0, q1, q2, jG.calling g mk a qK, q10, q11, q12⟩, hh_6.recv (C := RX13) (T := TX13) (N := 50) hB15 rfl (by decide) hg_r0 hK, fun U hU hW => ⟨rfl, hU, hh_6.2.1, hG.step hW hU hh_6.1, hg_r0, (hh_6.2.2.1.sub (L1 := [(r0, 15, 34, .int pu)]) [1] rfl), by first | omega | (refine ⟨?_, ?_, ?_, ?_⟩ <;> (first | omega | rfl | assumption | decide | exact Or.inl rfl | exact Or.inr rfl | (simp only; omega)))⟩⟩ rfl rfl hl.1 rfl (lv_room (Nat.le_of_ble_eq_true rfl)) dX13_meantTerm_97 ⟨Nat.zero_le _, Nat.zero_le _⟩) hh_6.1 (fun q _ h => h) (fun q h => h) (fun u_32 t_32 H_32 locs_32 ht_32 hvm_32 hr_33 hb_32 hz_32 hk_32 hS_32 => ?_)
              obtain ⟨qu_32, rfl⟩ : ∃ z, z = u_32 := ⟨_, rfl⟩
              rw [ht_32] at hb_32
              obtain ⟨hb_321, hb_322, hb_323, hb_324, hb_325⟩ := hb_32
              have hh_32 : jSt (dC, dI) B base G0 G0 EX13_meantTerm s.heap 0 0 [(r0, 15, 34, .int qu_32), (r0, 15, 5, .int pn), (r0, 15, 11, .int py), (r0, 15, 36, .int pb), (r0, 15, 0, .ref zs), (r0, 15, 1, .ref zn), (r0, 15, 2, .ref za), (r0, 15, 3, .ref zb), (r0, 15, 4, .ref zc), (r0, 15, 14, .ref zy)] [(zs, 150, 120000, ca 1, C.s), (zn, 151, 120000, ca 1, C.n), (za, 152, 120000, ca 1, C.a), (zb, 153, 120000, ca 1, C.b), (zc, 154, 120000, ca 1, C.c), (zy, 165, 16, ca 1, C.y)] [] H_32 locs_32 := ((hh_6.call hb_321 hb_322 hb_323 hb_324 hS_32 rfl (L1 := [(r0, 15, 5, .int pn), (r0, 15, 11, .int py), (r0, 15, 36, .int pb), (r0, 15, 0, .ref zs), (r0, 15, 1, .ref zn), (r0, 15, 2, .ref za), (r0, 15, 3, .ref zb), (r0, 15, 4, .ref zc), (r0, 15, 14, .ref zy)]) [0, 2, 3, 4, 5, 6, 7, 8, 9] rfl rfl (M1 := [(zs, 150, 120000, ca 1, C.s), (zn, 151, 120000, ca 1, C.n), (za, 152, 120000, ca 1, C.a), (zb, 153, 120000, ca 1, C.b), (zc, 154, 120000, ca 1, C.c), (zy, 165, 16, ca 1, C.y)]) [0, 1, 2, 3, 4, 5] rfl rfl (I1 := []) [] rfl rfl).more hb_325)
              clear hh_6 ht_32 hvm_32 hz_32 hk_32 hS_32 hb_321 hb_322 hb_323 hb_324 hb_325
              obtain ⟨hr_33_0, hr_33_1, hr_33_2, hr_33_3⟩ := hr_33
              refine lv_aload_n hx hb dX13_meantTerm_100 rfl (lv_at hl 0 rfl) ?_
              refine lv_bipush (v := 9) hx hb dX13_meantTerm_101 (by decide) ?_
              refine lv_iload_n hx hb dX13_meantTerm_103 rfl (lv_at hl 2 rfl) ?_
              refine lv_iconst (v := 0) hx hb dX13_meantTerm_104 (by decide) ?_
              refine lv_iconst (v := 0) hx hb dX13_meantTerm_105 (by decide) ?_
              refine lv_iconst (v := 0) hx hb dX13_meantTerm_106 (by decide) ?_
              refine va_calli (A0 := jA base) (H0 := s.heap) (va_runV (As := [.int 9, .int z_2, .int 0, .int 0, .int 0]) (rest := []) ⟨hx, hb, hml, hown, hts⟩ (uX13_nodeK l dC dI ca base B hB hAp hB15 hB150 hB151 hB152 hB153 hB154 hB165 G0 H_32 r0 9 z_2 0 0 0 pn zs zn za zb zc zy C) (cwV 5 hts (jgV (jWr_62 _ (List.mem_of_getElem? (i := 9) rfl)) (jWr_62 _ (List.mem_of_getElem? (i := 10) rfl)) (jWr_62 _ (List.mem_of_getElem? (i := 11) rfl)) (jWr_12 _ (List.mem_of_getElem? (i := 12) rfl)) (jWr_62 _ (List.mem_of_getElem? (i := 12) rfl))) rfl rfl rfl (by decide +kernel) ⟨by rw [← hR]; show (0) + 1 ≤ 2 * d + 4; omega, by rw [← hR]; show 8 + (6 + 11) + (0) ≤ 60 * d + 200; omega⟩) ⟨fun a U g mk q => by obtain ⟨q0, q1, q2, qK, q10, q11, q12, q13, q14, q15, q16, q17, q18, q19⟩ := q; exact ⟨q0, q1, q2, jG.calling g mk a qK, q10, q11, q12, q13, q14, q15, q16, q17, q18, q19⟩, hh_32.recv (C := RX13) (T := TX13) (N := 50) hB15 rfl (by decide) hg_r0 hK, fun U hU hW => ⟨rfl, hU, hh_32.2.1, hG.step hW hU hh_32.1, hg_r0, hg_zs, hg_zn, hg_za, hg_zb, hg_zc, hg_zy, (hh_32.2.2.1.sub (L1 := [(r0, 15, 5, .int pn), (r0, 15, 0, .ref zs), (r0, 15, 1, .ref zn), (r0, 15, 2, .ref za), (r0, 15, 3, .ref zb), (r0, 15, 4, .ref zc), (r0, 15, 14, .ref zy)]) [1, 4, 5, 6, 7, 8, 9] rfl), (hh_32.2.2.2.2.2.2.2.1.sub (L1 := [(zs, 150, 120000, ca 1, C.s), (zn, 151, 120000, ca 1, C.n), (za, 152, 120000, ca 1, C.a), (zb, 153, 120000, ca 1, C.b), (zc, 154, 120000, ca 1, C.c), (zy, 165, 16, ca 1, C.y)]) [0, 1, 2, 3, 4, 5] rfl), by first | omega | (refine ⟨?_, ?_⟩ <;> (first | omega | rfl | assumption | decide | exact Or.inl rfl | exact Or.inr rfl | (simp only; omega)))⟩⟩ rfl rfl hl.1 rfl (lv_room (Nat.le_of_ble_eq_true rfl)) dX13_meantTerm_107 ⟨Nat.zero_le _, Nat.zero_le _⟩) hh_32.1 (fun q _ h => h) (fun q h => h) (fun r_35 u_34 t_34 H_34 locs_34 ht_34 hvm_34 hr_35 hb_34 hz_34 hk_34 hS_34 => ?_)
              obtain ⟨qn_34, D_34⟩ := u_34
              rw [ht_34] at hb_34
              obtain ⟨⟨hb_341, hb_342, hb_343, hb_344, hb_345⟩, hb_346⟩ := hb_34
              have hh_34 : jSt (dC, dI) B base G0 G0 EX13_meantTerm s.heap 0 0 [(r0, 15, 5, .int qn_34), (r0, 15, 34, .int qu_32), (r0, 15, 11, .int py), (r0, 15, 36, .int pb), (r0, 15, 0, .ref zs), (r0, 15, 1, .ref zn), (r0, 15, 2, .ref za), (r0, 15, 3, .ref zb), (r0, 15, 4, .ref zc), (r0, 15, 14, .ref zy)] [(zs, 150, 120000, ca 1, D_34.s), (zn, 151, 120000, ca 1, D_34.n), (za, 152, 120000, ca 1, D_34.a), (zb, 153, 120000, ca 1, D_34.b), (zc, 154, 120000, ca 1, D_34.c), (zy, 165, 16, ca 1, D_34.y), (zy, 165, 16, ca 1, C.y)] [] H_34 locs_34 := ((hh_32.call hb_341 hb_342 hb_343 hb_344 hS_34 rfl (L1 := [(r0, 15, 34, .int qu_32), (r0, 15, 11, .int py), (r0, 15, 36, .int pb), (r0, 15, 0, .ref zs), (r0, 15, 1, .ref zn), (r0, 15, 2, .ref za), (r0, 15, 3, .ref zb), (r0, 15, 4, .ref zc), (r0, 15, 14, .ref zy)]) [0, 2, 3, 4, 5, 6, 7, 8, 9] rfl rfl (M1 := [(zy, 165, 16, ca 1, C.y)]) [5] rfl rfl (I1 := []) [] rfl rfl).more hb_345).moreM hb_346
              clear hh_32 ht_34 hvm_34 hz_34 hk_34 hS_34 hb_341 hb_342 hb_343 hb_344 hb_345
              clear hb_346
              try simp only at hr_35
              obtain ⟨hr_35_0, hr_35_1, hr_35_2⟩ := hr_35
              rw [hQ]
              exact W.iret (v := r_35) hx hb hr (fun t ht hW => ⟨⟨r_35, (qn_34, qu_32, D_34), rfl, by (try dsimp only); refine ⟨by omega, by omega, by omega, by omega, hr_35_2.1, fun h9 => ?_⟩; have k := jMk0 (e := d) (b := pb.toInt) (Y := py.toInt) hr_35_2 (by omega) (by omega) (by omega); rw [hr_35_0, hr_35_1]; exact ⟨k.1, by omega⟩, ⟨hh_34.rt (M1 := [(r0, 15, 5, .int qn_34), (r0, 15, 34, .int qu_32)]) [0, 1] rfl ht, by rw [ht]; exact hh_34.2.2.2.2.2.2.2.1.sub [0, 1, 2, 3, 4, 5] rfl⟩⟩, by rw [ht]; try exact hh_34.1.1, fun q h9 hq => by rw [ht]; try exact hh_34.1.2.1 q h9 hq⟩) hh_34.1.2.2 dX13_meantTerm_110
        · skip
          have c_5' : v3_4.toInt ≥ 0 := jb_lt_n (rfl) ((by decide)) c_5
          refine lv_aload_n hx hb dX13_meantTerm_27 rfl (lv_at hl 0 rfl) ?_
          obtain ⟨v_36, hv_36, hh_37⟩ := hh_4.pin (C := RX13) (T := TX13) (N := 50) hB15 rfl (by decide) hg_r0 (i := 35) (by decide) rfl
          clear hh_4
          obtain ⟨binder_38, rfl, hg_binder_38⟩ := hv_36
          refine j7_read hx hb hown hK (C := RX13) (T := TX13) (N := 50) rfl hly_15_35 hlk_77 (hh_37.at 0 rfl) dX13_meantTerm_28 ?_
          refine lv_iload_n hx hb dX13_meantTerm_31 rfl (lv_at hl 3 rfl) ?_
          refine j7_iald hx hb hK hh_37 hB163 1 rfl (by decide) hg_binder_38 (x := v3_4.toInt) (rfl) (by omega) dX13_meantTerm_32 (fun z_39 (hz_39 : 0 ≤ z_39.toInt ∧ z_39.toInt ≤ 1599) => ?_)
          refine lv_iload_n hx hb dX13_meantTerm_33 rfl (lv_at hl 2 rfl) ?_
          refine lv_icmp_eq (tgt := 40) hx hb dX13_meantTerm_34 (by decide) (fun c_40 => ?_) (fun c_40 => ?_)
          · skip
            have c_40' : z_39.toInt = z_2.toInt := jb_eq (rfl) (rfl) c_40
            refine lv_aload_n hx hb dX13_meantTerm_40 rfl (lv_at hl 0 rfl) ?_
            refine j7_read hx hb hown hK (C := RX13) (T := TX13) (N := 50) rfl hly_15_4 hlk_25 (hh_37.at 9 rfl) dX13_meantTerm_41 ?_
            refine lv_iload_n hx hb dX13_meantTerm_44 rfl (lv_at hl 1 rfl) ?_
            refine j7_ialdM hx hb hK hh_37 hB154 1 rfl (by decide) hg_zc (x := a1.toInt) (rfl) (by omega) (j := 4) rfl dX13_meantTerm_45 (fun z_41 ez_41 (hz_41 : True) => ?_)
            have hqz_41 : z_41.toInt = jSo C.c (a1.toInt) := by unfold jSo; rw [ez_41]
            refine lv_if_le (tgt := 54) hx hb dX13_meantTerm_46 (by decide) (fun c_42 => ?_) (fun c_42 => ?_)
            · skip
              have c_42' : z_41.toInt ≤ 0 := jb_le (rfl) ((by decide)) c_42
              refine lv_aload_n hx hb dX13_meantTerm_54 rfl (lv_at hl 0 rfl) ?_
              refine lv_bipush (v := 10) hx hb dX13_meantTerm_55 (by decide) ?_
              refine lv_aload_n hx hb dX13_meantTerm_57 rfl (lv_at hl 0 rfl) ?_
              refine j7_read hx hb hown hK (C := RX13) (T := TX13) (N := 50) rfl hly_15_36 hlk_242 (hh_37.at 4 rfl) dX13_meantTerm_58 ?_
              refine lv_iconst (v := 1) hx hb dX13_meantTerm_61 (by decide) ?_
              refine lv_isub hx hb dX13_meantTerm_62 ?_
              refine lv_topi (fun z_43 ez_43 => ?_)
              have hz_43 : z_43.toInt = pb.toInt - 1 := by rw [ez_43]; exact jb_isub2 (rfl) ((by decide)) (by omega)
              refine lv_iload_n hx hb dX13_meantTerm_63 rfl (lv_at hl 3 rfl) ?_
              refine lv_isub hx hb dX13_meantTerm_64 ?_
              refine lv_topi (fun z_44 ez_44 => ?_)
              have hz_44 : z_44.toInt = z_43.toInt - v3_4.toInt := by rw [ez_44]; exact jb_isub2 (rfl) (rfl) (by omega)
              refine lv_iconst (v := 0) hx hb dX13_meantTerm_65 (by decide) ?_
              refine lv_iconst (v := 0) hx hb dX13_meantTerm_66 (by decide) ?_
              refine lv_iconst (v := 0) hx hb dX13_meantTerm_67 (by decide) ?_
              refine va_calli (A0 := jA base) (H0 := s.heap) (va_runV (As := [.int 10, .int z_44, .int 0, .int 0, .int 0]) (rest := []) ⟨hx, hb, hml, hown, hts⟩ (uX13_nodeK l dC dI ca base B hB hAp hB15 hB150 hB151 hB152 hB153 hB154 hB165 G0 H_4 r0 10 z_44 0 0 0 pn zs zn za zb zc zy C) (cwV 5 hts (jgV (jWr_62 _ (List.mem_of_getElem? (i := 9) rfl)) (jWr_62 _ (List.mem_of_getElem? (i := 10) rfl)) (jWr_62 _ (List.mem_of_getElem? (i := 11) rfl)) (jWr_12 _ (List.mem_of_getElem? (i := 12) rfl)) (jWr_62 _ (List.mem_of_getElem? (i := 12) rfl))) rfl rfl rfl (by decide +kernel) ⟨by rw [← hR]; show (0) + 1 ≤ 2 * d + 4; omega, by rw [← hR]; show 8 + (6 + 11) + (0) ≤ 60 * d + 200; omega⟩) ⟨fun a U g mk q => by obtain ⟨q0, q1, q2, qK, q10, q11, q12, q13, q14, q15, q16, q17, q18, q19⟩ := q; exact ⟨q0, q1, q2, jG.calling g mk a qK, q10, q11, q12, q13, q14, q15, q16, q17, q18, q19⟩, hh_37.recv (C := RX13) (T := TX13) (N := 50) hB15 rfl (by decide) hg_r0 hK, fun U hU hW => ⟨rfl, hU, hh_37.2.1, hG.step hW hU hh_37.1, hg_r0, hg_zs, hg_zn, hg_za, hg_zb, hg_zc, hg_zy, (hh_37.2.2.1.sub (L1 := [(r0, 15, 5, .int pn), (r0, 15, 0, .ref zs), (r0, 15, 1, .ref zn), (r0, 15, 2, .ref za), (r0, 15, 3, .ref zb), (r0, 15, 4, .ref zc), (r0, 15, 14, .ref zy)]) [1, 5, 6, 7, 8, 9, 10] rfl), (hh_37.2.2.2.2.2.2.2.1.sub (L1 := [(zs, 150, 120000, ca 1, C.s), (zn, 151, 120000, ca 1, C.n), (za, 152, 120000, ca 1, C.a), (zb, 153, 120000, ca 1, C.b), (zc, 154, 120000, ca 1, C.c), (zy, 165, 16, ca 1, C.y)]) [0, 1, 2, 3, 4, 5] rfl), by first | omega | (refine ⟨?_, ?_⟩ <;> (first | omega | rfl | assumption | decide | exact Or.inl rfl | exact Or.inr rfl | (simp only; omega)))⟩⟩ rfl rfl hl.1 rfl (lv_room (Nat.le_of_ble_eq_true rfl)) dX13_meantTerm_68 ⟨Nat.zero_le _, Nat.zero_le _⟩) hh_37.1 (fun q _ h => h) (fun q h => h) (fun r_46 u_45 t_45 H_45 locs_45 ht_45 hvm_45 hr_46 hb_45 hz_45 hk_45 hS_45 => ?_)
              obtain ⟨qn_45, D_45⟩ := u_45
              rw [ht_45] at hb_45
              obtain ⟨⟨hb_451, hb_452, hb_453, hb_454, hb_455⟩, hb_456⟩ := hb_45
              have hh_45 : jSt (dC, dI) B base G0 G0 EX13_meantTerm s.heap 0 0 [(r0, 15, 5, .int qn_45), (r0, 15, 35, .ref binder_38), (r0, 15, 34, .int pu), (r0, 15, 11, .int py), (r0, 15, 36, .int pb), (r0, 15, 0, .ref zs), (r0, 15, 1, .ref zn), (r0, 15, 2, .ref za), (r0, 15, 3, .ref zb), (r0, 15, 4, .ref zc), (r0, 15, 14, .ref zy)] [(zs, 150, 120000, ca 1, D_45.s), (zn, 151, 120000, ca 1, D_45.n), (za, 152, 120000, ca 1, D_45.a), (zb, 153, 120000, ca 1, D_45.b), (zc, 154, 120000, ca 1, D_45.c), (zy, 165, 16, ca 1, D_45.y), (zy, 165, 16, ca 1, C.y)] [] H_45 locs_45 := ((hh_37.call hb_451 hb_452 hb_453 hb_454 hS_45 rfl (L1 := [(r0, 15, 35, .ref binder_38), (r0, 15, 34, .int pu), (r0, 15, 11, .int py), (r0, 15, 36, .int pb), (r0, 15, 0, .ref zs), (r0, 15, 1, .ref zn), (r0, 15, 2, .ref za), (r0, 15, 3, .ref zb), (r0, 15, 4, .ref zc), (r0, 15, 14, .ref zy)]) [0, 2, 3, 4, 5, 6, 7, 8, 9, 10] rfl rfl (M1 := [(zy, 165, 16, ca 1, C.y)]) [5] rfl rfl (I1 := []) [] rfl rfl).more hb_455).moreM hb_456
              clear hh_37 ht_45 hvm_45 hz_45 hk_45 hS_45 hb_451 hb_452 hb_453 hb_454 hb_455
              clear hb_456
              try simp only at hr_46
              obtain ⟨hr_46_0, hr_46_1, hr_46_2⟩ := hr_46
              rw [hQ]
              exact W.iret (v := r_46) hx hb hr (fun t ht hW => ⟨⟨r_46, (qn_45, pu, D_45), rfl, by (try dsimp only); refine ⟨by omega, by omega, by omega, by omega, hr_46_2.1, fun h9 => ?_⟩; have k := jMk0 (e := d) (b := pb.toInt) (Y := py.toInt) hr_46_2 (by omega) (by omega) (by omega); rw [hr_46_0, hr_46_1]; exact ⟨k.1, by omega⟩, ⟨hh_45.rt (M1 := [(r0, 15, 5, .int qn_45), (r0, 15, 34, .int pu)]) [0, 2] rfl ht, by rw [ht]; exact hh_45.2.2.2.2.2.2.2.1.sub [0, 1, 2, 3, 4, 5] rfl⟩⟩, by rw [ht]; try exact hh_45.1.1, fun q h9 hq => by rw [ht]; try exact hh_45.1.2.1 q h9 hq⟩) hh_45.1.2.2 dX13_meantTerm_71
            · skip
              have c_42' : z_41.toInt > 0 := jb_le_n (rfl) ((by decide)) c_42
              refine lv_aload_n hx hb dX13_meantTerm_49 rfl (lv_at hl 0 rfl) ?_
              refine lv_iconst (v := 5) hx hb dX13_meantTerm_50 (by decide) ?_
              refine va_callv (A0 := jA base) (H0 := s.heap) (va_runV (As := [.int 5]) (rest := []) ⟨hx, hb, hml, hown, hts⟩ (uX13_failsK l dC dI ca base B hB hAp hB15 G0 H_4 r0 5 pu) (cwV 1 hts (jgV (jWr_64 _ (List.mem_of_getElem? (i := 19) rfl)) (jWr_64 _ (List.mem_of_getElem? (i := 20) rfl)) (jWr_64 _ (List.mem_of_getElem? (i := 21) rfl)) (jWr_12 _ (List.mem_of_getElem? (i := 12) rfl)) (jWr_64 _ (List.mem_of_getElem? (i := 22) rfl))) rfl rfl rfl (by decide +kernel) ⟨by rw [← hR]; show (0) + 1 ≤ 2 * d + 4; omega, by rw [← hR]; show 8 + (2 + 11) + (0) ≤ 60 * d + 200; omega⟩) ⟨fun a U g mk q => by obtain ⟨q0, q1, q2, qK, q10, q11, q12⟩ := q; exact ⟨q0, q1, q2, jG.calling g mk a qK, q10, q11, q12⟩, hh_37.recv (C := RX13) (T := TX13) (N := 50) hB15 rfl (by decide) hg_r0 hK, fun U hU hW => ⟨rfl, hU, hh_37.2.1, hG.step hW hU hh_37.1, hg_r0, (hh_37.2.2.1.sub (L1 := [(r0, 15, 34, .int pu)]) [2] rfl), by first | omega | (refine ⟨?_, ?_, ?_, ?_⟩ <;> (first | omega | rfl | assumption | decide | exact Or.inl rfl | exact Or.inr rfl | (simp only; omega)))⟩⟩ rfl rfl hl.1 rfl (lv_room (Nat.le_of_ble_eq_true rfl)) dX13_meantTerm_51 ⟨Nat.zero_le _, Nat.zero_le _⟩) hh_37.1 (fun q _ h => h) (fun q h => h) (fun u_47 t_47 H_47 locs_47 ht_47 hvm_47 hr_48 hb_47 hz_47 hk_47 hS_47 => ?_)
              obtain ⟨qu_47, rfl⟩ : ∃ z, z = u_47 := ⟨_, rfl⟩
              rw [ht_47] at hb_47
              obtain ⟨hb_471, hb_472, hb_473, hb_474, hb_475⟩ := hb_47
              have hh_47 : jSt (dC, dI) B base G0 G0 EX13_meantTerm s.heap 0 0 [(r0, 15, 34, .int qu_47), (r0, 15, 35, .ref binder_38), (r0, 15, 5, .int pn), (r0, 15, 11, .int py), (r0, 15, 36, .int pb), (r0, 15, 0, .ref zs), (r0, 15, 1, .ref zn), (r0, 15, 2, .ref za), (r0, 15, 3, .ref zb), (r0, 15, 4, .ref zc), (r0, 15, 14, .ref zy)] [(zs, 150, 120000, ca 1, C.s), (zn, 151, 120000, ca 1, C.n), (za, 152, 120000, ca 1, C.a), (zb, 153, 120000, ca 1, C.b), (zc, 154, 120000, ca 1, C.c), (zy, 165, 16, ca 1, C.y)] [] H_47 locs_47 := ((hh_37.call hb_471 hb_472 hb_473 hb_474 hS_47 rfl (L1 := [(r0, 15, 35, .ref binder_38), (r0, 15, 5, .int pn), (r0, 15, 11, .int py), (r0, 15, 36, .int pb), (r0, 15, 0, .ref zs), (r0, 15, 1, .ref zn), (r0, 15, 2, .ref za), (r0, 15, 3, .ref zb), (r0, 15, 4, .ref zc), (r0, 15, 14, .ref zy)]) [0, 1, 3, 4, 5, 6, 7, 8, 9, 10] rfl rfl (M1 := [(zs, 150, 120000, ca 1, C.s), (zn, 151, 120000, ca 1, C.n), (za, 152, 120000, ca 1, C.a), (zb, 153, 120000, ca 1, C.b), (zc, 154, 120000, ca 1, C.c), (zy, 165, 16, ca 1, C.y)]) [0, 1, 2, 3, 4, 5] rfl rfl (I1 := []) [] rfl rfl).more hb_475)
              clear hh_37 ht_47 hvm_47 hz_47 hk_47 hS_47 hb_471 hb_472 hb_473 hb_474 hb_475
              obtain ⟨hr_48_0, hr_48_1, hr_48_2, hr_48_3⟩ := hr_48
              refine lv_aload_n hx hb dX13_meantTerm_54 rfl (lv_at hl 0 rfl) ?_
              refine lv_bipush (v := 10) hx hb dX13_meantTerm_55 (by decide) ?_
              refine lv_aload_n hx hb dX13_meantTerm_57 rfl (lv_at hl 0 rfl) ?_
              refine j7_read hx hb hown hK (C := RX13) (T := TX13) (N := 50) rfl hly_15_36 hlk_242 (hh_47.at 4 rfl) dX13_meantTerm_58 ?_
              refine lv_iconst (v := 1) hx hb dX13_meantTerm_61 (by decide) ?_
              refine lv_isub hx hb dX13_meantTerm_62 ?_
              refine lv_topi (fun z_49 ez_49 => ?_)
              have hz_49 : z_49.toInt = pb.toInt - 1 := by rw [ez_49]; exact jb_isub2 (rfl) ((by decide)) (by omega)
              refine lv_iload_n hx hb dX13_meantTerm_63 rfl (lv_at hl 3 rfl) ?_
              refine lv_isub hx hb dX13_meantTerm_64 ?_
              refine lv_topi (fun z_50 ez_50 => ?_)
              have hz_50 : z_50.toInt = z_49.toInt - v3_4.toInt := by rw [ez_50]; exact jb_isub2 (rfl) (rfl) (by omega)
              refine lv_iconst (v := 0) hx hb dX13_meantTerm_65 (by decide) ?_
              refine lv_iconst (v := 0) hx hb dX13_meantTerm_66 (by decide) ?_
              refine lv_iconst (v := 0) hx hb dX13_meantTerm_67 (by decide) ?_
              refine va_calli (A0 := jA base) (H0 := s.heap) (va_runV (As := [.int 10, .int z_50, .int 0, .int 0, .int 0]) (rest := []) ⟨hx, hb, hml, hown, hts⟩ (uX13_nodeK l dC dI ca base B hB hAp hB15 hB150 hB151 hB152 hB153 hB154 hB165 G0 H_47 r0 10 z_50 0 0 0 pn zs zn za zb zc zy C) (cwV 5 hts (jgV (jWr_62 _ (List.mem_of_getElem? (i := 9) rfl)) (jWr_62 _ (List.mem_of_getElem? (i := 10) rfl)) (jWr_62 _ (List.mem_of_getElem? (i := 11) rfl)) (jWr_12 _ (List.mem_of_getElem? (i := 12) rfl)) (jWr_62 _ (List.mem_of_getElem? (i := 12) rfl))) rfl rfl rfl (by decide +kernel) ⟨by rw [← hR]; show (0) + 1 ≤ 2 * d + 4; omega, by rw [← hR]; show 8 + (6 + 11) + (0) ≤ 60 * d + 200; omega⟩) ⟨fun a U g mk q => by obtain ⟨q0, q1, q2, qK, q10, q11, q12, q13, q14, q15, q16, q17, q18, q19⟩ := q; exact ⟨q0, q1, q2, jG.calling g mk a qK, q10, q11, q12, q13, q14, q15, q16, q17, q18, q19⟩, hh_47.recv (C := RX13) (T := TX13) (N := 50) hB15 rfl (by decide) hg_r0 hK, fun U hU hW => ⟨rfl, hU, hh_47.2.1, hG.step hW hU hh_47.1, hg_r0, hg_zs, hg_zn, hg_za, hg_zb, hg_zc, hg_zy, (hh_47.2.2.1.sub (L1 := [(r0, 15, 5, .int pn), (r0, 15, 0, .ref zs), (r0, 15, 1, .ref zn), (r0, 15, 2, .ref za), (r0, 15, 3, .ref zb), (r0, 15, 4, .ref zc), (r0, 15, 14, .ref zy)]) [2, 5, 6, 7, 8, 9, 10] rfl), (hh_47.2.2.2.2.2.2.2.1.sub (L1 := [(zs, 150, 120000, ca 1, C.s), (zn, 151, 120000, ca 1, C.n), (za, 152, 120000, ca 1, C.a), (zb, 153, 120000, ca 1, C.b), (zc, 154, 120000, ca 1, C.c), (zy, 165, 16, ca 1, C.y)]) [0, 1, 2, 3, 4, 5] rfl), by first | omega | (refine ⟨?_, ?_⟩ <;> (first | omega | rfl | assumption | decide | exact Or.inl rfl | exact Or.inr rfl | (simp only; omega)))⟩⟩ rfl rfl hl.1 rfl (lv_room (Nat.le_of_ble_eq_true rfl)) dX13_meantTerm_68 ⟨Nat.zero_le _, Nat.zero_le _⟩) hh_47.1 (fun q _ h => h) (fun q h => h) (fun r_52 u_51 t_51 H_51 locs_51 ht_51 hvm_51 hr_52 hb_51 hz_51 hk_51 hS_51 => ?_)
              obtain ⟨qn_51, D_51⟩ := u_51
              rw [ht_51] at hb_51
              obtain ⟨⟨hb_511, hb_512, hb_513, hb_514, hb_515⟩, hb_516⟩ := hb_51
              have hh_51 : jSt (dC, dI) B base G0 G0 EX13_meantTerm s.heap 0 0 [(r0, 15, 5, .int qn_51), (r0, 15, 34, .int qu_47), (r0, 15, 35, .ref binder_38), (r0, 15, 11, .int py), (r0, 15, 36, .int pb), (r0, 15, 0, .ref zs), (r0, 15, 1, .ref zn), (r0, 15, 2, .ref za), (r0, 15, 3, .ref zb), (r0, 15, 4, .ref zc), (r0, 15, 14, .ref zy)] [(zs, 150, 120000, ca 1, D_51.s), (zn, 151, 120000, ca 1, D_51.n), (za, 152, 120000, ca 1, D_51.a), (zb, 153, 120000, ca 1, D_51.b), (zc, 154, 120000, ca 1, D_51.c), (zy, 165, 16, ca 1, D_51.y), (zy, 165, 16, ca 1, C.y)] [] H_51 locs_51 := ((hh_47.call hb_511 hb_512 hb_513 hb_514 hS_51 rfl (L1 := [(r0, 15, 34, .int qu_47), (r0, 15, 35, .ref binder_38), (r0, 15, 11, .int py), (r0, 15, 36, .int pb), (r0, 15, 0, .ref zs), (r0, 15, 1, .ref zn), (r0, 15, 2, .ref za), (r0, 15, 3, .ref zb), (r0, 15, 4, .ref zc), (r0, 15, 14, .ref zy)]) [0, 1, 3, 4, 5, 6, 7, 8, 9, 10] rfl rfl (M1 := [(zy, 165, 16, ca 1, C.y)]) [5] rfl rfl (I1 := []) [] rfl rfl).more hb_515).moreM hb_516
              clear hh_47 ht_51 hvm_51 hz_51 hk_51 hS_51 hb_511 hb_512 hb_513 hb_514 hb_515
              clear hb_516
              try simp only at hr_52
              obtain ⟨hr_52_0, hr_52_1, hr_52_2⟩ := hr_52
              rw [hQ]
              exact W.iret (v := r_52) hx hb hr (fun t ht hW => ⟨⟨r_52, (qn_51, qu_47, D_51), rfl, by (try dsimp only); refine ⟨by omega, by omega, by omega, by omega, hr_52_2.1, fun h9 => ?_⟩; have k := jMk0 (e := d) (b := pb.toInt) (Y := py.toInt) hr_52_2 (by omega) (by omega) (by omega); rw [hr_52_0, hr_52_1]; exact ⟨k.1, by omega⟩, ⟨hh_51.rt (M1 := [(r0, 15, 5, .int qn_51), (r0, 15, 34, .int qu_47)]) [0, 1] rfl ht, by rw [ht]; exact hh_51.2.2.2.2.2.2.2.1.sub [0, 1, 2, 3, 4, 5] rfl⟩⟩, by rw [ht]; try exact hh_51.1.1, fun q h9 hq => by rw [ht]; try exact hh_51.1.2.1 q h9 hq⟩) hh_51.1.2.2 dX13_meantTerm_71
          · skip
            have c_40' : z_39.toInt ≠ z_2.toInt := jb_eq_n (rfl) (rfl) c_40
            refine lv_goto (tgt := 72) hx hb dX13_meantTerm_37 (by decide) ?_
            obtain ⟨z_53, ez_53⟩ : ∃ y : Int32, y = v3_4 + (-1) := ⟨_, rfl⟩
            refine lv_iinc (v := z_53) (lv' := [(3, .int z_53), (0, .ref r0), (1, .int a1), (2, .int z_2)]) hx hb dX13_meantTerm_72 hl (k := 3) rfl (by rw [ez_53]; rfl) (by decide) rfl (fun ls hl => ?_)
            have hz_53 : z_53.toInt = v3_4.toInt + (-1) := by rw [ez_53]; exact jb_iadd2 (rfl) (by decide) (by omega)
            refine lv_goto (tgt := 23) hx hb dX13_meantTerm_75 (by decide) ?_
            exact L23 z_53 _ _ (hh_37.sub (L1 := [(r0, 15, 5, .int pn), (r0, 15, 34, .int pu), (r0, 15, 11, .int py), (r0, 15, 36, .int pb), (r0, 15, 0, .ref zs), (r0, 15, 1, .ref zn), (r0, 15, 2, .ref za), (r0, 15, 3, .ref zb), (r0, 15, 4, .ref zc), (r0, 15, 14, .ref zy)]) [1, 2, 3, 4, 5, 6, 7, 8, 9, 10] rfl (M1 := [(zs, 150, 120000, ca 1, C.s), (zn, 151, 120000, ca 1, C.n), (za, 152, 120000, ca 1, C.a), (zb, 153, 120000, ca 1, C.b), (zc, 154, 120000, ca 1, C.c), (zy, 165, 16, ca 1, C.y)]) [0, 1, 2, 3, 4, 5] rfl (I1 := []) [] rfl) (by first | omega | (refine ⟨?_, ?_⟩ <;> (first | omega | rfl | assumption | decide | exact Or.inl rfl | exact Or.inr rfl | (simp only; omega)))) (by omega) _ (lv_sub hl [1, 2, 3, 0] rfl)
    exact L23 ((z_3 : Int32).toInt + 1 : Int).toNat.succ z_3 _ _ hh (by first | omega | (refine ⟨?_, ?_⟩ <;> (first | omega | rfl | assumption | decide | exact Or.inl rfl | exact Or.inr rfl | (simp only; omega)))) (by omega) _ (lv_sub hl [2, 3, 1, 0] rfl)
  · skip
    have c_1' : pu.toInt > 0 := jb_le_n (rfl) ((by decide)) c_1
    refine lv_iconst (v := 0) hx hb dX13_meantTerm_7 (by decide) ?_
    rw [hQ]
    exact W.iret (v := 0) hx hb hr (fun t ht hW => ⟨⟨0, (pn, pu, C), rfl, by (try dsimp only); refine ⟨by omega, by omega, by omega, by omega, jAgK.rf _ _, fun h9 => absurd h9 (by omega)⟩, ⟨hh.rt (M1 := [(r0, 15, 5, .int pn), (r0, 15, 34, .int pu)]) [0, 1] rfl ht, by rw [ht]; exact hh.2.2.2.2.2.2.2.1.sub [0, 1, 2, 3, 4, 5] rfl⟩⟩, by rw [ht]; try exact hh.1.1, fun q h9 hq => by rw [ht]; try exact hh.1.2.1 q h9 hq⟩) hh.1.2.2 dX13_meantTerm_8
theorem aX13_meantTermW (l : Launch) (dC : Nat → ClassId) (dI : Nat → Nat → Nat) (ca : Nat → ClassId) (base : Nat) (B : jF) (hB : jBok B) (hAp : jAp (dC, dI)) (hB15 : ∀ n G a H, B 15 n G a H ↔ jOb (dC, dI) 15 50 (F15 n G) a H) (hB103 : ∀ n G a H, B 103 n G a H ↔ jAr (dC, dI) (ca 3) (fun j z => (z = 0 ∨ z = 1)) n a H) (hB150 : ∀ n G a H, B 150 n G a H ↔ jAr (dC, dI) (ca 1) (fun j z => True) n a H) (hB151 : ∀ n G a H, B 151 n G a H ↔ jAr (dC, dI) (ca 1) (fun j z => True) n a H) (hB152 : ∀ n G a H, B 152 n G a H ↔ jAr (dC, dI) (ca 1) (fun j z => True) n a H) (hB153 : ∀ n G a H, B 153 n G a H ↔ jAr (dC, dI) (ca 1) (fun j z => True) n a H) (hB154 : ∀ n G a H, B 154 n G a H ↔ jAr (dC, dI) (ca 1) (fun j z => True) n a H) (hB158 : ∀ n G a H, B 158 n G a H ↔ jAr (dC, dI) (ca 1) (fun j z => 0 ≤ z.toInt ∧ z.toInt ≤ 6) n a H) (hB163 : ∀ n G a H, B 163 n G a H ↔ jAr (dC, dI) (ca 1) (fun j z => 0 ≤ z.toInt ∧ z.toInt ≤ 1599) n a H) (hB165 : ∀ n G a H, B 165 n G a H ↔ jAr (dC, dI) (ca 1) (fun j z => 0 ≤ z.toInt ∧ z.toInt ≤ 3) n a H) : ∀ d, qX13_withParts l dC dI ca base B d ∧ qX13_meantTerm l dC dI ca base B d := fun d => Nat.strongRecOn d (fun d ih => by
  have h1 : qX13_withParts l dC dI ca base B d := fun G0 H0 r0 a1 a2 a3 pn pu py pb zs zn za zb zc zy hi C => uX13_withParts l dC dI ca base B hB hAp hB15 hB103 hB150 hB151 hB152 hB153 hB154 hB158 hB163 hB165 d (fun e1 h => (ih e1 h).2) G0 H0 r0 a1 a2 a3 pn pu py pb zs zn za zb zc zy hi C
  exact ⟨h1, fun G0 H0 r0 a1 pn pu py pb zs zn za zb zc zy hi C => uX13_meantTerm l dC dI ca base B hB hAp hB15 hB103 hB150 hB151 hB152 hB153 hB154 hB158 hB163 hB165 d h1 G0 H0 r0 a1 pn pu py pb zs zn za zb zc zy hi C⟩)
end
